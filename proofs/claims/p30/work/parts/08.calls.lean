/-! contracts over the world -/
def rmk (k : Nat) : Room := { frames := k, cells := 0, slots := 0, locals := 48 * k }
def gPc (D : va_G) (ck : Nat → ClassId) (ad : Nat → Nat) (σ : Sg) (sz : Nat) (av : List Value) : Array Value → State → Prop := va_Pc av (fun U => U.heap.size = sz ∧ va_P D vwCl (gW ck ad σ) U.heap ∧ va_K D vwCl (tyk ck) U ∧ va_D (fun _ => True) (gW ck ad σ))
def gQ (D : va_G) (ck : Nat → ClassId) (ad : Nat → Nat) (post : Option Value → Sg → Prop) (A : Nat → Prop) : Array Value → State → Outcome → State → Prop := fun _ st oc t => (∃ (v : Option Value) (τ : Sg), oc = .returned v ∧ post v τ ∧ va_P D vwCl (gW ck ad τ) t.heap ∧ va_K D vwCl (tyk ck) t ∧ va_D A (gW ck ad τ)) ∧ va_F A st t
/-- the method y, at level lvl, from the world σ with the arguments av: returns v in a world τ with post v τ -/
def Mt (l : Launch) (y : MethodName) (cc : ByteArray) (maxL : Nat) (ret : Option FieldType) (lvl : Nat) (ad : Nat → Nat) (σ : Sg) (av : List Value) (post : Option Value → Sg → Prop) : Prop := ∀ (D : va_G) (ck : Nat → ClassId) (sz : Nat), Met l y (.code y cc maxL ret :: tb) (rmk lvl) (gPc D ck ad σ sz av) (gQ D ck ad post (va_A (gW ck ad σ) sz)) 0 0 (va_A (gW ck ad σ) sz)
def oI (P : Int32 → Sg → Prop) : Option Value → Sg → Prop := fun v τ => ∃ r : Int32, v = some (.int r) ∧ P r τ
def oL (P : Int64 → Sg → Prop) : Option Value → Sg → Prop := fun v τ => ∃ r : Int64, v = some (.long r) ∧ P r τ
def oR (P : Nat → Sg → Prop) : Option Value → Sg → Prop := fun v τ => ∃ r : Nat, v = some (.ref r) ∧ P r τ
def oV (P : Sg → Prop) : Option Value → Sg → Prop := fun v τ => v = none ∧ P τ
def Rx (E : Ev) (ad : Nat → Nat) (ret : Option FieldType) (post : Option Value → Sg → Prop) : Prop := match E with
  | (p, l, e, R, s, m, args, below, meth, c, cells, slots, Q, D, ck, A, nL) => Q = MQ below (gQ D ck ad post A) args s cells slots A ∧ meth.sig.returnType = ret
def lvA : List Value → List (Option Value)
  | [] => []
  | v :: vs => if v.category = 2 then some v :: none :: lvA vs else some v :: lvA vs
theorem lvA_args (k : Nat) (v : Value) : ∀ (av : List Value) (i j : Nat), (lvA av ++ List.replicate k none)[i]? = some (some v) → (j + i, v) ∈ lv_args j av := by
  intro av
  induction av with
  | nil =>
    intro i j h
    simp only [lvA, List.nil_append, List.getElem?_replicate] at h
    split at h <;> simp at h
  | cons w ws ih =>
    intro i j h
    unfold lvA at h
    unfold lv_args
    by_cases hc : w.category = 2
    · rw [if_pos hc] at h ⊢
      match i, h with
      | 0, h => simp at h; subst h; exact List.mem_cons_self
      | 1, h => simp at h
      | i + 2, h =>
        simp only [List.cons_append, List.getElem?_cons_succ] at h
        have := ih i (j + 2) h
        rw [show j + (i + 2) = j + 2 + i by omega]
        exact List.mem_cons_of_mem _ this
    · rw [if_neg hc] at h ⊢
      match i, h with
      | 0, h => simp at h; subst h; exact List.mem_cons_self
      | i + 1, h =>
        simp only [List.cons_append, List.getElem?_cons_succ] at h
        have := ih i (j + 1) h
        rw [show j + (i + 1) = j + 1 + i by omega]
        exact List.mem_cons_of_mem _ this
theorem Mt_intro {l : Launch} {y : MethodName} {cc : ByteArray} {maxL : Nat} {ret : Option FieldType} {lvl : Nat} {ad : Nat → Nat} {σ : Sg} {av : List Value} {post : Option Value → Sg → Prop} (hy : plainName y.cls = true) (hlen : (lg_sl av).length ≤ maxL)
    (body : ∀ E : Ev, Cx E l (rmk lvl) maxL cc y.cls → Rx E ad ret post → WP E ad 0 (lvA av ++ List.replicate (maxL - (lvA av).length) none) [] σ) : Mt l y cc maxL ret lvl ad σ av post := by
  intro D ck sz
  refine Met.ofW (cc := cc) (maxL := maxL) (ret := ret) hy rfl ?_
  intro p e s m args below meth c s₁ B hml hv
  obtain ⟨rfl, hsz, hP, hK, hD0⟩ := hv
  have hts := atoms_spec (ws := Cond.code y cc maxL ret :: tb) B.pre
  subst hsz
  have hl := lv_entry av (n := maxL) hlen
  rw [lg_entry_eq]
  have hD := hD0.self (sz := s.heap.size)
  exact body (p, l, e, (headSpec (Cond.code y cc maxL ret :: tb) (rmk lvl)).room, s, m, av.toArray, below, meth, c, 0, 0, _, D, ck, va_A (gW ck ad σ) s.heap.size, maxL) ⟨rfl, rfl, rfl, B.exec, B.bytes, hml, findClass_of_methodNamed B.named, fun w h => hts w (List.mem_cons_of_mem _ h), hK, fun q h => Or.inr h, B.notSynchronized, Nat.zero_le _, Nat.zero_le _⟩ ⟨rfl, B.returns⟩ s.heap [] _ hP hD va_S.rf ⟨hl.1, hl.2.1, fun i v h => hl.2.2 (i, v) (by have := lvA_args _ v av i 0 h; rwa [Nat.zero_add] at this)⟩
section ENDS
variable {E : Ev} {ad : Nat → Nat} {l0 : Launch} {R0 : Room} {n0 : Nat} {cc : ByteArray} {own : String} {pc : Nat} {lv : List (Option Value)} {st : List Value} {σ : Sg}

theorem s_vret (C : Cx E l0 R0 n0 cc own) {P : Sg → Prop} (X : Rx E ad none (oV P)) (d : decode cc pc = .ok (.return_, 1)) (h : P σ) : WP E ad pc lv [] σ := by
  obtain ⟨p, l, e, R, s, m, args, below, meth, c, cells, slots, Q, D, ck, A, nL⟩ := E
  obtain ⟨rfl, rfl, rfl, hx, hb, hml, hown, hts, hK, hA, hlk, hc1, hc2⟩ := C
  obtain ⟨rfl, hr⟩ := X
  intro H locs ls hP hD hS hl
  exact W.vret hx hb hr (fun t ht hW => ⟨⟨none, σ, rfl, ⟨rfl, h⟩, by rw [ht]; exact hP, va_K.moved hW.alike hK, hD⟩, hS.F ht⟩) hS.2.2 d hlk
theorem s_iret (C : Cx E l0 R0 n0 cc own) {P : Int32 → Sg → Prop} {v : Int32} (X : Rx E ad (some .int) (oI P)) (d : decode cc pc = .ok (.ireturn, 1)) (h : P v σ) : WP E ad pc lv [.int v] σ := by
  obtain ⟨p, l, e, R, s, m, args, below, meth, c, cells, slots, Q, D, ck, A, nL⟩ := E
  obtain ⟨rfl, rfl, rfl, hx, hb, hml, hown, hts, hK, hA, hlk, hc1, hc2⟩ := C
  obtain ⟨rfl, hr⟩ := X
  intro H locs ls hP hD hS hl
  exact W.iret hx hb hr (fun t ht hW => ⟨⟨some (.int v), σ, rfl, ⟨_, rfl, h⟩, by rw [ht]; exact hP, va_K.moved hW.alike hK, hD⟩, hS.F ht⟩) hS.2.2 d hlk
theorem s_zret (C : Cx E l0 R0 n0 cc own) {P : Int32 → Sg → Prop} {v : Int32} (hv : v.toInt = 0 ∨ v.toInt = 1) (X : Rx E ad (some .boolean) (oI P)) (d : decode cc pc = .ok (.ireturn, 1)) (h : P v σ) : WP E ad pc lv [.int v] σ := by
  obtain ⟨p, l, e, R, s, m, args, below, meth, c, cells, slots, Q, D, ck, A, nL⟩ := E
  obtain ⟨rfl, rfl, rfl, hx, hb, hml, hown, hts, hK, hA, hlk, hc1, hc2⟩ := C
  obtain ⟨rfl, hr⟩ := X
  intro H locs ls hP hD hS hl
  exact W.zret hx hb hr (bl_n hv).1 (fun t ht hW => ⟨⟨some (.int v), σ, rfl, ⟨_, rfl, h⟩, by rw [ht]; exact hP, va_K.moved hW.alike hK, hD⟩, hS.F ht⟩) hS.2.2 d hlk
theorem s_lret (C : Cx E l0 R0 n0 cc own) {P : Int64 → Sg → Prop} {v : Int64} (X : Rx E ad (some .long) (oL P)) (d : decode cc pc = .ok (.lreturn, 1)) (h : P v σ) : WP E ad pc lv [.long v] σ := by
  obtain ⟨p, l, e, R, s, m, args, below, meth, c, cells, slots, Q, D, ck, A, nL⟩ := E
  obtain ⟨rfl, rfl, rfl, hx, hb, hml, hown, hts, hK, hA, hlk, hc1, hc2⟩ := C
  obtain ⟨rfl, hr⟩ := X
  intro H locs ls hP hD hS hl
  exact W.lret hx hb hr (fun t ht hW => ⟨⟨some (.long v), σ, rfl, ⟨_, rfl, h⟩, by rw [ht]; exact hP, va_K.moved hW.alike hK, hD⟩, hS.F ht⟩) hS.2.2 d hlk
theorem s_aret (C : Cx E l0 R0 n0 cc own) {P : Nat → Sg → Prop} {v : Nat} {cn : String} (X : Rx E ad (some (.object cn)) (oR P)) (d : decode cc pc = .ok (.areturn, 1)) (h : P v σ) : WP E ad pc lv [.ref v] σ := by
  obtain ⟨p, l, e, R, s, m, args, below, meth, c, cells, slots, Q, D, ck, A, nL⟩ := E
  obtain ⟨rfl, rfl, rfl, hx, hb, hml, hown, hts, hK, hA, hlk, hc1, hc2⟩ := C
  obtain ⟨rfl, hr⟩ := X
  intro H locs ls hP hD hS hl
  exact W.aret hx hb hr (Or.inl ⟨_, rfl⟩) (Or.inr ⟨_, rfl⟩) (fun t ht hW => ⟨⟨some (.ref v), σ, rfl, ⟨_, rfl, h⟩, by rw [ht]; exact hP, va_K.moved hW.alike hK, hD⟩, hS.F ht⟩) hS.2.2 d hlk
end ENDS
theorem gPc_blind {D : va_G} {ck : Nat → ClassId} {ad : Nat → Nat} {σ : Sg} {sz : Nat} {av : List Value} : FrameBlind (gPc D ck ad σ sz av) := fun a U g mk q => by
  obtain ⟨q0, q1, qP, qK, qD⟩ := q
  exact ⟨q0, q1, qP, va_K.moved (u := U) (U := U.calling g mk a) (Vm.Alike.refl U.vm) qK, qD⟩
theorem lw_good : ∀ w ∈ tb, (w.onTables && w.keeps) = true ∨ ∃ ty, w = .arrayClass ty := fun w hw => good_of_word (List.mem_filter.mp hw).2
theorem lw_goodIn {c : Cond} (h : c ∈ tb) : GoodIn tb (c :: tb) := fun w hw => by
  rcases List.mem_cons.mp hw with rfl | hw
  · exact ⟨h, lw_good _ h⟩
  · exact ⟨hw, lw_good _ hw⟩
section CALLS
theorem cg {p : Program} {l : Launch} {e : Env} {R : Room} {s : State} {m : MethodId} {args : Array Value} {below : List Frame} {meth : Method} {c : Code} {H : Heap} {locs : List Loc} {cells slots : Nat} {Q : State → Prop} {pc : Nat} {ls : Array Slot} {rest st0 : List Value} {a : Array Value} {A : Nat → Prop} {D : va_G} {ck : Nat → ClassId} {ad : Nat → Nat} {σ : Sg} {post : Option Value → Sg → Prop}
    (hr : va_Run p l e R s m args below meth c H locs cells slots 0 0 (F0 m pc ls st0) rest (gQ D ck ad post (va_A (gW ck ad σ) H.size) a) (va_A (gW ck ad σ) H.size)) (hD : va_D A (gW ck ad σ)) (hS : va_S A s.heap H locs) (hA : ∀ q : Nat, s.heap.size ≤ q → A q)
    (kk : ∀ (v : Option Value) (τ : Sg) (H1 : Heap) (locs1 : List Loc), post v τ → va_P D vwCl (gW ck ad τ) H1 → va_D A (gW ck ad τ) → va_S A s.heap H1 locs1 → W p l e R s m args below meth c H1 locs1 cells slots Q (F0 m (pc + 3) ls (v.toList ++ rest))) : W p l e R s m args below meth c H locs cells slots Q (F0 m pc ls st0) := by
  intro T hT X
  obtain ⟨v, st₀, t, T', L, h0, X', hL, e1, e2, ⟨⟨v', τ, hv, hp, q1, q2, q3⟩, hz, hk⟩, st⟩ := hr T hT X
  cases hv
  rw [h0] at hz hk
  have hF : ∀ q : Nat, va_A (gW ck ad σ) H.size q → A q := fun q h => by
    rcases h with ⟨k, e, h⟩ | h
    · exact hD.2 k (q, e) h
    · exact hA q (Nat.le_trans hS.1 h)
  obtain ⟨t2, a1, b1⟩ := kk v τ T'.heap (locs ++ L) hp (by rw [e1]; exact q1) (q3.weaken (fun _ q _ h => hF q.1 h))
    ⟨Nat.le_trans hS.1 (by rw [e1]; exact hz), fun q h1 h2 => by rw [e1, hk q (Nat.lt_of_lt_of_le h1 hS.1) (fun z => h2 (hF q z))]; exact hS.2.1 q h1 h2, fun q hq => by
      rcases List.mem_append.mp hq with h | h
      · exact hS.2.2 q h
      · exact hF _ (hL q h)⟩ T' rfl X'
  exact ⟨t2, st t2 a1, b1⟩
variable {E : Ev} {ad : Nat → Nat} {l0 : Launch} {R0 : Room} {n0 : Nat} {cc : ByteArray} {own : String} {pc : Nat} {lv : List (Option Value)} {st stk : List Value} {σ : Sg} {y : MethodName} {bytes : ByteArray} {maxL lvl idx n i ci N : Nat} {ret : Option FieldType} {fs : List (Option Nat)} {Cn : String} {T : u_T} {As : List Value} {post : Option Value → Sg → Prop}

theorem s_callV (C : Cx E l0 R0 n0 cc own) (M : Mt l0 y bytes maxL ret lvl ad σ (.ref (ad i) :: As) post) (w : Vw own idx Cn y bytes maxL ret n) (yl : lay[i]? = some (.inr (ci, fs))) (hc : vwCl[ci]? = some (Cn, T, N)) (hn : As.length = n) (hst : stk = As.reverse ++ .ref (ad i) :: st) (hroom : lvl + 1 ≤ R0.frames ∧ 8 + (maxL + 11) + 48 * lvl ≤ R0.locals) (hrest : (st.map fun v => v.category).sum ≤ 8) (d : decode cc pc = .ok (.invokevirtual idx, 3)) (k : ∀ (v : Option Value) (τ : Sg), post v τ → WP E ad (pc + 3) lv (v.toList ++ st) τ) : WP E ad pc lv stk σ := by
  subst hst
  obtain ⟨p, l, e, R, s, m, args, below, meth, c, cells, slots, Q, D, ck, A, nL⟩ := E
  obtain ⟨rfl, rfl, rfl, hx, hb, hml, hown, hts, hK, hA, hlk, hc1, hc2⟩ := C
  intro H locs ls hP hD hS hl
  obtain ⟨w0, w1, w2, w3, w4, w5, w6⟩ := w
  refine cg (D := D) (ck := ck) (ad := ad) (σ := σ) (post := post) (A := A) (va_runV (As := As) (rest := st) (n := n) (C := Cn) ⟨hx, hb, hml, hown, hts⟩ (M D ck H.size) ⟨callB_of n hts (lw_goodIn w5) rfl rfl rfl (by rw [w0]; exact hts _ w4) (hts _ w1) w6 hroom, hts _ w2, hts _ w3⟩ ⟨gPc_blind, va_recv hK hP hc (gW_at yl), fun U hU hW => ⟨rfl, by rw [hU], by rw [hU]; exact hP, va_K.moved hW.alike hK, hD.weaken (fun _ _ _ _ => trivial)⟩⟩ rfl hn hl.1 rfl (lv_room hrest) d ⟨by simpa using hc1, by simpa using hc2⟩) hD hS hA ?_
  intro v τ H1 locs1 hp a1 a2 a3
  exact k v τ hp H1 locs1 ls a1 a2 a3 hl
theorem s_callS (C : Cx E l0 R0 n0 cc own) (M : Mt l0 y bytes maxL ret lvl ad σ As post) (w : Sw own idx y bytes maxL ret n) (hn : As.length = n) (hst : stk = As.reverse ++ st) (hroom : lvl + 1 ≤ R0.frames ∧ 8 + (maxL + 11) + 48 * lvl ≤ R0.locals) (hrest : (st.map fun v => v.category).sum ≤ 8) (d : decode cc pc = .ok (.invokestatic idx, 3)) (k : ∀ (v : Option Value) (τ : Sg), post v τ → WP E ad (pc + 3) lv (v.toList ++ st) τ) : WP E ad pc lv stk σ := by
  subst hst
  obtain ⟨p, l, e, R, s, m, args, below, meth, c, cells, slots, Q, D, ck, A, nL⟩ := E
  obtain ⟨rfl, rfl, rfl, hx, hb, hml, hown, hts, hK, hA, hlk, hc1, hc2⟩ := C
  intro H locs ls hP hD hS hl
  obtain ⟨w1, w2, w4, w5, w6⟩ := w
  refine cg (D := D) (ck := ck) (ad := ad) (σ := σ) (post := post) (A := A) (va_runS (As := As) (rest := st) (n := n) ⟨hx, hb, hml, hown, hts⟩ (M D ck H.size) ⟨callB_of n hts (lw_goodIn w5) rfl rfl rfl (hts _ w4) (hts _ w1) w6 hroom, hts _ w2⟩ ⟨gPc_blind, fun U hU hW => ⟨rfl, by rw [hU], by rw [hU]; exact hP, va_K.moved hW.alike hK, hD.weaken (fun _ _ _ _ => trivial)⟩⟩ rfl hn hl.1 rfl (lv_room hrest) d ⟨by simpa using hc1, by simpa using hc2⟩) hD hS hA ?_
  intro v τ H1 locs1 hp a1 a2 a3
  exact k v τ hp H1 locs1 ls a1 a2 a3 hl
theorem s_callVI {P : Int32 → Sg → Prop} (C : Cx E l0 R0 n0 cc own) (M : Mt l0 y bytes maxL ret lvl ad σ (.ref (ad i) :: As) (oI P)) (w : Vw own idx Cn y bytes maxL ret n) (yl : lay[i]? = some (.inr (ci, fs))) (hc : vwCl[ci]? = some (Cn, T, N)) (hn : As.length = n) (hst : stk = As.reverse ++ .ref (ad i) :: st) (hroom : lvl + 1 ≤ R0.frames ∧ 8 + (maxL + 11) + 48 * lvl ≤ R0.locals) (hrest : (st.map fun v => v.category).sum ≤ 8) (d : decode cc pc = .ok (.invokevirtual idx, 3)) (k : ∀ (r : Int32) (τ : Sg), P r τ → WP E ad (pc + 3) lv (.int r :: st) τ) : WP E ad pc lv stk σ :=
  s_callV C M w yl hc hn hst hroom hrest d (fun v τ hp => by obtain ⟨r, rfl, h⟩ := hp; exact k r τ h)
theorem s_callSI {P : Int32 → Sg → Prop} (C : Cx E l0 R0 n0 cc own) (M : Mt l0 y bytes maxL ret lvl ad σ As (oI P)) (w : Sw own idx y bytes maxL ret n) (hn : As.length = n) (hst : stk = As.reverse ++ st) (hroom : lvl + 1 ≤ R0.frames ∧ 8 + (maxL + 11) + 48 * lvl ≤ R0.locals) (hrest : (st.map fun v => v.category).sum ≤ 8) (d : decode cc pc = .ok (.invokestatic idx, 3)) (k : ∀ (r : Int32) (τ : Sg), P r τ → WP E ad (pc + 3) lv (.int r :: st) τ) : WP E ad pc lv stk σ :=
  s_callS C M w hn hst hroom hrest d (fun v τ hp => by obtain ⟨r, rfl, h⟩ := hp; exact k r τ h)
theorem s_callVL {P : Int64 → Sg → Prop} (C : Cx E l0 R0 n0 cc own) (M : Mt l0 y bytes maxL ret lvl ad σ (.ref (ad i) :: As) (oL P)) (w : Vw own idx Cn y bytes maxL ret n) (yl : lay[i]? = some (.inr (ci, fs))) (hc : vwCl[ci]? = some (Cn, T, N)) (hn : As.length = n) (hst : stk = As.reverse ++ .ref (ad i) :: st) (hroom : lvl + 1 ≤ R0.frames ∧ 8 + (maxL + 11) + 48 * lvl ≤ R0.locals) (hrest : (st.map fun v => v.category).sum ≤ 8) (d : decode cc pc = .ok (.invokevirtual idx, 3)) (k : ∀ (r : Int64) (τ : Sg), P r τ → WP E ad (pc + 3) lv (.long r :: st) τ) : WP E ad pc lv stk σ :=
  s_callV C M w yl hc hn hst hroom hrest d (fun v τ hp => by obtain ⟨r, rfl, h⟩ := hp; exact k r τ h)
theorem s_callSL {P : Int64 → Sg → Prop} (C : Cx E l0 R0 n0 cc own) (M : Mt l0 y bytes maxL ret lvl ad σ As (oL P)) (w : Sw own idx y bytes maxL ret n) (hn : As.length = n) (hst : stk = As.reverse ++ st) (hroom : lvl + 1 ≤ R0.frames ∧ 8 + (maxL + 11) + 48 * lvl ≤ R0.locals) (hrest : (st.map fun v => v.category).sum ≤ 8) (d : decode cc pc = .ok (.invokestatic idx, 3)) (k : ∀ (r : Int64) (τ : Sg), P r τ → WP E ad (pc + 3) lv (.long r :: st) τ) : WP E ad pc lv stk σ :=
  s_callS C M w hn hst hroom hrest d (fun v τ hp => by obtain ⟨r, rfl, h⟩ := hp; exact k r τ h)
theorem s_callVR {P : Nat → Sg → Prop} (C : Cx E l0 R0 n0 cc own) (M : Mt l0 y bytes maxL ret lvl ad σ (.ref (ad i) :: As) (oR P)) (w : Vw own idx Cn y bytes maxL ret n) (yl : lay[i]? = some (.inr (ci, fs))) (hc : vwCl[ci]? = some (Cn, T, N)) (hn : As.length = n) (hst : stk = As.reverse ++ .ref (ad i) :: st) (hroom : lvl + 1 ≤ R0.frames ∧ 8 + (maxL + 11) + 48 * lvl ≤ R0.locals) (hrest : (st.map fun v => v.category).sum ≤ 8) (d : decode cc pc = .ok (.invokevirtual idx, 3)) (k : ∀ (r : Nat) (τ : Sg), P r τ → WP E ad (pc + 3) lv (.ref r :: st) τ) : WP E ad pc lv stk σ :=
  s_callV C M w yl hc hn hst hroom hrest d (fun v τ hp => by obtain ⟨r, rfl, h⟩ := hp; exact k r τ h)
theorem s_callSR {P : Nat → Sg → Prop} (C : Cx E l0 R0 n0 cc own) (M : Mt l0 y bytes maxL ret lvl ad σ As (oR P)) (w : Sw own idx y bytes maxL ret n) (hn : As.length = n) (hst : stk = As.reverse ++ st) (hroom : lvl + 1 ≤ R0.frames ∧ 8 + (maxL + 11) + 48 * lvl ≤ R0.locals) (hrest : (st.map fun v => v.category).sum ≤ 8) (d : decode cc pc = .ok (.invokestatic idx, 3)) (k : ∀ (r : Nat) (τ : Sg), P r τ → WP E ad (pc + 3) lv (.ref r :: st) τ) : WP E ad pc lv stk σ :=
  s_callS C M w hn hst hroom hrest d (fun v τ hp => by obtain ⟨r, rfl, h⟩ := hp; exact k r τ h)
theorem s_callVV {P : Sg → Prop} (C : Cx E l0 R0 n0 cc own) (M : Mt l0 y bytes maxL ret lvl ad σ (.ref (ad i) :: As) (oV P)) (w : Vw own idx Cn y bytes maxL ret n) (yl : lay[i]? = some (.inr (ci, fs))) (hc : vwCl[ci]? = some (Cn, T, N)) (hn : As.length = n) (hst : stk = As.reverse ++ .ref (ad i) :: st) (hroom : lvl + 1 ≤ R0.frames ∧ 8 + (maxL + 11) + 48 * lvl ≤ R0.locals) (hrest : (st.map fun v => v.category).sum ≤ 8) (d : decode cc pc = .ok (.invokevirtual idx, 3)) (k : ∀ τ : Sg, P τ → WP E ad (pc + 3) lv st τ) : WP E ad pc lv stk σ :=
  s_callV C M w yl hc hn hst hroom hrest d (fun v τ hp => by obtain ⟨rfl, h⟩ := hp; exact k τ h)
theorem s_callSV {P : Sg → Prop} (C : Cx E l0 R0 n0 cc own) (M : Mt l0 y bytes maxL ret lvl ad σ As (oV P)) (w : Sw own idx y bytes maxL ret n) (hn : As.length = n) (hst : stk = As.reverse ++ st) (hroom : lvl + 1 ≤ R0.frames ∧ 8 + (maxL + 11) + 48 * lvl ≤ R0.locals) (hrest : (st.map fun v => v.category).sum ≤ 8) (d : decode cc pc = .ok (.invokestatic idx, 3)) (k : ∀ τ : Sg, P τ → WP E ad (pc + 3) lv st τ) : WP E ad pc lv stk σ :=
  s_callS C M w hn hst hroom hrest d (fun v τ hp => by obtain ⟨rfl, h⟩ := hp; exact k τ h)
theorem s_mmin (C : Cx E l0 R0 n0 cc own) {x y : Int32} (w1 : Cond.methodLink own idx Lib.Math.min.name ∈ tb) (w2 : Cond.static Lib.Math.min.name ∈ tb) (w3 : Cond.initialized "java/lang/Math" ∈ tb) (w4 : Cond.code Lib.Math.min.name Lib.Math.min.code 2 (some .int) ∈ tb) (hf : 1 ≤ R0.frames) (hlo : (st.map fun v => v.category).sum + 13 ≤ R0.locals) (d : decode cc pc = .ok (.invokestatic idx, 3)) (k : ∀ z : Int32, z.toInt ≤ x.toInt ∧ z.toInt ≤ y.toInt ∧ (z.toInt = x.toInt ∨ z.toInt = y.toInt) → WP E ad (pc + 3) lv (.int z :: st) σ) : WP E ad pc lv (.int y :: .int x :: st) σ := by
  obtain ⟨p, l, e, R, s, m, args, below, meth, c, cells, slots, Q, D, ck, A, nL⟩ := E
  obtain ⟨rfl, rfl, rfl, hx, hb, hml, hown, hts, hK, hA, hlk, hc1, hc2⟩ := C
  intro H locs ls hP hD hS hl
  refine va_mmin hx hb (hml.trans hl.1.symm) hown (hts _ w1) (hts _ w2) (hts _ w3) (hts _ w4) hf hlo hc1 hc2 d (k _ ?_ H locs ls hP hD hS hl)
  by_cases q : y < x
  · rw [if_pos q]; simp only [z_lt] at q; omega
  · rw [if_neg q]; simp only [z_lt] at q; omega
theorem s_mmax (C : Cx E l0 R0 n0 cc own) {x y : Int32} (w1 : Cond.methodLink own idx Lib.Math.max.name ∈ tb) (w2 : Cond.static Lib.Math.max.name ∈ tb) (w3 : Cond.initialized "java/lang/Math" ∈ tb) (w4 : Cond.code Lib.Math.max.name Lib.Math.max.code 2 (some .int) ∈ tb) (hf : 1 ≤ R0.frames) (hlo : (st.map fun v => v.category).sum + 13 ≤ R0.locals) (d : decode cc pc = .ok (.invokestatic idx, 3)) (k : ∀ z : Int32, x.toInt ≤ z.toInt ∧ y.toInt ≤ z.toInt ∧ (z.toInt = x.toInt ∨ z.toInt = y.toInt) → WP E ad (pc + 3) lv (.int z :: st) σ) : WP E ad pc lv (.int y :: .int x :: st) σ := by
  obtain ⟨p, l, e, R, s, m, args, below, meth, c, cells, slots, Q, D, ck, A, nL⟩ := E
  obtain ⟨rfl, rfl, rfl, hx, hb, hml, hown, hts, hK, hA, hlk, hc1, hc2⟩ := C
  intro H locs ls hP hD hS hl
  refine va_mmax hx hb (hml.trans hl.1.symm) hown (hts _ w1) (hts _ w2) (hts _ w3) (hts _ w4) hf hlo hc1 hc2 d (k _ ?_ H locs ls hP hD hS hl)
  by_cases q : x < y
  · rw [if_pos q]; simp only [z_lt] at q; omega
  · rw [if_neg q]; simp only [z_lt] at q; omega
theorem s_copy (C : Cx E l0 R0 n0 cc own) {j b b2 len : Nat} {sp dp z : Int32} (yi : lay[i]? = some (.inl (0, len, b))) (yj : lay[j]? = some (.inl (0, len, b2))) (h1 : sp.toInt = 0) (h2 : dp.toInt = 0) (h3 : z.toInt = len) (w1 : Cond.methodLink own idx arraycopyName ∈ tb) (w2 : Cond.native arraycopyName ∈ tb) (w3 : Cond.static arraycopyName ∈ tb) (w4 : Cond.initialized "java/lang/System" ∈ tb) (hf : 1 ≤ R0.frames) (hlo : (st.map fun v => v.category).sum + (nativeFrameWords "java/lang/System" "arraycopy" 5 + 11) ≤ R0.locals) (d : decode cc pc = .ok (.invokestatic idx, 3)) (k : WP E ad (pc + 3) lv st (sR σ j (σ.1 i))) : WP E ad pc lv (.int z :: .int dp :: .ref (ad j) :: .int sp :: .ref (ad i) :: st) σ := by
  obtain ⟨p, l, e, R, s, m, args, below, meth, c, cells, slots, Q, D, ck, A, nL⟩ := E
  obtain ⟨rfl, rfl, rfl, hx, hb, hml, hown, hts, hK, hA, hlk, hc1, hc2⟩ := C
  intro H locs ls hP hD hS hl
  have e0 : ∀ w : Int32, w.toInt = 0 → w.toNatClampNeg = 0 := fun w h => by unfold Int32.toNatClampNeg; rw [h]; rfl
  have e1 : z.toNatClampNeg = len := by unfold Int32.toNatClampNeg; rw [h3]; simp
  refine va_copyi (f := σ.1 i) (g := σ.1 j) (ty := .int) hx hb (hml.trans hl.1.symm) hown (hts _ w1) (hts _ w2) (hts _ w3) (hts _ w4) hK hP hD hS i j 0 0 (gW_at yi) (gW_at yj) rfl rfl rfl (by rw [z_lt, z_0, h1]; omega) (by rw [z_lt, z_0, h2]; omega) (by rw [z_lt, z_0, h3]; omega) (by rw [e0 sp h1, e1]; omega) (by rw [e0 dp h2, e1]; omega) (fun _ _ => rfl) hf hlo d (fun H1 locs1 a1 a2 a3 => ?_)
  rw [e0 sp h1, e0 dp h2, e1] at a1 a2
  have e : (gW ck ad σ).set j (ad j, .inl (ck 0, len, .inl (va_cpy (σ.1 i) (σ.1 j) 0 0 len))) = gW ck ad (sR σ j (va_cpy (σ.1 i) (σ.1 j) 0 0 len)) := by
    rw [← gW_set (τ := sR σ j (va_cpy (σ.1 i) (σ.1 j) 0 0 len)) yj sR_o]
    simp only [gE, gK, sR, va_up_self]
  rw [e] at a1 a2
  exact wp_row yj (fun q hq => by rw [pk_cpy_in (Nat.zero_le _) (by omega)]; simp) k H1 locs1 ls a1 a2 a3 hl
end CALLS
