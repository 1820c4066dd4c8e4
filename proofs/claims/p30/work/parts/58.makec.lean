/-! contracts of constructors: over any list of cells; the new object lies at place q0 -/
def rmi (k nc ns : Nat) : Room := { frames := k, cells := nc, slots := ns, locals := 48 * k }
def iPc (XP : State → Prop) (D : va_G) (ck : Nat → ClassId) (ws : va_W) (sz : Nat) (av : List Value) : Array Value → State → Prop := va_Pc av (fun U => (U.heap.size = sz ∧ va_P D vwCl ws U.heap ∧ va_K D vwCl (tyk ck) U ∧ va_D (fun _ => True) ws) ∧ XP U)
def iQ (D : va_G) (ck : Nat → ClassId) (post : va_W → Prop) (A : Nat → Prop) : Array Value → State → Outcome → State → Prop := fun _ st oc t => (∃ ws' : va_W, oc = .returned none ∧ post ws' ∧ va_P D vwCl ws' t.heap ∧ va_K D vwCl (tyk ck) t ∧ va_D A ws') ∧ va_F A st t
def MtI (XP : State → Prop) (l : Launch) (y : MethodName) (cc : ByteArray) (maxL lvl nc ns : Nat) (ck : Nat → ClassId) (ws : va_W) (av : List Value) (post : va_W → Prop) : Prop := ∀ (D : va_G) (sz : Nat), Met l y (.code y cc maxL none :: tb) (rmi lvl nc ns) (iPc XP D ck ws sz av) (iQ D ck post (va_A ws sz)) nc ns (va_A ws sz)
def Rq (E : Ev) (nc ns : Nat) (post : va_W → Prop) : Prop := match E with
  | (_, _, _, _, s, _, args, below, meth, _, _, _, Q, D, ck, A, _) => Q = MQ below (iQ D ck post A) args s nc ns A ∧ meth.sig.returnType = none
def Ek (E : Ev) (XP : State → Prop) : Prop := match E with
  | (_, _, _, _, s, _, _, _, _, _, _, _, _, _, _, _, _) => XP s
theorem MtI_intro {XP : State → Prop} {l : Launch} {y : MethodName} {cc : ByteArray} {maxL lvl nc ns : Nat} {ck : Nat → ClassId} {ws : va_W} {av : List Value} {post : va_W → Prop} (hy : plainName y.cls = true) (hyn : y.name = "<init>") (hlen : (lg_sl av).length ≤ maxL)
    (body : ∀ E : Ev, ekk E = ck → Cx E l (rmi lvl nc ns) maxL cc y.cls → Ci E → Rq E nc ns post → Ek E XP → WQ E 0 0 ws 0 (lvA av ++ List.replicate (maxL - (lvA av).length) none) []) : MtI XP l y cc maxL lvl nc ns ck ws av post := by
  intro D sz
  refine Met.ofW (cc := cc) (maxL := maxL) (ret := none) hy rfl ?_
  intro p e s m args below meth c s₁ B hml hv
  obtain ⟨rfl, ⟨hsz, hP, hK, hD0⟩, hXP⟩ := hv
  have hts := atoms_spec (ws := Cond.code y cc maxL none :: tb) B.pre
  subst hsz
  have hl := lv_entry av (n := maxL) hlen
  rw [lg_entry_eq]
  have hD := hD0.self (sz := s.heap.size)
  exact body (p, l, e, (headSpec (Cond.code y cc maxL none :: tb) (rmi lvl nc ns)).room, s, m, av.toArray, below, meth, c, 0, 0, _, D, ck, va_A ws s.heap.size, maxL) rfl ⟨rfl, rfl, rfl, B.exec, B.bytes, hml, findClass_of_methodNamed B.named, fun w h => hts w (List.mem_cons_of_mem _ h), hK, fun q h => Or.inr h, B.notSynchronized, Nat.zero_le _, Nat.zero_le _⟩ ((name_of_methodNamed B.named B.method).1.trans hyn) ⟨rfl, B.returns⟩ hXP s.heap [] _ hP hD va_S.rf ⟨hl.1, hl.2.1, fun i v h => hl.2.2 (i, v) (by have := lvA_args _ v av i 0 h; rwa [Nat.zero_add] at this)⟩
section IENDS
variable {E : Ev} {l0 : Launch} {R0 : Room} {n0 : Nat} {cc : ByteArray} {own : String} {pc cs sl nc ns : Nat} {lv : List (Option Value)} {st : List Value} {ws : va_W}
theorem q_ret (C : Cx E l0 R0 n0 cc own) {post : va_W → Prop} (X : Rq E nc ns post) (d : decode cc pc = .ok (.return_, 1)) (hc : cs ≤ nc) (hs : sl ≤ ns) (h : post ws) : WQ E cs sl ws pc lv [] := by
  obtain ⟨p, l, e, R, s, m, args, below, meth, c, cells, slots, Q, D, ck, A, nL⟩ := E
  obtain ⟨rfl, rfl, rfl, hx, hb, hml, hown, hts, hK, hA, hlk, hc1, hc2⟩ := C
  obtain ⟨rfl, hr⟩ := X
  intro H locs ls hP hD hS hl
  refine W.widen (k := nc) (n := ns) hc hs ?_
  exact W.vret hx hb hr (fun t ht hW => ⟨⟨ws, rfl, h, by rw [ht]; exact hP, va_K.moved hW.alike hK, hD⟩, hS.F ht⟩) hS.2.2 d hlk
end IENDS
/-- what a premise on the tables alone must keep -/
def XPok (XP : State → Prop) : Prop := (∀ (U : State) (g : JFrame) (mk : MethodId) (a : Array Value), XP U → XP (U.calling g mk a)) ∧ ∀ s U : State, s.WarmedH U.vm → XP s → XP U
theorem XPok_T : XPok (fun _ => True) := ⟨fun _ _ _ _ _ => trivial, fun _ _ _ _ => trivial⟩
theorem iPc_blind {XP : State → Prop} (hx : XPok XP) {D : va_G} {ck : Nat → ClassId} {ws : va_W} {sz : Nat} {av : List Value} : FrameBlind (iPc XP D ck ws sz av) := fun a U g mk q => by
  obtain ⟨q0, ⟨q1, qP, qK, qD⟩, qX⟩ := q
  exact ⟨q0, ⟨q1, qP, va_K.moved (u := U) (U := U.calling g mk a) (Vm.Alike.refl U.vm) qK, qD⟩, hx.1 U g mk a qX⟩
section ICALLS
theorem cgI {p : Program} {l : Launch} {e : Env} {R : Room} {s : State} {m : MethodId} {args : Array Value} {below : List Frame} {meth : Method} {c : Code} {H : Heap} {locs : List Loc} {cells slots nc ns : Nat} {Q : State → Prop} {pc : Nat} {ls : Array Slot} {rest st0 : List Value} {a : Array Value} {A : Nat → Prop} {D : va_G} {ck : Nat → ClassId} {ws : va_W} {post : va_W → Prop}
    (hr : va_Run p l e R s m args below meth c H locs cells slots nc ns (F0 m pc ls st0) rest (iQ D ck post (va_A ws H.size) a) (va_A ws H.size)) (hD : va_D A ws) (hS : va_S A s.heap H locs) (hA : ∀ q : Nat, s.heap.size ≤ q → A q)
    (kk : ∀ (ws' : va_W) (H1 : Heap) (locs1 : List Loc), post ws' → va_P D vwCl ws' H1 → va_D A ws' → va_S A s.heap H1 locs1 → W p l e R s m args below meth c H1 locs1 (cells + nc) (slots + ns) Q (F0 m (pc + 3) ls rest)) : W p l e R s m args below meth c H locs cells slots Q (F0 m pc ls st0) := by
  intro T hT X
  obtain ⟨v, st₀, t, T', L, h0, X', hL, e1, e2, ⟨⟨ws', hv, hp, q1, q2, q3⟩, hz, hk⟩, st⟩ := hr T hT X
  cases hv
  rw [h0] at hz hk
  have hF : ∀ q : Nat, va_A ws H.size q → A q := fun q h => by
    rcases h with ⟨k, e, h⟩ | h
    · exact hD.2 k (q, e) h
    · exact hA q (Nat.le_trans hS.1 h)
  obtain ⟨t2, a1, b1⟩ := kk ws' T'.heap (locs ++ L) hp (by rw [e1]; exact q1) (q3.weaken (fun _ q _ h => hF q.1 h))
    ⟨Nat.le_trans hS.1 (by rw [e1]; exact hz), fun q h1 h2 => by rw [e1, hk q (Nat.lt_of_lt_of_le h1 hS.1) (fun z => h2 (hF q z))]; exact hS.2.1 q h1 h2, fun q hq => by
      rcases List.mem_append.mp hq with h | h
      · exact hS.2.2 q h
      · exact hF _ (hL q h)⟩ T' rfl X'
  exact ⟨t2, st t2 a1, b1⟩
variable {E : Ev} {l0 : Launch} {R0 : Room} {n0 : Nat} {cc : ByteArray} {own : String} {pc cs sl nc ns : Nat} {lv : List (Option Value)} {st stk : List Value} {ws : va_W} {y : MethodName} {bytes : ByteArray} {maxL lvl idx n a : Nat} {As : List Value} {post : va_W → Prop} {XP : State → Prop}
def Iw (own : String) (idx : Nat) (y : MethodName) (bytes : ByteArray) (maxL n : Nat) : Prop := Cond.methodLink own idx y ∈ tb ∧ Cond.instanceMethod y ∈ tb ∧ Cond.initialized y.cls ∈ tb ∧ Cond.code y bytes maxL none ∈ tb ∧ y.name = "<init>" ∧ y.cls ≠ "java/lang/invoke/MethodHandle" ∧ y.cls ≠ "java/lang/invoke/VarHandle" ∧ (parseMethodDescriptor y.desc).map (fun d => d.parameters.length) = some n
def In (y : MethodName) (bytes : ByteArray) (maxL n : Nat) : Prop := Cond.instanceMethod y ∈ tb ∧ Cond.initialized y.cls ∈ tb ∧ Cond.code y bytes maxL none ∈ tb ∧ y.name = "<init>" ∧ y.cls ≠ "java/lang/invoke/MethodHandle" ∧ y.cls ≠ "java/lang/invoke/VarHandle" ∧ (parseMethodDescriptor y.desc).map (fun d => d.parameters.length) = some n
theorem q_call (C : Cx E l0 R0 n0 cc own) (hX : XPok XP) (hE : Ek E XP) {ck : Nat → ClassId} (hck : ekk E = ck) (M : MtI XP l0 y bytes maxL lvl nc ns ck ws (.ref a :: As) post) (w : Iw own idx y bytes maxL n) (hn : As.length = n) (hst : stk = As.reverse ++ .ref a :: st) (hroom : lvl + 1 ≤ R0.frames ∧ 8 + (maxL + 11) + 48 * lvl ≤ R0.locals) (hcl : cs + nc ≤ R0.cells ∧ sl + ns ≤ R0.slots) (hrest : (st.map fun v => v.category).sum ≤ 8) (d : decode cc pc = .ok (.invokespecial idx, 3)) (k : ∀ ws' : va_W, post ws' → WQ E (cs + nc) (sl + ns) ws' (pc + 3) lv st) : WQ E cs sl ws pc lv stk := by
  subst hst
  subst hck
  obtain ⟨p, l, e, R, s, m, args, below, meth, c, cells, slots, Q, D, ck, A, nL⟩ := E
  obtain ⟨rfl, rfl, rfl, hx, hb, hml, hown, hts, hK, hA, hlk, hc1, hc2⟩ := C
  intro H locs ls hP hD hS hl
  obtain ⟨w1, w2, w4, w5, w0, w6⟩ := w
  refine cgI (D := D) (ck := ck) (ws := ws) (post := post) (A := A) (va_runI (As := As) (rest := st) (n := n) ⟨hx, hb, hml, hown, hts⟩ (M D H.size) ⟨callB_of n hts (lw_goodIn w5) rfl rfl rfl (hts _ w4) (hts _ w1) w6 hroom, w0, hts _ w2⟩ ⟨iPc_blind hX, fun U hU hW => ⟨rfl, ⟨by rw [hU], by rw [hU]; exact hP, va_K.moved hW.alike hK, hD.weaken (fun _ _ _ _ => trivial)⟩, hX.2 s U hW hE⟩⟩ rfl hn hl.1 rfl (lv_room hrest) d hcl) hD hS hA ?_
  intro ws' H1 locs1 hp a1 a2 a3
  exact k ws' hp H1 locs1 ls a1 a2 a3 hl
theorem q_callN {host : String} (C : Cx E l0 R0 n0 cc own) (hN : Nx E (.methodLinkNest own idx y host)) {ck : Nat → ClassId} (hck : ekk E = ck) (M : MtI (fun _ => True) l0 y bytes maxL lvl nc ns ck ws (.ref a :: As) post) (w : In y bytes maxL n) (hn : As.length = n) (hst : stk = As.reverse ++ .ref a :: st) (hroom : lvl + 1 ≤ R0.frames ∧ 8 + (maxL + 11) + 48 * lvl ≤ R0.locals) (hcl : cs + nc ≤ R0.cells ∧ sl + ns ≤ R0.slots) (hrest : (st.map fun v => v.category).sum ≤ 8) (d : decode cc pc = .ok (.invokespecial idx, 3)) (k : ∀ ws' : va_W, post ws' → WQ E (cs + nc) (sl + ns) ws' (pc + 3) lv st) : WQ E cs sl ws pc lv stk := by
  subst hst
  subst hck
  obtain ⟨p, l, e, R, s, m, args, below, meth, c, cells, slots, Q, D, ck, A, nL⟩ := E
  obtain ⟨rfl, rfl, rfl, hx, hb, hml, hown, hts, hK, hA, hlk, hc1, hc2⟩ := C
  intro H locs ls hP hD hS hl
  obtain ⟨w2, w4, w5, w0, w6⟩ := w
  refine cgI (D := D) (ck := ck) (ws := ws) (post := post) (A := A) (va_runIN (As := As) (rest := st) (n := n) ⟨hx, hb, hml, hown, hts⟩ (M D H.size) ⟨va_cnB n hts (lw_goodIn w5) rfl rfl rfl hN (hts _ w4) w6 hroom, w0, hts _ w2⟩ ⟨iPc_blind XPok_T, fun U hU hW => ⟨rfl, ⟨by rw [hU], by rw [hU]; exact hP, va_K.moved hW.alike hK, hD.weaken (fun _ _ _ _ => trivial)⟩, trivial⟩⟩ rfl hn hl.1 rfl (lv_room hrest) d hcl) hD hS hA ?_
  intro ws' H1 locs1 hp a1 a2 a3
  exact k ws' hp H1 locs1 ls a1 a2 a3 hl
end ICALLS
/-! the same for an object that makes rows alone: the world is ws with the object's fields fs at place q0, and the rows L behind it -/
def Nw_ (ws : va_W) (q0 a ci : Nat) (fs : List Value) (L : va_W) : va_W := ws.set q0 (a, .inr (ci, fs)) ++ L
theorem Nw_at {ws : va_W} {q0 a ci : Nat} {fs : List Value} {L : va_W} (h : q0 < ws.length) : (Nw_ ws q0 a ci fs L)[q0]? = some (a, .inr (ci, fs)) := by
  unfold Nw_
  rw [List.getElem?_append_left (by rw [List.length_set]; exact h), List.getElem?_set_self h]
theorem Nw_set {ws : va_W} {q0 a ci : Nat} {fs fs' : List Value} {L : va_W} (h : q0 < ws.length) : (Nw_ ws q0 a ci fs L).set q0 (a, .inr (ci, fs')) = Nw_ ws q0 a ci fs' L := by
  unfold Nw_
  rw [List.set_append_left _ _ (by rw [List.length_set]; exact h), List.set_set]
theorem Nw_app {ws : va_W} {q0 a ci : Nat} {fs : List Value} {L M : va_W} : Nw_ ws q0 a ci fs L ++ M = Nw_ ws q0 a ci fs (L ++ M) := by
  unfold Nw_
  rw [List.append_assoc]
theorem Nw_start {ws : va_W} {q0 a ci : Nat} {fs : List Value} (h : ws[q0]? = some (a, .inr (ci, fs))) : ws = Nw_ ws q0 a ci fs [] := by
  unfold Nw_
  rw [List.append_nil]
  apply List.ext_getElem?
  intro j
  by_cases hj : j = q0
  · subst hj
    rw [List.getElem?_set_self (List.getElem?_eq_some_iff.mp h).1, h]
  · rw [List.getElem?_set_ne (fun q => hj q.symm)]
section LROWS
variable {E : Ev} {l0 : Launch} {R0 : Room} {n0 : Nat} {cc : ByteArray} {own : String} {pc cs sl : Nat} {lv : List (Option Value)} {st : List Value} {ws L : va_W} {q0 a ci : Nat} {fs : List Value}
theorem n_put (C : Cx E l0 R0 n0 cc own) (hq : q0 < ws.length) {k idx : Nat} {v : Int32} (f : Fw own idx ci k) (g : Fp ci k false) (hl0 : k < fs.length) (d : decode cc pc = .ok (.putfield idx, 3)) (kk : WQ E cs sl (Nw_ ws q0 a ci (fs.set k (.int v)) L) (pc + 3) lv st) : WQ E cs sl (Nw_ ws q0 a ci fs L) pc lv (.int v :: .ref a :: st) :=
  q_put C (Nw_at hq) f g hl0 d (by rw [Nw_set hq]; exact kk)
theorem n_putz (C : Cx E l0 R0 n0 cc own) (hq : q0 < ws.length) {k idx : Nat} {v : Int32} (f : Fw own idx ci k) (g : Fp ci k true) (hl0 : k < fs.length) (hv : v.toInt = 0 ∨ v.toInt = 1) (d : decode cc pc = .ok (.putfield idx, 3)) (kk : WQ E cs sl (Nw_ ws q0 a ci (fs.set k (.int v)) L) (pc + 3) lv st) : WQ E cs sl (Nw_ ws q0 a ci fs L) pc lv (.int v :: .ref a :: st) :=
  q_putz C (Nw_at hq) f g hl0 hv d (by rw [Nw_set hq]; exact kk)
theorem n_putF (C : Cx E l0 R0 n0 cc own) (hi : Ci E) (hq : q0 < ws.length) {k idx v : Nat} (f : Fw own idx ci k) (g : Ff ci k own) (hl0 : k < fs.length) (d : decode cc pc = .ok (.putfield idx, 3)) (kk : WQ E cs sl (Nw_ ws q0 a ci (fs.set k (.ref v)) L) (pc + 3) lv st) : WQ E cs sl (Nw_ ws q0 a ci fs L) pc lv (.ref v :: .ref a :: st) :=
  q_putF C hi (Nw_at hq) f g hl0 d (by rw [Nw_set hq]; exact kk)
theorem vp_zi (cA : ClassId) (n : Nat) : vp_cell cA (n, .inl (fun _ => 0)) = arrV cA n (fun _ => defaultValue .int) := rfl
theorem n_newI (C : Cx E l0 R0 n0 cc own) {ck : Nat → ClassId} (hck : ekk E = ck) (hq : q0 < ws.length) {n : Nat} {x : Int32} (hw : Cond.arrayClass .int ∈ tb) (hx0 : x.toInt = n) (hby : n * 4 ≤ 536870912) (hcl : cs + 1 ≤ R0.cells) (hsl : sl + n ≤ R0.slots) (d : decode cc pc = .ok (.newarray .int, 2)) (kk : ∀ q : Nat, WQ E (cs + 1) (sl + n) (Nw_ ws q0 a ci fs (L ++ [(q, aI ck n)])) (pc + 2) lv (.ref q :: st)) : WQ E cs sl (Nw_ ws q0 a ci fs L) pc lv (.int x :: st) := by
  subst hck
  exact q_newa (at_ := .int) (kd := 0) (a0 := (n, .inl (fun _ => 0))) C rfl hw (fun _ => rfl) hx0 hby hcl hsl d (fun q => by rw [Nw_app]; exact kk q)
theorem n_newL (C : Cx E l0 R0 n0 cc own) {ck : Nat → ClassId} (hck : ekk E = ck) (hq : q0 < ws.length) {n : Nat} {x : Int32} (hw : Cond.arrayClass .long ∈ tb) (hx0 : x.toInt = n) (hby : n * 8 ≤ 536870912) (hcl : cs + 1 ≤ R0.cells) (hsl : sl + n ≤ R0.slots) (d : decode cc pc = .ok (.newarray .long, 2)) (kk : ∀ q : Nat, WQ E (cs + 1) (sl + n) (Nw_ ws q0 a ci fs (L ++ [(q, aL ck n)])) (pc + 2) lv (.ref q :: st)) : WQ E cs sl (Nw_ ws q0 a ci fs L) pc lv (.int x :: st) := by
  subst hck
  exact q_newa (at_ := .long) (kd := 1) (a0 := (n, .inr (.inl (fun _ => 0)))) C rfl hw (fun _ => rfl) hx0 hby hcl hsl d (fun q => by rw [Nw_app]; exact kk q)
theorem n_newZ (C : Cx E l0 R0 n0 cc own) {ck : Nat → ClassId} (hck : ekk E = ck) (hq : q0 < ws.length) {n : Nat} {x : Int32} (hw : Cond.arrayClass .boolean ∈ tb) (hx0 : x.toInt = n) (hby : n * 1 ≤ 536870912) (hcl : cs + 1 ≤ R0.cells) (hsl : sl + n ≤ R0.slots) (d : decode cc pc = .ok (.newarray .boolean, 2)) (kk : ∀ q : Nat, WQ E (cs + 1) (sl + n) (Nw_ ws q0 a ci fs (L ++ [(q, aZ ck n)])) (pc + 2) lv (.ref q :: st)) : WQ E cs sl (Nw_ ws q0 a ci fs L) pc lv (.int x :: st) := by
  subst hck
  exact q_newa (at_ := .boolean) (kd := 2) (a0 := (n, .inl (fun _ => 0))) C rfl hw (fun _ => rfl) hx0 hby hcl hsl d (fun q => by rw [Nw_app]; exact kk q)
/-- a number into the row made last -/
theorem n_iast (C : Cx E l0 R0 n0 cc own) {ck : Nat → ClassId} (hck : ekk E = ck) {q n : Nat} {f : Nat → Int32} {x v : Int32} (h : 0 ≤ x.toInt ∧ x.toInt < n) (d : decode cc pc = .ok (.iastore, 1)) (kk : WQ E cs sl (Nw_ ws q0 a ci fs (L ++ [(q, .inl (ck 0, n, .inl (upd f x.toNatClampNeg v)))])) (pc + 1) lv st) : WQ E cs sl (Nw_ ws q0 a ci fs (L ++ [(q, .inl (ck 0, n, .inl f))])) pc lv (.int v :: .int x :: .ref q :: st) := by
  subst hck
  obtain ⟨p, l, e, R, s, m, args, below, meth, c, cells, slots, Q, D, ck, A, nL⟩ := E
  obtain ⟨rfl, rfl, rfl, hx, hb, hml, hown, hts, hK, hA, hlk, hc1, hc2⟩ := C
  intro H locs ls hP hD hS hl
  have hz : (Nw_ ws q0 a ci fs L).length < (Nw_ ws q0 a ci fs (L ++ [(q, .inl (ck 0, n, .inl f))])).length := by rw [← Nw_app]; simp
  have ha : (Nw_ ws q0 a ci fs (L ++ [(q, .inl (ck 0, n, .inl f))]))[(Nw_ ws q0 a ci fs L).length]? = some (q, .inl (ck 0, n, .inl f)) := by rw [← Nw_app]; simp
  refine va_iast hx hb hK hP hD hS _ 0 ha rfl (vin h) d (fun H1 locs1 a1 a2 a3 => ?_)
  have e : (Nw_ ws q0 a ci fs (L ++ [(q, .inl (ck 0, n, .inl f))])).set (Nw_ ws q0 a ci fs L).length (q, .inl (ck 0, n, .inl (upd f x.toNatClampNeg v))) = Nw_ ws q0 a ci fs (L ++ [(q, .inl (ck 0, n, .inl (upd f x.toNatClampNeg v)))]) := by
    rw [← Nw_app, ← Nw_app, List.set_append_right _ _ (Nat.le_refl _)]
    simp
  change va_P D vwCl (List.set (Nw_ ws q0 a ci fs (L ++ [(q, .inl (ck 0, n, .inl f))])) _ _) H1 at a1
  change va_D A (List.set (Nw_ ws q0 a ci fs (L ++ [(q, .inl (ck 0, n, .inl f))])) _ _) at a2
  rw [e] at a1 a2
  exact kk H1 locs1 ls a1 a2 a3 hl
end LROWS
