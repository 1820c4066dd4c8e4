/-! a call of a nest mate's private method, and a contract of a method that makes such a call -/
def Nx (E : Ev) (w : Cond) : Prop := match E with
  | (_, _, _, _, s, _, _, _, _, _, _, _, _, _, _, _, _) => va_Nw w s
def gPn (w : Cond) (D : va_G) (ck : Nat → ClassId) (ad : Nat → Nat) (σ : Sg) (sz : Nat) (av : List Value) : Array Value → State → Prop := fun a U => gPc D ck ad σ sz av a U ∧ va_Nw w U
def MtN (w : Cond) (l : Launch) (y : MethodName) (cc : ByteArray) (maxL : Nat) (ret : Option FieldType) (lvl : Nat) (ad : Nat → Nat) (σ : Sg) (av : List Value) (post : Option Value → Sg → Prop) : Prop := ∀ (D : va_G) (ck : Nat → ClassId) (sz : Nat), Met l y (.code y cc maxL ret :: tb) (rmk lvl) (gPn w D ck ad σ sz av) (gQ D ck ad post (va_A (gW ck ad σ) sz)) 0 0 (va_A (gW ck ad σ) sz)
theorem MtN_intro {w : Cond} {l : Launch} {y : MethodName} {cc : ByteArray} {maxL : Nat} {ret : Option FieldType} {lvl : Nat} {ad : Nat → Nat} {σ : Sg} {av : List Value} {post : Option Value → Sg → Prop} (hy : plainName y.cls = true) (hlen : (lg_sl av).length ≤ maxL)
    (body : ∀ E : Ev, Cx E l (rmk lvl) maxL cc y.cls → Rx E ad ret post → Nx E w → WP E ad 0 (lvA av ++ List.replicate (maxL - (lvA av).length) none) [] σ) : MtN w l y cc maxL ret lvl ad σ av post := by
  intro D ck sz
  refine Met.ofW (cc := cc) (maxL := maxL) (ret := ret) hy rfl ?_
  intro p e s m args below meth c s₁ B hml hv
  obtain ⟨⟨rfl, hsz, hP, hK, hD0⟩, hN⟩ := hv
  have hts := atoms_spec (ws := Cond.code y cc maxL ret :: tb) B.pre
  subst hsz
  have hl := lv_entry av (n := maxL) hlen
  rw [lg_entry_eq]
  have hD := hD0.self (sz := s.heap.size)
  exact body (p, l, e, (headSpec (Cond.code y cc maxL ret :: tb) (rmk lvl)).room, s, m, av.toArray, below, meth, c, 0, 0, _, D, ck, va_A (gW ck ad σ) s.heap.size, maxL) ⟨rfl, rfl, rfl, B.exec, B.bytes, hml, findClass_of_methodNamed B.named, fun w h => hts w (List.mem_cons_of_mem _ h), hK, fun q h => Or.inr h, B.notSynchronized, Nat.zero_le _, Nat.zero_le _⟩ ⟨rfl, B.returns⟩ hN s.heap [] _ hP hD va_S.rf ⟨hl.1, hl.2.1, fun i v h => hl.2.2 (i, v) (by have := lvA_args _ v av i 0 h; rwa [Nat.zero_add] at this)⟩
theorem gPn_blind {a b : String} {i : Nat} {x : MethodName} {D : va_G} {ck : Nat → ClassId} {ad : Nat → Nat} {σ : Sg} {sz : Nat} {av : List Value} : FrameBlind (gPn (.methodLinkNest a i x b) D ck ad σ sz av) := fun a U g mk q => ⟨gPc_blind a U g mk q.1, va_Nw.same (U := U.calling g mk a) rfl rfl q.2⟩
def Vn (C : String) (y : MethodName) (bytes : ByteArray) (maxL : Nat) (ret : Option FieldType) (n : Nat) : Prop := y.cls = C ∧ Cond.instanceMethod y ∈ tb ∧ Cond.selects C y y ∈ tb ∧ Cond.initialized C ∈ tb ∧ Cond.code y bytes maxL ret ∈ tb ∧ y.cls ≠ "java/lang/invoke/MethodHandle" ∧ y.cls ≠ "java/lang/invoke/VarHandle" ∧ (parseMethodDescriptor y.desc).map (fun d => d.parameters.length) = some n
section NCALLS
variable {E : Ev} {ad : Nat → Nat} {l0 : Launch} {R0 : Room} {n0 : Nat} {cc : ByteArray} {own : String} {pc : Nat} {lv : List (Option Value)} {st stk : List Value} {σ : Sg} {y : MethodName} {bytes : ByteArray} {maxL lvl idx n i ci N : Nat} {ret : Option FieldType} {fs : List (Option Nat)} {Cn : String} {T : u_T} {As : List Value} {post : Option Value → Sg → Prop}
/-- the private method of a nest mate is called -/
theorem s_callN {host : String} (C : Cx E l0 R0 n0 cc own) (hN : Nx E (.methodLinkNest own idx y host)) (M : Mt l0 y bytes maxL ret lvl ad σ (.ref (ad i) :: As) post) (w : Vn Cn y bytes maxL ret n) (yl : lay[i]? = some (.inr (ci, fs))) (hc : vwCl[ci]? = some (Cn, T, N)) (hn : As.length = n) (hst : stk = As.reverse ++ .ref (ad i) :: st) (hroom : lvl + 1 ≤ R0.frames ∧ 8 + (maxL + 11) + 48 * lvl ≤ R0.locals) (hrest : (st.map fun v => v.category).sum ≤ 8) (d : decode cc pc = .ok (.invokevirtual idx, 3)) (k : ∀ (v : Option Value) (τ : Sg), post v τ → WP E ad (pc + 3) lv (v.toList ++ st) τ) : WP E ad pc lv stk σ := by
  subst hst
  obtain ⟨p, l, e, R, s, m, args, below, meth, c, cells, slots, Q, D, ck, A, nL⟩ := E
  obtain ⟨rfl, rfl, rfl, hx, hb, hml, hown, hts, hK, hA, hlk, hc1, hc2⟩ := C
  intro H locs ls hP hD hS hl
  obtain ⟨w0, w2, w3, w4, w5, w6⟩ := w
  refine cg (D := D) (ck := ck) (ad := ad) (σ := σ) (post := post) (A := A) (va_runVN (As := As) (rest := st) (n := n) (C := Cn) ⟨hx, hb, hml, hown, hts⟩ (M D ck H.size) ⟨va_cnB n hts (lw_goodIn w5) rfl rfl rfl hN (by rw [w0]; exact hts _ w4) w6 hroom, hts _ w2, hts _ w3⟩ ⟨gPc_blind, va_recv hK hP hc (gW_at yl), fun U hU hW => ⟨rfl, by rw [hU], by rw [hU]; exact hP, va_K.moved hW.alike hK, hD.weaken (fun _ _ _ _ => trivial)⟩⟩ rfl hn hl.1 rfl (lv_room hrest) d ⟨by simpa using hc1, by simpa using hc2⟩) hD hS hA ?_
  intro v τ H1 locs1 hp a1 a2 a3
  exact k v τ hp H1 locs1 ls a1 a2 a3 hl
theorem s_callNI {host : String} {P : Int32 → Sg → Prop} (C : Cx E l0 R0 n0 cc own) (hN : Nx E (.methodLinkNest own idx y host)) (M : Mt l0 y bytes maxL ret lvl ad σ (.ref (ad i) :: As) (oI P)) (w : Vn Cn y bytes maxL ret n) (yl : lay[i]? = some (.inr (ci, fs))) (hc : vwCl[ci]? = some (Cn, T, N)) (hn : As.length = n) (hst : stk = As.reverse ++ .ref (ad i) :: st) (hroom : lvl + 1 ≤ R0.frames ∧ 8 + (maxL + 11) + 48 * lvl ≤ R0.locals) (hrest : (st.map fun v => v.category).sum ≤ 8) (d : decode cc pc = .ok (.invokevirtual idx, 3)) (k : ∀ (r : Int32) (τ : Sg), P r τ → WP E ad (pc + 3) lv (.int r :: st) τ) : WP E ad pc lv stk σ :=
  s_callN C hN M w yl hc hn hst hroom hrest d (fun v τ hp => by obtain ⟨r, rfl, h⟩ := hp; exact k r τ h)
/-- a method whose contract asks for the nest's word is called -/
theorem s_callM {a b : String} {j : Nat} {x : MethodName} (C : Cx E l0 R0 n0 cc own) (hN : Nx E (.methodLinkNest a j x b)) (M : MtN (.methodLinkNest a j x b) l0 y bytes maxL ret lvl ad σ (.ref (ad i) :: As) post) (w : Vw own idx Cn y bytes maxL ret n) (yl : lay[i]? = some (.inr (ci, fs))) (hc : vwCl[ci]? = some (Cn, T, N)) (hn : As.length = n) (hst : stk = As.reverse ++ .ref (ad i) :: st) (hroom : lvl + 1 ≤ R0.frames ∧ 8 + (maxL + 11) + 48 * lvl ≤ R0.locals) (hrest : (st.map fun v => v.category).sum ≤ 8) (d : decode cc pc = .ok (.invokevirtual idx, 3)) (k : ∀ (v : Option Value) (τ : Sg), post v τ → WP E ad (pc + 3) lv (v.toList ++ st) τ) : WP E ad pc lv stk σ := by
  subst hst
  obtain ⟨p, l, e, R, s, m, args, below, meth, c, cells, slots, Q, D, ck, A, nL⟩ := E
  obtain ⟨rfl, rfl, rfl, hx, hb, hml, hown, hts, hK, hA, hlk, hc1, hc2⟩ := C
  intro H locs ls hP hD hS hl
  obtain ⟨w0, w1, w2, w3, w4, w5, w6⟩ := w
  refine cg (D := D) (ck := ck) (ad := ad) (σ := σ) (post := post) (A := A) (va_runV (As := As) (rest := st) (n := n) (C := Cn) ⟨hx, hb, hml, hown, hts⟩ (M D ck H.size) ⟨callB_of n hts (lw_goodIn w5) rfl rfl rfl (by rw [w0]; exact hts _ w4) (hts _ w1) w6 hroom, hts _ w2, hts _ w3⟩ ⟨gPn_blind, va_recv hK hP hc (gW_at yl), fun U hU hW => ⟨⟨rfl, by rw [hU], by rw [hU]; exact hP, va_K.moved hW.alike hK, hD.weaken (fun _ _ _ _ => trivial)⟩, va_Nw.warmM hW hN⟩⟩ rfl hn hl.1 rfl (lv_room hrest) d ⟨by simpa using hc1, by simpa using hc2⟩) hD hS hA ?_
  intro v τ H1 locs1 hp a1 a2 a3
  exact k v τ hp H1 locs1 ls a1 a2 a3 hl
theorem s_callMI {a b : String} {j : Nat} {x : MethodName} {P : Int32 → Sg → Prop} (C : Cx E l0 R0 n0 cc own) (hN : Nx E (.methodLinkNest a j x b)) (M : MtN (.methodLinkNest a j x b) l0 y bytes maxL ret lvl ad σ (.ref (ad i) :: As) (oI P)) (w : Vw own idx Cn y bytes maxL ret n) (yl : lay[i]? = some (.inr (ci, fs))) (hc : vwCl[ci]? = some (Cn, T, N)) (hn : As.length = n) (hst : stk = As.reverse ++ .ref (ad i) :: st) (hroom : lvl + 1 ≤ R0.frames ∧ 8 + (maxL + 11) + 48 * lvl ≤ R0.locals) (hrest : (st.map fun v => v.category).sum ≤ 8) (d : decode cc pc = .ok (.invokevirtual idx, 3)) (k : ∀ (r : Int32) (τ : Sg), P r τ → WP E ad (pc + 3) lv (.int r :: st) τ) : WP E ad pc lv stk σ :=
  s_callM C hN M w yl hc hn hst hroom hrest d (fun v τ hp => by obtain ⟨r, rfl, h⟩ := hp; exact k r τ h)
end NCALLS
