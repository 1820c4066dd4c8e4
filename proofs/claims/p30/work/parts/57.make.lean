/-! the making of the world: the judgement over any list of cells -/
def WQ (E : Ev) (cells slots : Nat) (ws : va_W) (pc : Nat) (lv : List (Option Value)) (st : List Value) : Prop := match E with
  | (p, l, e, R, s, m, args, below, meth, c, _, _, Q, D, _, A, nL) => ∀ (H : Heap) (locs : List Loc) (ls : Array Slot), va_P D vwCl ws H → va_D A ws → va_S A s.heap H locs → lh ls nL lv → W p l e R s m args below meth c H locs cells slots Q (F0 m pc ls st)
def ekk (E : Ev) : Nat → ClassId := match E with
  | (_, _, _, _, _, _, _, _, _, _, _, _, _, _, ck, _, _) => ck
def Ci (E : Ev) : Prop := match E with
  | (_, _, _, _, _, _, _, _, meth, _, _, _, _, _, _, _, _) => meth.name = "<init>"
def aI (ck : Nat → ClassId) (n : Nat) : va_E := .inl (ck 0, n, .inl (fun _ => 0))
def aL (ck : Nat → ClassId) (n : Nat) : va_E := .inl (ck 1, n, .inr (.inl (fun _ => 0)))
def aZ (ck : Nat → ClassId) (n : Nat) : va_E := .inl (ck 2, n, .inl (fun _ => 0))
/-- a final field that holds a reference -/
def Ff (ci k : Nat) (own : String) : Prop := ∀ (C : String) (T : u_T) (N : Nat), vwCl[ci]? = some (C, T, N) → (T k).2.2.2 = true ∧ (T k).1 = own ∧ ∃ ty : FieldType, parseFieldDescriptor (T k).2.2.1 = some ty ∧ ∀ q : Nat, narrow ty (.ref q) = .ref q ∧ fits ty (.ref q) = true
section QROWS
variable {E : Ev} {l0 : Launch} {R0 : Room} {n0 : Nat} {cc : ByteArray} {own : String} {pc cs sl : Nat} {lv : List (Option Value)} {st : List Value} {ws : va_W}

theorem q_iconst (C : Cx E l0 R0 n0 cc own) {n : Int} (d : decode cc pc = .ok (.iconst n, 1)) (h : (Int32.ofInt n).toInt = n) (k : ∀ z : Int32, z.toInt = n → WQ E cs sl ws (pc + 1) lv (.int z :: st)) : WQ E cs sl ws pc lv st := by
  obtain ⟨p, l, e, R, s, m, args, below, meth, c, cells, slots, Q, D, ck, A, nL⟩ := E
  obtain ⟨rfl, rfl, rfl, hx, hb, hml, hown, hts, hK, hA, hlk, hc1, hc2⟩ := C
  intro H locs ls hP hD hS hl
  exact lv_iconst hx hb d rfl (k _ h H locs ls hP hD hS hl)
theorem q_bipush (C : Cx E l0 R0 n0 cc own) {n : Int} (d : decode cc pc = .ok (.bipush n, 2)) (h : ((Int8.ofInt n).toInt32).toInt = n) (k : ∀ z : Int32, z.toInt = n → WQ E cs sl ws (pc + 2) lv (.int z :: st)) : WQ E cs sl ws pc lv st := by
  obtain ⟨p, l, e, R, s, m, args, below, meth, c, cells, slots, Q, D, ck, A, nL⟩ := E
  obtain ⟨rfl, rfl, rfl, hx, hb, hml, hown, hts, hK, hA, hlk, hc1, hc2⟩ := C
  intro H locs ls hP hD hS hl
  exact lv_bipush hx hb d rfl (k _ h H locs ls hP hD hS hl)
theorem q_sipush (C : Cx E l0 R0 n0 cc own) {n : Int} (d : decode cc pc = .ok (.sipush n, 3)) (h : ((Int16.ofInt n).toInt32).toInt = n) (k : ∀ z : Int32, z.toInt = n → WQ E cs sl ws (pc + 3) lv (.int z :: st)) : WQ E cs sl ws pc lv st := by
  obtain ⟨p, l, e, R, s, m, args, below, meth, c, cells, slots, Q, D, ck, A, nL⟩ := E
  obtain ⟨rfl, rfl, rfl, hx, hb, hml, hown, hts, hK, hA, hlk, hc1, hc2⟩ := C
  intro H locs ls hP hD hS hl
  exact lv_sipush hx hb d rfl (k _ h H locs ls hP hD hS hl)
theorem q_iload_n (C : Cx E l0 R0 n0 cc own) {j : Fin 4} {x : Int32} (d : decode cc pc = .ok (.iload_n j, 1)) (h : lv[(j : Nat)]? = some (some (.int x))) (k : WQ E cs sl ws (pc + 1) lv (.int x :: st)) : WQ E cs sl ws pc lv st := by
  obtain ⟨p, l, e, R, s, m, args, below, meth, c, cells, slots, Q, D, ck, A, nL⟩ := E
  obtain ⟨rfl, rfl, rfl, hx, hb, hml, hown, hts, hK, hA, hlk, hc1, hc2⟩ := C
  intro H locs ls hP hD hS hl
  exact lv_iload_n hx hb d rfl (hl.2.2 _ _ h) (k H locs ls hP hD hS hl)
theorem q_aload_n (C : Cx E l0 R0 n0 cc own) {j : Fin 4} {x : Nat} (d : decode cc pc = .ok (.aload_n j, 1)) (h : lv[(j : Nat)]? = some (some (.ref x))) (k : WQ E cs sl ws (pc + 1) lv (.ref x :: st)) : WQ E cs sl ws pc lv st := by
  obtain ⟨p, l, e, R, s, m, args, below, meth, c, cells, slots, Q, D, ck, A, nL⟩ := E
  obtain ⟨rfl, rfl, rfl, hx, hb, hml, hown, hts, hK, hA, hlk, hc1, hc2⟩ := C
  intro H locs ls hP hD hS hl
  exact lv_aload_n hx hb d rfl (hl.2.2 _ _ h) (k H locs ls hP hD hS hl)
theorem q_istore_n (C : Cx E l0 R0 n0 cc own) {j : Fin 4} {x : Int32} (d : decode cc pc = .ok (.istore_n j, 1)) (hn : (j : Nat) < n0) (hi : (j : Nat) < lv.length) (hok : lok lv j = true) (k : WQ E cs sl ws (pc + 1) (lv.set j (some (.int x))) st) : WQ E cs sl ws pc lv (.int x :: st) := by
  obtain ⟨p, l, e, R, s, m, args, below, meth, c, cells, slots, Q, D, ck, A, nL⟩ := E
  obtain ⟨rfl, rfl, rfl, hx, hb, hml, hown, hts, hK, hA, hlk, hc1, hc2⟩ := C
  intro H locs ls hP hD hS hl
  exact lv_istore_n hx hb d rfl (lq_of hl) hn rfl (fun ls hl => k H locs ls hP hD hS (lh_st1 hl hok hi))
theorem q_astore_n (C : Cx E l0 R0 n0 cc own) {j : Fin 4} {x : Nat} (d : decode cc pc = .ok (.astore_n j, 1)) (hn : (j : Nat) < n0) (hi : (j : Nat) < lv.length) (hok : lok lv j = true) (k : WQ E cs sl ws (pc + 1) (lv.set j (some (.ref x))) st) : WQ E cs sl ws pc lv (.ref x :: st) := by
  obtain ⟨p, l, e, R, s, m, args, below, meth, c, cells, slots, Q, D, ck, A, nL⟩ := E
  obtain ⟨rfl, rfl, rfl, hx, hb, hml, hown, hts, hK, hA, hlk, hc1, hc2⟩ := C
  intro H locs ls hP hD hS hl
  exact lv_astore_n hx hb d rfl (lq_of hl) hn rfl (fun ls hl => k H locs ls hP hD hS (lh_st1 hl hok hi))
theorem q_iinc (C : Cx E l0 R0 n0 cc own) {j : Nat} {n : Int} {x : Int32} (d : decode cc pc = .ok (.iinc j n, 3)) (h : lv[j]? = some (some (.int x))) (hn : j < n0) (hok : lok lv j = true) (hz : (Int32.ofInt n).toInt = n) (hr : -2147483648 ≤ x.toInt + n ∧ x.toInt + n < 2147483648) (k : ∀ z : Int32, z.toInt = x.toInt + n → WQ E cs sl ws (pc + 3) (lv.set j (some (.int z))) st) : WQ E cs sl ws pc lv st := by
  obtain ⟨p, l, e, R, s, m, args, below, meth, c, cells, slots, Q, D, ck, A, nL⟩ := E
  obtain ⟨rfl, rfl, rfl, hx, hb, hml, hown, hts, hK, hA, hlk, hc1, hc2⟩ := C
  intro H locs ls hP hD hS hl
  obtain ⟨q, hq⟩ := List.getElem?_of_mem (lq_mem.mpr h)
  have ez : (x + Int32.ofInt n).toInt = x.toInt + n := by rw [Jvm.Kit.i32_add (by rw [hz]; omega) (by rw [hz]; omega), hz]
  exact lv_iinc hx hb d (lq_of hl) hq rfl hn rfl (fun ls hl => k _ ez H locs ls hP hD hS (lh_st1 hl hok (List.getElem?_eq_some_iff.mp h).1))
theorem q_dup (C : Cx E l0 R0 n0 cc own) {v : Value} (d : decode cc pc = .ok (.dup, 1)) (h : v.category = 1) (k : WQ E cs sl ws (pc + 1) lv (v :: v :: st)) : WQ E cs sl ws pc lv (v :: st) := by
  obtain ⟨p, l, e, R, s, m, args, below, meth, c, cells, slots, Q, D, ck, A, nL⟩ := E
  obtain ⟨rfl, rfl, rfl, hx, hb, hml, hown, hts, hK, hA, hlk, hc1, hc2⟩ := C
  intro H locs ls hP hD hS hl
  exact lv_dup hx hb d h (k H locs ls hP hD hS hl)
theorem q_goto (C : Cx E l0 R0 n0 cc own) {off : Int} {tgt : Nat} (d : decode cc pc = .ok (.goto off, 3)) (ht : (pc : Int) + off = (tgt : Int)) (k : WQ E cs sl ws tgt lv st) : WQ E cs sl ws pc lv st := by
  obtain ⟨p, l, e, R, s, m, args, below, meth, c, cells, slots, Q, D, ck, A, nL⟩ := E
  obtain ⟨rfl, rfl, rfl, hx, hb, hml, hown, hts, hK, hA, hlk, hc1, hc2⟩ := C
  intro H locs ls hP hD hS hl
  exact lv_goto hx hb d ht (k H locs ls hP hD hS hl)
theorem q_icmp_ge (C : Cx E l0 R0 n0 cc own) {x y : Int32} {off : Int} {tgt : Nat} (d : decode cc pc = .ok (.if_icmp .ge off, 3)) (ht : (pc : Int) + off = (tgt : Int)) (kt : y.toInt ≤ x.toInt → WQ E cs sl ws tgt lv st) (kf : x.toInt < y.toInt → WQ E cs sl ws (pc + 3) lv st) : WQ E cs sl ws pc lv (.int y :: .int x :: st) := by
  obtain ⟨p, l, e, R, s, m, args, below, meth, c, cells, slots, Q, D, ck, A, nL⟩ := E
  obtain ⟨rfl, rfl, rfl, hx, hb, hml, hown, hts, hK, hA, hlk, hc1, hc2⟩ := C
  intro H locs ls hP hD hS hl
  exact lv_icmp_ge hx hb d ht (fun q => kt (by simp only [z_eq, z_lt, z_le, z_0, ge_iff_le, gt_iff_lt, ne_eq] at q; omega) H locs ls hP hD hS hl) (fun q => kf (by simp only [z_eq, z_lt, z_le, z_0, ge_iff_le, gt_iff_lt, ne_eq] at q; omega) H locs ls hP hD hS hl)
/-- Object() -/
theorem q_obj (C : Cx E l0 R0 n0 cc own) {idx a : Nat} (w1 : Cond.methodLink own idx Lib.objectInit ∈ tb) (w2 : Cond.instanceMethod Lib.objectInit ∈ tb) (w3 : Cond.code Lib.objectInit ⟨#[0xb1]⟩ 1 none ∈ tb) (hf : 1 ≤ R0.frames) (hlo : (st.map fun v => v.category).sum + 12 ≤ R0.locals) (d : decode cc pc = .ok (.invokespecial idx, 3)) (k : WQ E cs sl ws (pc + 3) lv st) : WQ E cs sl ws pc lv (.ref a :: st) := by
  obtain ⟨p, l, e, R, s, m, args, below, meth, c, cells, slots, Q, D, ck, A, nL⟩ := E
  obtain ⟨rfl, rfl, rfl, hx, hb, hml, hown, hts, hK, hA, hlk, hc1, hc2⟩ := C
  intro H locs ls hP hD hS hl
  exact W.objInit hx hb hown (hts _ w1) (hts _ w2) (hts _ w3) rfl (by rw [hml]; exact hl.1) rfl d hf (by simpa [F0] using hlo) (k H locs ls hP hD hS hl)
theorem q_put (C : Cx E l0 R0 n0 cc own) {q0 a k ci idx : Nat} {fs : List Value} {v : Int32} (he : ws[q0]? = some (a, .inr (ci, fs))) (f : Fw own idx ci k) (g : Fp ci k false) (hl0 : k < fs.length) (d : decode cc pc = .ok (.putfield idx, 3)) (kk : WQ E cs sl (ws.set q0 (a, .inr (ci, fs.set k (.int v)))) (pc + 3) lv st) : WQ E cs sl ws pc lv (.int v :: .ref a :: st) := by
  obtain ⟨p, l, e, R, s, m, args, below, meth, c, cells, slots, Q, D, ck, A, nL⟩ := E
  obtain ⟨rfl, rfl, rfl, hx, hb, hml, hown, hts, hK, hA, hlk, hc1, hc2⟩ := C
  intro H locs ls hP hD hS hl
  obtain ⟨C, T, N, ty, h1, h2, h3, h4, h5, h6⟩ := f
  obtain ⟨g1, g2⟩ := g C T N h1
  exact va_put hx hb hts h4 ty h5 h6 hown hK hP hD hS q0 he h1 k h2 (hts _ h3) (fun _ q => q) g1 (ty := .int) g2 rfl rfl hl0 d (fun H1 locs1 a1 a2 a3 => kk H1 locs1 ls a1 a2 a3 hl)
theorem q_putz (C : Cx E l0 R0 n0 cc own) {q0 a k ci idx : Nat} {fs : List Value} {v : Int32} (he : ws[q0]? = some (a, .inr (ci, fs))) (f : Fw own idx ci k) (g : Fp ci k true) (hl0 : k < fs.length) (hv : v.toInt = 0 ∨ v.toInt = 1) (d : decode cc pc = .ok (.putfield idx, 3)) (kk : WQ E cs sl (ws.set q0 (a, .inr (ci, fs.set k (.int v)))) (pc + 3) lv st) : WQ E cs sl ws pc lv (.int v :: .ref a :: st) := by
  obtain ⟨p, l, e, R, s, m, args, below, meth, c, cells, slots, Q, D, ck, A, nL⟩ := E
  obtain ⟨rfl, rfl, rfl, hx, hb, hml, hown, hts, hK, hA, hlk, hc1, hc2⟩ := C
  intro H locs ls hP hD hS hl
  obtain ⟨C, T, N, ty, h1, h2, h3, h4, h5, h6⟩ := f
  obtain ⟨g1, g2⟩ := g C T N h1
  exact va_put hx hb hts h4 ty h5 h6 hown hK hP hD hS q0 he h1 k h2 (hts _ h3) (fun _ q => q) g1 (ty := .boolean) g2 (bl_n hv).1 (bl_n hv).2 hl0 d (fun H1 locs1 a1 a2 a3 => kk H1 locs1 ls a1 a2 a3 hl)
theorem q_putF (C : Cx E l0 R0 n0 cc own) (hi : Ci E) {q0 a k ci idx v : Nat} {fs : List Value} (he : ws[q0]? = some (a, .inr (ci, fs))) (f : Fw own idx ci k) (g : Ff ci k own) (hl0 : k < fs.length) (d : decode cc pc = .ok (.putfield idx, 3)) (kk : WQ E cs sl (ws.set q0 (a, .inr (ci, fs.set k (.ref v)))) (pc + 3) lv st) : WQ E cs sl ws pc lv (.ref v :: .ref a :: st) := by
  obtain ⟨p, l, e, R, s, m, args, below, meth, c, cells, slots, Q, D, ck, A, nL⟩ := E
  obtain ⟨rfl, rfl, rfl, hx, hb, hml, hown, hts, hK, hA, hlk, hc1, hc2⟩ := C
  intro H locs ls hP hD hS hl
  obtain ⟨C, T, N, ty, h1, h2, h3, h4, h5, h6⟩ := f
  obtain ⟨g1, g2, t9, g3, g4⟩ := g C T N h1
  exact va_putF hx hb hts h4 ty h5 h6 hown hK hP hD hS q0 he h1 k h2 (hts _ h3) (fun _ q => q) g1 hi g2 (ty := t9) g3 (g4 v).1 (g4 v).2 hl0 d (fun H1 locs1 a1 a2 a3 => kk H1 locs1 ls a1 a2 a3 hl)
theorem q_getr (C : Cx E l0 R0 n0 cc own) {q0 a k ci idx : Nat} {fs : List Value} {v : Value} (he : ws[q0]? = some (a, .inr (ci, fs))) (f : Fw own idx ci k) (hf : fs[k]? = some v) (d : decode cc pc = .ok (.getfield idx, 3)) (kk : WQ E cs sl ws (pc + 3) lv (v :: st)) : WQ E cs sl ws pc lv (.ref a :: st) := by
  obtain ⟨p, l, e, R, s, m, args, below, meth, c, cells, slots, Q, D, ck, A, nL⟩ := E
  obtain ⟨rfl, rfl, rfl, hx, hb, hml, hown, hts, hK, hA, hlk, hc1, hc2⟩ := C
  intro H locs ls hP hD hS hl
  obtain ⟨C, T, N, ty, h1, h2, h3, h4, h5, h6⟩ := f
  exact va_get hx hb hts h4 hown hK hP q0 he h1 _ h2 (hts _ h3) (fun _ q => q) hf d (kk H locs ls hP hD hS hl)
/-- what an array of a primitive type is made as: kd its place in tyk -/
theorem q_newa (C : Cx E l0 R0 n0 cc own) {kd n : Nat} {at_ : ArrayType} {x : Int32} {a0 : vp_A} (hkd : (tyk (ekk E))[kd]? = some (ekk E kd, Op.newarray.typeOf at_)) (hw : Cond.arrayClass (Op.newarray.typeOf at_) ∈ tb) (ha : ∀ cA : ClassId, vp_cell cA a0 = arrV cA n (fun _ => defaultValue (Op.newarray.typeOf at_))) (hx0 : x.toInt = n) (hby : n * componentBytes (Op.newarray.typeOf at_) ≤ 536870912) (hcl : cs + 1 ≤ R0.cells) (hsl : sl + n ≤ R0.slots) (d : decode cc pc = .ok (.newarray at_, 2)) (kk : ∀ q : Nat, WQ E (cs + 1) (sl + n) (ws ++ [(q, .inl (ekk E kd, a0))]) (pc + 2) lv (.ref q :: st)) : WQ E cs sl ws pc lv (.int x :: st) := by
  obtain ⟨p, l, e, R, s, m, args, below, meth, c, cells, slots, Q, D, ck, A, nL⟩ := E
  obtain ⟨rfl, rfl, rfl, hx, hb, hml, hown, hts, hK, hA, hlk, hc1, hc2⟩ := C
  intro H locs ls hP hD hS hl
  have hkc := (hK.2 kd _ hkd).2
  refine va_newa hx hb (hts _ hw) rfl hK hP hD hS hA ha (by rw [z_lt, z_0, hx0]; omega) (by unfold Int32.toNatClampNeg; rw [hx0]; simp) hby hcl hsl d (fun q cA H1 k1 p1 d1 s1 => ?_)
  have h2 := (k1.2 (tyk ck).length (cA, Op.newarray.typeOf at_) (by simp)).2
  have e : cA = ck kd := by
    cases at_ <;> exact Option.some.inj (h2.symm.trans hkc)
  subst e
  exact kk q H1 locs ls p1 d1 s1 hl
theorem q_new (C : Cx E l0 R0 n0 cc own) {idx ci N : Nat} {Cn : String} {T : u_T} {fs : List Value} (hc : vwCl[ci]? = some (Cn, T, N)) (hin : ∀ w ∈ u_ws Cn T N, w ∈ tb) (ty : Nat → FieldType) (hty : ∀ k, k < N → parseFieldDescriptor (T k).2.2.1 = some (ty k)) (w1 : Cond.classLink own idx Cn ∈ tb) (w2 : Cond.instantiable Cn N ∈ tb) (w3 : Cond.initialized Cn ∈ tb) (hfs : ∀ j, j < N → defaultValue (ty j) = vp_V fs j) (hcl : cs + 1 ≤ R0.cells) (hsl : sl + N ≤ R0.slots) (d : decode cc pc = .ok (.new idx, 3)) (kk : ∀ q : Nat, WQ E (cs + 1) (sl + N) (ws ++ [(q, .inr (ci, fs))]) (pc + 3) lv (.ref q :: st)) : WQ E cs sl ws pc lv st := by
  obtain ⟨p, l, e, R, s, m, args, below, meth, c, cells, slots, Q, D, ck, A, nL⟩ := E
  obtain ⟨rfl, rfl, rfl, hx, hb, hml, hown, hts, hK, hA, hlk, hc1, hc2⟩ := C
  intro H locs ls hP hD hS hl
  exact va_new hx hb hts hin ty hty hown (hts _ w1) (hts _ w2) (hts _ w3) hK hP hD hS hA hc hfs hcl hsl d (fun q H1 p1 d1 s1 => kk q H1 locs ls p1 d1 s1 hl)
end QROWS
