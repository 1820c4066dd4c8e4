/-! rows of references, and what the class's own constructor asks of the tables -/
def aR (ck : Nat → ClassId) (kd n : Nat) (g : Nat → Option Nat) : va_E := .inl (ck kd, n, .inr (.inr (.inr (.inr g))))
def xp9 (U : State) : Prop := (va_Nw (.methodLinkNest RX9 11 yX5_init "RunCuts") U ∧ va_Nw (.methodLinkNest RX9 44 yX8_init "RunCuts") U ∧ va_Nw (.methodLinkNest RX9 78 yX0_init "RunCuts") U ∧ va_Nw (.methodLinkNest RX9 82 yX3_init "RunCuts") U) ∧ va_AO "RunCuts$Condition" U ∧ va_AO "RunCuts$Survey" U ∧ va_AO "RunCuts$LongRow" U
theorem xp9_ok : XPok xp9 := by
  refine ⟨fun U g mk a h => ?_, fun s U hW h => ?_⟩
  · obtain ⟨⟨h1, h2, h3, h4⟩, h5, h6, h7⟩ := h
    exact ⟨⟨va_Nw.same (U := U.calling g mk a) rfl rfl h1, va_Nw.same (U := U.calling g mk a) rfl rfl h2, va_Nw.same (U := U.calling g mk a) rfl rfl h3, va_Nw.same (U := U.calling g mk a) rfl rfl h4⟩, va_AO.moved (u := U) (U := U.calling g mk a) (Vm.Alike.refl U.vm) h5, va_AO.moved (u := U) (U := U.calling g mk a) (Vm.Alike.refl U.vm) h6, va_AO.moved (u := U) (U := U.calling g mk a) (Vm.Alike.refl U.vm) h7⟩
  · obtain ⟨⟨h1, h2, h3, h4⟩, h5, h6, h7⟩ := h
    exact ⟨⟨va_Nw.warmM hW h1, va_Nw.warmM hW h2, va_Nw.warmM hW h3, va_Nw.warmM hW h4⟩, va_AO.moved hW.alike h5, va_AO.moved hW.alike h6, va_AO.moved hW.alike h7⟩
theorem xp9_N {E : Ev} (h : Ek E xp9) : (Nx E (.methodLinkNest RX9 11 yX5_init "RunCuts") ∧ Nx E (.methodLinkNest RX9 44 yX8_init "RunCuts") ∧ Nx E (.methodLinkNest RX9 78 yX0_init "RunCuts") ∧ Nx E (.methodLinkNest RX9 82 yX3_init "RunCuts")) ∧ Ek E (va_AO "RunCuts$Condition") ∧ Ek E (va_AO "RunCuts$Survey") ∧ Ek E (va_AO "RunCuts$LongRow") := by
  obtain ⟨p, l, e, R, s, m, args, below, meth, c, cells, slots, Q, D, ck, A, nL⟩ := E
  exact h
section QREFS
variable {E : Ev} {l0 : Launch} {R0 : Room} {n0 : Nat} {cc : ByteArray} {own : String} {pc cs sl : Nat} {lv : List (Option Value)} {st : List Value} {ws : va_W}
theorem q_newq (C : Cx E l0 R0 n0 cc own) {ck : Nat → ClassId} (hck : ekk E = ck) {kd n idx : Nat} {Cn : String} {x : Int32} (hkd : (tyk ck)[kd]? = some (ck kd, .object Cn)) (hw : Cond.classLink own idx Cn ∈ tb) (hAO : Ek E (va_AO Cn)) (hx0 : x.toInt = n) (hby : n * 4 ≤ 536870912) (hcl : cs + 1 ≤ R0.cells) (hsl : sl + n ≤ R0.slots) (d : decode cc pc = .ok (.anewarray idx, 3)) (kk : ∀ q : Nat, WQ E (cs + 1) (sl + n) (ws ++ [(q, aR ck kd n (fun _ => none))]) (pc + 3) lv (.ref q :: st)) : WQ E cs sl ws pc lv (.int x :: st) := by
  subst hck
  obtain ⟨p, l, e, R, s, m, args, below, meth, c, cells, slots, Q, D, ck, A, nL⟩ := E
  obtain ⟨rfl, rfl, rfl, hx, hb, hml, hown, hts, hK, hA, hlk, hc1, hc2⟩ := C
  intro H locs ls hP hD hS hl
  obtain ⟨kA, comp, r1, r2, r3, r4⟩ := (hK.2 kd _ hkd).2
  refine va_newq hx hb hown (hts _ hw) hAO hK hP hD hS hA (by rw [z_lt, z_0, hx0]; omega) (by unfold Int32.toNatClampNeg; rw [hx0]; simp) hby hcl hsl d (fun q cA H1 k1 p1 d1 s1 => ?_)
  obtain ⟨kA2, comp2, s1', s2', s3', s4'⟩ := (k1.2 (tyk ck).length (cA, .object Cn) (by simp)).2
  have e : cA = ck kd := Option.some.inj (s4'.symm.trans r4)
  subst e
  exact kk q H1 locs ls p1 d1 s1 hl
theorem q_astq (C : Cx E l0 R0 n0 cc own) {ck : Nat → ClassId} (hck : ekk E = ck) {q0 qk kd ci n a v : Nat} {vs : List Value} {g : Nat → Option Nat} {r : vw_C} {i : Int32} (ha : ws[q0]? = some (a, aR ck kd n g)) (ht : (tyk ck)[kd]? = some (ck kd, .object r.1)) (hv : ws[qk]? = some (v, .inr (ci, vs))) (hc : vwCl[ci]? = some r) (h : 0 ≤ i.toInt ∧ i.toInt < n) (d : decode cc pc = .ok (.aastore, 1)) (kk : WQ E cs sl (ws.set q0 (a, aR ck kd n (va_up g i.toNatClampNeg (some v)))) (pc + 1) lv st) : WQ E cs sl ws pc lv (.ref v :: .int i :: .ref a :: st) := by
  subst hck
  obtain ⟨p, l, e, R, s, m, args, below, meth, c, cells, slots, Q, D, ck, A, nL⟩ := E
  obtain ⟨rfl, rfl, rfl, hx, hb, hml, hown, hts, hK, hA, hlk, hc1, hc2⟩ := C
  intro H locs ls hP hD hS hl
  exact va_astq hx hb hK hP hD hS q0 kd qk ci ha ht hv hc (vin h) d (fun H1 locs1 a1 a2 a3 => kk H1 locs1 ls a1 a2 a3 hl)
theorem q_aald (C : Cx E l0 R0 n0 cc own) {ck : Nat → ClassId} (hck : ekk E = ck) {q0 kd n a v : Nat} {Cn : String} {g : Nat → Option Nat} {i : Int32} (ha : ws[q0]? = some (a, aR ck kd n g)) (ht : (tyk ck)[kd]? = some (ck kd, .object Cn)) (h : 0 ≤ i.toInt ∧ i.toInt < n) (hg : g i.toNatClampNeg = some v) (d : decode cc pc = .ok (.aaload, 1)) (kk : WQ E cs sl ws (pc + 1) lv (.ref v :: st)) : WQ E cs sl ws pc lv (.int i :: .ref a :: st) := by
  subst hck
  obtain ⟨p, l, e, R, s, m, args, below, meth, c, cells, slots, Q, D, ck, A, nL⟩ := E
  obtain ⟨rfl, rfl, rfl, hx, hb, hml, hown, hts, hK, hA, hlk, hc1, hc2⟩ := C
  intro H locs ls hP hD hS hl
  refine va_aldq hx hb hK hP q0 kd ha ht (vin h) d ?_
  rw [hg]
  exact kk H locs ls hP hD hS hl
end QREFS
