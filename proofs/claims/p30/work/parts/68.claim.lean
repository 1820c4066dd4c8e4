/-! THE CLAIM OUT OF ONE WALK OF THE LAW'S BODY. Your part is whole_start (and what it stands on); all else here is the same for every law, but numbers. -/
def R_law : String := "RunCutsLaw"
def lw_P (b : Addr) (xs : List Int32) (args : Array Value) (s : State) : Prop := args = #[.ref b] ∧ s.IntsAt b xs ∧ xs.length ≤ 2560 ∧ (Jvm.Cond.and given_1 narrow_1).before args s = true
def lw_Q (_ : Array Value) (s : State) (o : Outcome) (t : State) : Prop := o = .returned (some (.int 1)) ∧ Framed s o t [] 600000 7302250
def lw_Z (below : List Frame) (a : Array Value) (s : State) : State → Prop := fun t => ∃ o, t.status = .running ∧ Ended t below o ∧ lw_Q a s o t
/-- the law's own end, with 1 on the stack, nothing written that was there before, its room as the claim has it -/
theorem lw_ret {p : Program} {l : Launch} {e : Env} {s : State} {m : MethodId} {below : List Frame} {meth : Method} {c : Code} {b : Nat} (hx : p.tables.exec = Jvm.exec) (hb : c.code = code) (hr : meth.sig.returnType = ret) (hlocks : meth.locks = false) {pc : Nat} {H : Heap} {ls : Array Slot} (hdg : decode code pc = .ok (.ireturn, 1)) : W p l e room_1 s m #[Value.ref b] below meth c H [] 600000 7302250 (lw_Z below #[Value.ref b] s) (F0 m pc ls [.int 1]) := by
  intro T hT X
  obtain ⟨fs, hret, hrun, hended, hW, hframe⟩ := X.leave (v := some (.int 1)) (hlocks := hlocks) (fun h => by rw [hr] at h; cases h)
  have hmeth' : T.vm.method? m = some meth := X.method'
  refine ⟨T.setFrames fs, ?_, .returned (some (.int 1)), hrun, hended, rfl, ⟨_, rfl⟩, hW, hframe⟩
  jvm_step X.here [X.here.top, hx, hb, hdg, hmeth', hr, ret, narrow_b1]
  (try refine ⟨rfl, ?_⟩); (try refine ⟨rfl, ?_⟩)
  first | (intro acts; rw [hret _ acts rfl rfl rfl]) | rw [hret _ _ rfl rfl rfl]
  exact Steps.refl _
/-- what holds at the law's entry: the machine, the code, the tables' words (any of lw_tbl by 'hts w (by decide +kernel)'), the script of L ints xs at the cell b, what the Statement gives of the start (any of its parts by flat_of_before) -/
def lw_At (p : Program) (s : State) (m : MethodId) (meth : Method) (c : Code) (b L : Nat) (xs : Nat → Int32) : Prop :=
  p.tables.exec = Jvm.exec ∧ c.code = code ∧ meth.sig.returnType = ret ∧ c.maxLocals = 4 ∧ s.vm.findClass R_law = some m.cls ∧ (∀ w ∈ lw_tbl, w.before #[Value.ref b] s = true) ∧ va_X b L xs s s.heap ∧ b < s.heap.size ∧ meth.locks = false ∧ (Jvm.Cond.and given_1 narrow_1).before #[Value.ref b] s = true
theorem iw_law9 : Iw RL 9 yX9_init cX9_init 2 0 := ⟨(mw 78 (by decide +kernel) rfl), (mw 79 (by decide +kernel) rfl), (mw 61 (by decide +kernel) rfl), cd_X9_init, rfl, by decide +kernel, by decide +kernel, by decide +kernel⟩
theorem iw_law10 : Iw RL 12 yX10_init cX10_init 1 0 := ⟨(mw 974 (by decide +kernel) rfl), (mw 975 (by decide +kernel) rfl), (mw 70 (by decide +kernel) rfl), cd_X10_init, rfl, by decide +kernel, by decide +kernel, by decide +kernel⟩
set_option maxRecDepth 1000000 in
set_option maxHeartbeats 40000000 in
/-- class and reference are made -/
theorem law_made (l : Launch) (E : Ev) (ck : Nat → ClassId) (hck : ekk E = ck) (C : Cx E l room_1 4 cL_law RL) (hE : Ek E xp9) (b : Nat) (K : ∀ (f g : Nat → Nat) (a : Nat), WQ E 121 29139 (wF ck f g a) 18 [some (.ref b), some (.ref (f 0)), some (.ref a), some (.int 0)] []) : WQ E 0 0 [] 0 [some (.ref b), none, none, none] [] := by
  refine q_new (ci := 8) (fs := [.null, .null, .null, .null, .null, .null, .null, .null, .null, .null, .int 0]) C rfl inX9 tyX9 tyX9_ok (mw 76 (by decide +kernel) rfl) (mw 77 (by decide +kernel) rfl) (mw 61 (by decide +kernel) rfl) (by decide +kernel) (Nat.le_of_ble_eq_true rfl) (Nat.le_of_ble_eq_true rfl) dL_law_0 (fun a1 => ?_)
  show WQ E 1 11 [(a1, .inr (8, [.null, .null, .null, .null, .null, .null, .null, .null, .null, .null, .int 0]))] 3 [some (.ref b), none, none, none] [.ref a1]
  refine q_dup C dL_law_3 rfl ?_
  refine q_call (st := [.ref a1]) C xp9_ok hE hck (i_X9_init l ck a1) iw_law9 rfl rfl ⟨by decide, by decide⟩ ⟨Nat.le_of_ble_eq_true rfl, Nat.le_of_ble_eq_true rfl⟩ (Nat.le_of_ble_eq_true rfl) dL_law_4 ?_
  intro ws9 h9
  obtain ⟨f, rfl, rfl⟩ := h9
  show WQ E 71 10315 (wX ck f) 7 [some (.ref b), none, none, none] [.ref (f 0)]
  refine q_astore_n C dL_law_7 (by decide) (Nat.le_of_ble_eq_true rfl) rfl ?_
  show WQ E 71 10315 (wX ck f) 8 [some (.ref b), some (.ref (f 0)), none, none] []
  refine q_new (ci := 9) (fs := [.int 0, .null, .null, .null, .null, .null, .null, .null, .int 0, .null, .int 0, .null, .null, .null, .null, .null, .null, .int 0, .null, .null, .null, .int 0, .int 0, .null, .null, .null, .null, .null, .null, .null, .int 0, .null, .int 0, .null, .null, .null, .null, .null, .null, .int 0, .int 0, .null, .null, .null, .null, .null, .null, .int 0, .null, .int 0, .null, .null, .null, .int 0, .null, .int 0, .null, .null, .null, .int 0, .null, .null, .null, .null, .int 0, .int 0]) C rfl inX10 tyX10 tyX10_ok (mw 972 (by decide +kernel) rfl) (mw 973 (by decide +kernel) rfl) (mw 70 (by decide +kernel) rfl) (by decide +kernel) (Nat.le_of_ble_eq_true rfl) (Nat.le_of_ble_eq_true rfl) dL_law_8 (fun a => ?_)
  show WQ E 72 10381 (wX ck f ++ [(a, .inr (9, [.int 0, .null, .null, .null, .null, .null, .null, .null, .int 0, .null, .int 0, .null, .null, .null, .null, .null, .null, .int 0, .null, .null, .null, .int 0, .int 0, .null, .null, .null, .null, .null, .null, .null, .int 0, .null, .int 0, .null, .null, .null, .null, .null, .null, .int 0, .int 0, .null, .null, .null, .null, .null, .null, .int 0, .null, .int 0, .null, .null, .null, .int 0, .null, .int 0, .null, .null, .null, .int 0, .null, .null, .null, .null, .int 0, .int 0]))]) 11 [some (.ref b), some (.ref (f 0)), none, none] [.ref a]
  refine q_dup C dL_law_11 rfl ?_
  refine q_call (st := [.ref a]) C XPok_T (Ek_T E) hck (i_X10_init l ck (wX ck f ++ [(a, .inr (9, [.int 0, .null, .null, .null, .null, .null, .null, .null, .int 0, .null, .int 0, .null, .null, .null, .null, .null, .null, .int 0, .null, .null, .null, .int 0, .int 0, .null, .null, .null, .null, .null, .null, .null, .int 0, .null, .int 0, .null, .null, .null, .null, .null, .null, .int 0, .int 0, .null, .null, .null, .null, .null, .null, .int 0, .null, .int 0, .null, .null, .null, .int 0, .null, .int 0, .null, .null, .null, .int 0, .null, .null, .null, .null, .int 0, .int 0]))]) 71 a rfl) iw_law10 rfl rfl ⟨by decide, by decide⟩ ⟨Nat.le_of_ble_eq_true rfl, Nat.le_of_ble_eq_true rfl⟩ (Nat.le_of_ble_eq_true rfl) dL_law_12 ?_
  intro ws9 h9
  obtain ⟨g, rfl⟩ := h9
  show WQ E 121 29139 (wF ck f g a) 15 [some (.ref b), some (.ref (f 0)), none, none] [.ref a]
  refine q_astore_n C dL_law_15 (by decide) (Nat.le_of_ble_eq_true rfl) rfl ?_
  show WQ E 121 29139 (wF ck f g a) 16 [some (.ref b), some (.ref (f 0)), some (.ref a), none] []
  refine q_iconst C dL_law_16 (by decide) (fun z tz => ?_)
  obtain rfl : z = 0 := ceq tz
  refine q_istore_n C dL_law_17 (by decide) (Nat.le_of_ble_eq_true rfl) rfl ?_
  exact K f g a
set_option maxRecDepth 1000000 in
set_option maxHeartbeats 40000000 in
theorem whole_start {p : Program} {e : Env} {s : State} {m : MethodId} {below : List Frame} {meth : Method} {c : Code} (l : Launch) (hflags : l.flags = flags0) {b L : Nat} {xs : Nat → Int32} (hL : L ≤ 2560) (C0 : lw_At p s m meth c b L xs) : W p l e room_1 s m #[Value.ref b] below meth c s.heap [] 0 0 (lw_Z below #[Value.ref b] s) (entryFrame m ([Value.ref b] : List Value).toArray 4) := by
  obtain ⟨hx, hb, hr, hml, hown, hts, hX, hbl, hlocks, hgv⟩ := C0
  have htb : ∀ w ∈ tb, w.before #[Value.ref b] s = true := fun w h => hts w (List.mem_filter.mp h).1
  obtain ⟨c0, j0, k0⟩ := u_known (C := RX0) (T := TX0) (N := 3) (n := 3) htb inX0 (htb (.instantiable RX0 3) (mw 267 (by decide +kernel) rfl))
  obtain ⟨c1, j1, k1⟩ := u_known (C := RX1) (T := TX1) (N := 4) (n := 4) htb inX1 (htb (.instantiable RX1 4) (mw 220 (by decide +kernel) rfl))
  obtain ⟨c2, j2, k2⟩ := u_known (C := RX2) (T := TX2) (N := 8) (n := 8) htb inX2 (htb (.instantiable RX2 8) (mw 183 (by decide +kernel) rfl))
  obtain ⟨c3, j3, k3⟩ := u_known (C := RX3) (T := TX3) (N := 2) (n := 2) htb inX3 (htb (.instantiable RX3 2) (mw 326 (by decide +kernel) rfl))
  obtain ⟨c4, j4, k4⟩ := u_known (C := RX5) (T := TX5) (N := 15) (n := 15) htb inX5 (htb (.instantiable RX5 15) (mw 85 (by decide +kernel) rfl))
  obtain ⟨c5, j5, k5⟩ := u_known (C := RX6) (T := TX6) (N := 6) (n := 6) htb inX6 (htb (.instantiable RX6 6) (mw 239 (by decide +kernel) rfl))
  obtain ⟨c6, j6, k6⟩ := u_known (C := RX7) (T := TX7) (N := 11) (n := 11) htb inX7 (htb (.instantiable RX7 11) (mw 286 (by decide +kernel) rfl))
  obtain ⟨c7, j7, k7⟩ := u_known (C := RX8) (T := TX8) (N := 3) (n := 3) htb inX8 (htb (.instantiable RX8 3) (mw 163 (by decide +kernel) rfl))
  obtain ⟨c8, j8, k8⟩ := u_known (C := RX9) (T := TX9) (N := 11) (n := 11) htb inX9 (htb (.instantiable RX9 11) (mw 77 (by decide +kernel) rfl))
  obtain ⟨c9, j9, k9⟩ := u_known (C := RX10) (T := TX10) (N := 66) (n := 66) htb inX10 (htb (.instantiable RX10 66) (mw 973 (by decide +kernel) rfl))
  obtain ⟨a0, ka0, p0, f01, f02, f03⟩ := Cond.arrayClass_spec (htb (.arrayClass .int) (mw 155 (by decide +kernel) rfl))
  obtain ⟨a1, ka1, p1, f11, f12, f13⟩ := Cond.arrayClass_spec (htb (.arrayClass .long) (mw 218 (by decide +kernel) rfl))
  obtain ⟨a2, ka2, p2, f21, f22, f23⟩ := Cond.arrayClass_spec (htb (.arrayClass .boolean) (mw 1177 (by decide +kernel) rfl))
  obtain ⟨p3, a3, ka3, f31, -, f32, f33, f34⟩ := Cond.arrayOver_spec (hts (.arrayOver (.object "RunCuts$Condition")) (List.mem_of_getElem? (i := 157) (by decide +kernel)))
  obtain ⟨p4, a4, ka4, f41, -, f42, f43, f44⟩ := Cond.arrayOver_spec (hts (.arrayOver (.object "RunCuts$Survey")) (List.mem_of_getElem? (i := 159) (by decide +kernel)))
  obtain ⟨p5, a5, ka5, f51, -, f52, f53, f54⟩ := Cond.arrayOver_spec (hts (.arrayOver (.object "RunCuts$LongRow")) (List.mem_of_getElem? (i := 161) (by decide +kernel)))
  have hK : va_K ((fun c => [c0, c1, c2, c3, c4, c5, c6, c7, c8, c9].getD c c0, fun c => [j0, j1, j2, j3, j4, j5, j6, j7, j8, j9].getD c j0) : va_G) vwCl (tyk (fun k => [a0, a1, a2, a3, a4, a5].getD k a0)) s := by
    refine ⟨fun c q hq => ?_, fun k q hq => ?_⟩
    · match c, hq with
      | 0, hq => cases hq; exact k0
      | 1, hq => cases hq; exact k1
      | 2, hq => cases hq; exact k2
      | 3, hq => cases hq; exact k3
      | 4, hq => cases hq; exact k4
      | 5, hq => cases hq; exact k5
      | 6, hq => cases hq; exact k6
      | 7, hq => cases hq; exact k7
      | 8, hq => cases hq; exact k8
      | 9, hq => cases hq; exact k9
      | n + 10, hq => exact absurd (List.getElem?_eq_some_iff.mp hq).1 (by show ¬ n + 10 < 10; omega)
    · match k, hq with
      | 0, hq => cases hq; exact ⟨fun N z => ⟨fun k h => (by cases h), ka0, f02, p0, f03⟩, f01⟩
      | 1, hq => cases hq; exact ⟨fun N z => ⟨fun k h => (by cases h), ka1, f12, p1, f13⟩, f11⟩
      | 2, hq => cases hq; exact ⟨fun N z => ⟨fun k h => (by cases h), ka2, f22, p2, f23⟩, f21⟩
      | 3, hq => cases hq; exact ⟨fun N z => ⟨fun k h => (by cases h), ka3, f32, p3, f33⟩, ka3, p3, f32, f33, f31, f34⟩
      | 4, hq => cases hq; exact ⟨fun N z => ⟨fun k h => (by cases h), ka4, f42, p4, f43⟩, ka4, p4, f42, f43, f41, f44⟩
      | 5, hq => cases hq; exact ⟨fun N z => ⟨fun k h => (by cases h), ka5, f52, p5, f53⟩, ka5, p5, f52, f53, f51, f54⟩
      | n + 6, hq => exact absurd (List.getElem?_eq_some_iff.mp hq).1 (by show ¬ n + 6 < 6; omega)
  have C : Cx ((p, l, e, room_1, s, m, #[Value.ref b], below, meth, c, 0, 0, lw_Z below #[Value.ref b] s, ((fun c => [c0, c1, c2, c3, c4, c5, c6, c7, c8, c9].getD c c0, fun c => [j0, j1, j2, j3, j4, j5, j6, j7, j8, j9].getD c j0) : va_G), (fun k => [a0, a1, a2, a3, a4, a5].getD k a0), (fun q : Nat => s.heap.size ≤ q), 4) : Ev) l room_1 4 cL_law RL := ⟨rfl, rfl, rfl, hx, hb, hml, hown, htb, hK, fun q h => h, hlocks, Nat.zero_le _, Nat.zero_le _⟩
  have C1 : Cx ((p, l, e, room_1, s, m, #[Value.ref b], below, meth, c, 121, 29139, lw_Z below #[Value.ref b] s, ((fun c => [c0, c1, c2, c3, c4, c5, c6, c7, c8, c9].getD c c0, fun c => [j0, j1, j2, j3, j4, j5, j6, j7, j8, j9].getD c j0) : va_G), (fun k => [a0, a1, a2, a3, a4, a5].getD k a0), (fun q : Nat => s.heap.size ≤ q), 4) : Ev) l room_1 4 cL_law RL := ⟨rfl, rfl, rfl, hx, hb, hml, hown, htb, hK, fun q h => h, hlocks, Nat.le_of_ble_eq_true rfl, Nat.le_of_ble_eq_true rfl⟩
  have hE : Ek ((p, l, e, room_1, s, m, #[Value.ref b], below, meth, c, 0, 0, lw_Z below #[Value.ref b] s, ((fun c => [c0, c1, c2, c3, c4, c5, c6, c7, c8, c9].getD c c0, fun c => [j0, j1, j2, j3, j4, j5, j6, j7, j8, j9].getD c j0) : va_G), (fun k => [a0, a1, a2, a3, a4, a5].getD k a0), (fun q : Nat => s.heap.size ≤ q), 4) : Ev) xp9 := ⟨⟨va_Nw.of rfl (hts _ (List.mem_of_getElem? (i := 86) (by decide +kernel))), va_Nw.of rfl (hts _ (List.mem_of_getElem? (i := 164) (by decide +kernel))), va_Nw.of rfl (hts _ (List.mem_of_getElem? (i := 268) (by decide +kernel))), va_Nw.of rfl (hts _ (List.mem_of_getElem? (i := 327) (by decide +kernel)))⟩, va_AO.of (hts (.arrayOver (.object "RunCuts$Condition")) (List.mem_of_getElem? (i := 157) (by decide +kernel))), va_AO.of (hts (.arrayOver (.object "RunCuts$Survey")) (List.mem_of_getElem? (i := 159) (by decide +kernel))), va_AO.of (hts (.arrayOver (.object "RunCuts$LongRow")) (List.mem_of_getElem? (i := 161) (by decide +kernel)))⟩
  have hN : Nx ((p, l, e, room_1, s, m, #[Value.ref b], below, meth, c, 121, 29139, lw_Z below #[Value.ref b] s, ((fun c => [c0, c1, c2, c3, c4, c5, c6, c7, c8, c9].getD c c0, fun c => [j0, j1, j2, j3, j4, j5, j6, j7, j8, j9].getD c j0) : va_G), (fun k => [a0, a1, a2, a3, a4, a5].getD k a0), (fun q : Nat => s.heap.size ≤ q), 4) : Ev) (.methodLinkNest RX9 239 yX1_readCondition "RunCuts") := va_Nw.of rfl (hts _ (List.mem_of_getElem? (i := 626) (by decide +kernel)))
  have SX : Sx ((p, l, e, room_1, s, m, #[Value.ref b], below, meth, c, 121, 29139, lw_Z below #[Value.ref b] s, ((fun c => [c0, c1, c2, c3, c4, c5, c6, c7, c8, c9].getD c c0, fun c => [j0, j1, j2, j3, j4, j5, j6, j7, j8, j9].getD c j0) : va_G), (fun k => [a0, a1, a2, a3, a4, a5].getD k a0), (fun q : Nat => s.heap.size ≤ q), 4) : Ev) b L xs := ⟨hX, hbl, Nat.not_le.mpr hbl⟩
  have XE : ∀ (ad : Nat → Nat) (lv : List (Option Value)) (σ : Sg), WP ((p, l, e, room_1, s, m, #[Value.ref b], below, meth, c, 121, 29139, lw_Z below #[Value.ref b] s, ((fun c => [c0, c1, c2, c3, c4, c5, c6, c7, c8, c9].getD c c0, fun c => [j0, j1, j2, j3, j4, j5, j6, j7, j8, j9].getD c j0) : va_G), (fun k => [a0, a1, a2, a3, a4, a5].getD k a0), (fun q : Nat => s.heap.size ≤ q), 4) : Ev) ad 1458 lv [] σ := by
    intro ad lv σ H locs ls hP hD hS hl
    refine lv_iconst (v := 1) hx hb dL_law_1458 (by decide) ?_
    refine va_forget (fun q hq => hS.2.2 q hq) ?_
    refine W.widen (k := 600000) (n := 7302250) (Nat.le_of_ble_eq_true rfl) (Nat.le_of_ble_eq_true rfl) ?_
    exact lw_ret hx hb hr hlocks dL_law_1459
  have main := law_made l ((p, l, e, room_1, s, m, #[Value.ref b], below, meth, c, 0, 0, lw_Z below #[Value.ref b] s, ((fun c => [c0, c1, c2, c3, c4, c5, c6, c7, c8, c9].getD c c0, fun c => [j0, j1, j2, j3, j4, j5, j6, j7, j8, j9].getD c j0) : va_G), (fun k => [a0, a1, a2, a3, a4, a5].getD k a0), (fun q : Nat => s.heap.size ≤ q), 4) : Ev) (fun k => [a0, a1, a2, a3, a4, a5].getD k a0) rfl C hE b (fun f g a => by
    intro H locs ls hP hD hS hl
    exact lw_loop l (adF f g a) ((p, l, e, room_1, s, m, #[Value.ref b], below, meth, c, 121, 29139, lw_Z below #[Value.ref b] s, ((fun c => [c0, c1, c2, c3, c4, c5, c6, c7, c8, c9].getD c c0, fun c => [j0, j1, j2, j3, j4, j5, j6, j7, j8, j9].getD c j0) : va_G), (fun k => [a0, a1, a2, a3, a4, a5].getD k a0), (fun q : Nat => s.heap.size ≤ q), 4) : Ev) C1 hN b L xs SX hL (XE _) 3000 σ0 0 IX_0 IM_0 RlA_0 RlC_0 (by decide) (by decide) H locs ls (conv_P pmF (wF_conv _ f g a) hP) (conv_D pmF (wF_conv _ f g a) pmF_inj hD) hS hl)
  have hl := lv_entry [Value.ref b] (n := 4) (Nat.le_of_ble_eq_true rfl)
  rw [lg_entry_eq]
  exact main s.heap [] _ (fun k q h => absurd h (by simp)) ⟨fun i j p q h => absurd h (by simp), fun k q h => absurd h (by simp)⟩ va_S.rf ⟨hl.1, hl.2.1, fun i v h => hl.2.2 (i, v) (by have := lvA_args 3 v [Value.ref b] i 0 h; rwa [Nat.zero_add] at this)⟩
set_option maxHeartbeats 4000000 in
theorem lw_walk (l : Launch) (hflags : l.flags = flags0) (b : Addr) (xs : List Int32) : MetFree l x (headSpec (Jvm.Cond.code x code maxLocals ret :: tables_1) room_1) (lw_P b xs) (fun _ _ _ _ _ => True) lw_Q := by
  refine MetFree.of_bodyS (code := code) (maxLocals := maxLocals) (ret := ret) (by decide) ?_ ?_
  · intro args s m h hn
    obtain ⟨meth, c, h1, h2, h3, h4, h5, h6, -, -⟩ := Cond.code_spec hn (atoms_spec (ws := Jvm.Cond.code x code maxLocals ret :: tables_1) h _ List.mem_cons_self)
    exact ⟨meth, c, h1, h2, h3, h4, h5, h6⟩
  · intro p e s m args below meth c s₁ B hml0 hP _
    obtain ⟨rfl, hx, hbd, hgv⟩ := hP
    obtain ⟨scr, harrAt, hlist, hof, hsmall⟩ := hx
    obtain ⟨hcb, hkn, -, -⟩ := State.arrayAt?_spec harrAt
    have hown : s.vm.findClass R_law = some m.cls := findClass_of_methodNamed B.named
    have hts0 : ∀ c ∈ (Jvm.Cond.code x code maxLocals ret :: tables_1), c.before #[Value.ref b] s = true := atoms_spec (ws := Jvm.Cond.code x code maxLocals ret :: tables_1) B.pre
    have hts : ∀ w ∈ lw_tbl, w.before #[Value.ref b] s = true := k2_hts_sels lw_privs (fun w hw => hts0 w (List.mem_cons_of_mem _ hw)) lw_privs_ok
    have hml : c.maxLocals = 4 := B.maxLocals_eq (hts0 _ List.mem_cons_self)
    have X₀ : Stand p l e room_1 s m #[Value.ref b] below meth c s₁ [] 0 0 := Stand.of_body B
    have hh0 : s₁.heap = s.heap := by rw [B.state]; rfl
    have hsz : scr.slots.size = xs.length := by rw [← Array.length_toList, hlist, List.length_map]
    have hval : ∀ j : Nat, j < xs.length → scr.slots[j]? = some (.int (xs.getD j 0)) := fun j hj => by
      rw [← Array.getElem?_toList, hlist]
      simp [hj]
    have hbl : b < s.heap.size := (Array.getElem?_eq_some_iff.mp hcb).1
    have hX : va_X b xs.length (fun j => xs.getD j 0) s s.heap := ⟨scr, hcb, hof, hkn, hsz, hval⟩
    have K : W p l e room_1 s m #[Value.ref b] below meth c s₁.heap [] 0 0 (lw_Z below #[Value.ref b] s) (entryFrame m ([Value.ref b] : List Value).toArray 4) := by
      rw [hh0]
      exact whole_start l hflags hbd ⟨B.exec, B.bytes, B.returns, hml, hown, hts, hX, hbl, B.notSynchronized, hgv⟩
    obtain ⟨t, a1, o, b1, b2, b3⟩ := K s₁ rfl X₀
    exact ⟨t, o, a1, b1, b2, b3⟩
theorem lw_pre_spec {args : Array Value} {s : State} (h : (Jvm.Cond.and given_1 narrow_1).before args s = true) (hr : rest_1_c.before args s = true) : ∃ (b : Addr) (xs : List Int32), lw_P b xs args s := by
  have hs := flat_of_before _ h
  have hq := flat_of_before _ hr
  have hc : (Cond.count 1).before args s = true := hs _ (by decide +kernel)
  have harr : (Cond.arrayOf (.arg 0) .int).before args s = true := hs _ (by decide +kernel)
  have hle : (Cond.le (.length (.arg 0)) (.int 2560)).before args s = true := hs _ (by decide +kernel)
  have hlen : (Cond.isInt (.length (.arg 0))).before args s = true := hq _ (by decide +kernel)
  have hall : (Cond.all (.arg 0) (.isInt (.elem (.arg 0) (.index 0)))).before args s = true := hq _ (by decide +kernel)
  obtain ⟨b, xs, hb, hx⟩ := State.ints_of_pre rfl harr hlen hall
  have hsm : xs.length < 2 ^ 31 := hx.choose_spec.2.2.2
  have hev : (Term.length (.arg 0)).eval args s none [] s = some (.int xs.length.toInt32) := hx.length_eval hb
  have hv := Cond.le_ints hev (show (Term.int 2560).eval args s none [] s = some (.int 2560) from rfl)
  have hd : xs.length.toInt32 ≤ 2560 := by
    simpa [Cond.before, Cond.holds, hv] using hle
  have hN : xs.length ≤ 2560 := (Int32.ofNat_le_ofNat hsm (by decide)).mp (show Int32.ofNat xs.length ≤ Int32.ofNat 2560 from hd)
  exact ⟨b, xs, Cond.one_arg hc (show args[0]? = some (.ref b) from hb), hx, hN, h⟩
theorem lw_comes (l : Launch) (hflags : l.flags = flags0) : Comes l x (Jvm.Cond.code x code maxLocals ret :: tables_1) room_1 (fun tb e args s => Calls_1 tb e args s ∧ rest_1 tb e args s ∧ Pre_1 tb e args s)
    (fun _ _ args s o t => lw_Q args s o t) := by
  intro p e ha hc hk s m args below hf hfit hheap happ hpre
  obtain ⟨b, xs, hP⟩ := lw_pre_spec hpre.2.2 hpre.2.1
  obtain ⟨k, o, h1, h2, h3, hQ⟩ := lw_walk l hflags b xs p e ha hc hk s m args below hf ((Spec.applies_iff_loose hf).mp happ).1 hP trivial
  exact ⟨k, o, h1, h2, h3, hQ⟩
theorem lw_frame {s t : State} {o : Outcome} {args : Array Value} (h : Framed s o t [] 600000 7302250) :
    Framed s o t (fieldLocs frame_1_writes args s ++ arrayLocs frame_1_arrays args s ++ staticLocs frame_1_statics s) 600000 7302250 := h
theorem lw_limb (L : Cond) (hL : ∀ (args : Array Value) (s t : State), L.after args s (.returned (some (.int 1))) t = true) :
    ArmFor flags0 classFile x code maxLocals ret World_1 tables_1 room_1 Calls_1 rest_1 Pre_1
      (fun tb e a s o t => postC L tb e a s o t ∧ Framed s o t (fieldLocs frame_1_writes a s ++ arrayLocs frame_1_arrays a s ++ staticLocs frame_1_statics s) 600000 7302250) := by
  intro l hflags _ _ p e ha hc hk s m args below hf hfit hheap happ hpre
  obtain ⟨k, o, h1, h2, h3, rfl, hF⟩ := lw_comes l hflags p e ha hc hk s m args below hf hfit hheap happ hpre
  exact ⟨k, _, h1, h2, h3, hL args s _, lw_frame hF⟩
theorem i_vc : Claimed_1_1 ∧ Claimed_1_2 := ⟨lw_limb limb_1_1 (fun args s t => by simp [limb_1_1, Cond.after, Cond.holds, Cond.value]), lw_limb limb_1_2 (fun args s t => Cond.after_iff.mpr (by
  first | (rw [show limb_1_2 = Cond.eq .result (.int 1) from rfl, Cond.eq_ints (x := 1) (y := 1) rfl rfl]; simp; done) | (simp [limb_1_2, Cond.value, Term.eval]; done)))⟩
