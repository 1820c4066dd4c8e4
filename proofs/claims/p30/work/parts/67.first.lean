def lm0 : Nat → Int32 := upd (upd (upd (fun _ => 0) (0 : Int32).toNatClampNeg (-1)) (1 : Int32).toNatClampNeg (-1)) (2 : Int32).toNatClampNeg (-1)
def ini : Nat → Nat → Int32 := fun i => match i with
  | 1 => (fun k => match k with
    | 0 => 2
    | _ => 0)
  | 14 => (fun k => match k with
    | 0 => 2
    | _ => 0)
  | 37 => (fun k => match k with
    | 3 => 1
    | _ => 0)
  | 38 => (fun k => match k with
    | 3 => 1
    | _ => 0)
  | 39 => (fun k => match k with
    | 3 => 1
    | _ => 0)
  | 40 => (fun k => match k with
    | 0 => -1
    | _ => 0)
  | 41 => (fun k => match k with
    | 0 => -1
    | _ => 0)
  | 42 => (fun k => match k with
    | 0 => -1
    | _ => 0)
  | 61 => (fun k => match k with
    | 1 => 1
    | _ => 0)
  | 71 => (fun k => match k with
    | 0 => 2
    | _ => 0)
  | 87 => lm0
  | _ => (fun _ => 0)
def σ0 : Sg := (ini, fun _ _ => 0)
def EqE (e e' : va_E) : Prop := e = e' ∨ ∃ (cA : ClassId) (n : Nat) (g g' : Nat → Option Nat), e = .inl (cA, n, .inr (.inr (.inr (.inr g)))) ∧ e' = .inl (cA, n, .inr (.inr (.inr (.inr g')))) ∧ ∀ j, j < n → g j = g' j
theorem arrV_eq {cA : ClassId} {n : Nat} {f g : Nat → Value} (h : ∀ j, j < n → f j = g j) : arrV cA n f = arrV cA n g := by
  unfold arrV
  congr 1
  apply Array.ext
  · simp
  · intro k h1 h2
    simp at h1
    simp [h k h1]
theorem EqE.at {D : va_G} {cl : List vw_C} {a : Nat} {e e' : va_E} {H : Heap} (h : EqE e e') (hp : va_at D cl (a, e) H) : va_at D cl (a, e') H := by
  rcases h with rfl | ⟨cA, n, g, g', rfl, rfl, hg⟩
  · exact hp
  · have hp' : H[a]? = some (vp_cell cA (n, .inr (.inr (.inr (.inr g))))) := hp
    show H[a]? = some (vp_cell cA (n, .inr (.inr (.inr (.inr g')))))
    rw [hp', vp_cell_q, vp_cell_q, arrV_eq (fun j hj => by rw [hg j hj])]
theorem conv_P {D : va_G} {ck : Nat → ClassId} {ad : Nat → Nat} {σ : Sg} {ws : va_W} {H : Heap} (pm : Nat → Nat) (h : ∀ (k : Nat) (c : Lc), lay[k]? = some c → ∃ e, ws[pm k]? = some (ad k, e) ∧ EqE e (gE ck ad σ k c)) (hP : va_P D vwCl ws H) : va_P D vwCl (gW ck ad σ) H := by
  intro k q hq
  obtain ⟨c, hc, rfl⟩ := gW_some hq
  obtain ⟨e, h1, h2⟩ := h k c hc
  exact h2.at (hP _ _ h1)
theorem conv_D {A : Nat → Prop} {ck : Nat → ClassId} {ad : Nat → Nat} {σ : Sg} {ws : va_W} (pm : Nat → Nat) (h : ∀ (k : Nat) (c : Lc), lay[k]? = some c → ∃ e, ws[pm k]? = some (ad k, e) ∧ EqE e (gE ck ad σ k c)) (hi : ∀ i, i < 121 → ∀ j, j < 121 → pm i = pm j → i = j) (hD : va_D A ws) : va_D A (gW ck ad σ) := by
  have hl : ∀ (k : Nat) (c : Lc), lay[k]? = some c → k < 121 := fun k c hc => (List.getElem?_eq_some_iff.mp hc).1
  refine ⟨fun i j p q hp hq hpq => ?_, fun k q hq => ?_⟩
  · obtain ⟨c1, hc1, rfl⟩ := gW_some hp
    obtain ⟨c2, hc2, rfl⟩ := gW_some hq
    obtain ⟨e1, h1, -⟩ := h i c1 hc1
    obtain ⟨e2, h2, -⟩ := h j c2 hc2
    exact hi i (hl i c1 hc1) j (hl j c2 hc2) (hD.1 _ _ _ _ h1 h2 hpq)
  · obtain ⟨c, hc, rfl⟩ := gW_some hq
    obtain ⟨e, h1, -⟩ := h k c hc
    exact hD.2 _ (ad k, e) h1
def eM (g : Nat → Nat) : List Value := [.int 2, .ref (g 0), .ref (g 1), .ref (g 2), .ref (g 3), .ref (g 4), .ref (g 5), .ref (g 6), .int 0, .ref (g 7), .int 0, .ref (g 8), .ref (g 9), .ref (g 10), .ref (g 11), .ref (g 12), .ref (g 13), .int 0, .ref (g 14), .ref (g 15), .ref (g 16), .int 0, .int 0, .ref (g 17), .ref (g 18), .ref (g 19), .ref (g 20), .ref (g 21), .ref (g 22), .ref (g 23), .int 0, .ref (g 24), .int 0, .ref (g 25), .ref (g 26), .ref (g 27), .ref (g 28), .ref (g 29), .ref (g 30), .int 0, .int 0, .ref (g 31), .ref (g 32), .ref (g 33), .ref (g 34), .ref (g 35), .ref (g 36), .int 0, .ref (g 37), .int 0, .ref (g 38), .ref (g 39), .ref (g 40), .int 0, .ref (g 41), .int 0, .ref (g 42), .ref (g 43), .ref (g 44), .int 0, .ref (g 45), .ref (g 46), .ref (g 47), .ref (g 48), .int 0, .int 0]
def lM (ck : Nat → ClassId) (g : Nat → Nat) : va_W := [((g 0), aI ck 4), ((g 1), aI ck 4), ((g 2), aI ck 20), ((g 3), aI ck 20), ((g 4), aI ck 20), ((g 5), aI ck 20), ((g 6), aI ck 80), ((g 7), aI ck 20), ((g 8), aI ck 8), ((g 9), aI ck 8), ((g 10), aI ck 8), ((g 11), aI ck 8), ((g 12), aI ck 3), ((g 13), aI ck 180), ((g 14), aI ck 60), ((g 15), .inl (ck 0, 3, .inl (upd (upd (upd (fun _ => 0) (0 : Int32).toNatClampNeg (-1)) (1 : Int32).toNatClampNeg (-1)) (2 : Int32).toNatClampNeg (-1)))), ((g 16), aL ck 60), ((g 17), aI ck 4), ((g 18), aI ck 4), ((g 19), aI ck 20), ((g 20), aI ck 20), ((g 21), aI ck 20), ((g 22), aI ck 20), ((g 23), aI ck 80), ((g 24), aI ck 20), ((g 25), aI ck 8), ((g 26), aI ck 8), ((g 27), aI ck 8), ((g 28), aI ck 8), ((g 29), aI ck 3), ((g 30), aI ck 180), ((g 31), aI ck 1296), ((g 32), aI ck 5184), ((g 33), aI ck 6000), ((g 34), aI ck 4), ((g 35), aL ck 1296), ((g 36), aL ck 1296), ((g 37), aI ck 8), ((g 38), aZ ck 7), ((g 39), aZ ck 7), ((g 40), aZ ck 7), ((g 41), aZ ck 1296), ((g 42), aZ ck 1296), ((g 43), aI ck 80), ((g 44), aI ck 4), ((g 45), aI ck 12), ((g 46), aI ck 12), ((g 47), aI ck 12), ((g 48), aI ck 12)]
def wF (ck : Nat → ClassId) (f g : Nat → Nat) (a : Nat) : va_W := Nw_ (wX ck f ++ [(a, .inr (9, [.int 0, .null, .null, .null, .null, .null, .null, .null, .int 0, .null, .int 0, .null, .null, .null, .null, .null, .null, .int 0, .null, .null, .null, .int 0, .int 0, .null, .null, .null, .null, .null, .null, .null, .int 0, .null, .int 0, .null, .null, .null, .null, .null, .null, .int 0, .int 0, .null, .null, .null, .null, .null, .null, .int 0, .null, .int 0, .null, .null, .null, .int 0, .null, .int 0, .null, .null, .null, .int 0, .null, .null, .null, .null, .int 0, .int 0]))]) 71 a 9 (eM g) (lM ck g)
def adF (f g : Nat → Nat) (a : Nat) : Nat → Nat := fun i => if i < 71 then f i else if i = 71 then a else g (i - 72)
def pmF : Nat → Nat := fun i => [0, 1, 2, 3, 4, 5, 6, 7, 8, 9, 10, 11, 12, 13, 14, 15, 16, 17, 18, 19, 20, 21, 22, 23, 24, 25, 26, 27, 28, 29, 30, 41, 49, 57, 43, 51, 59, 45, 53, 61, 65, 67, 69, 42, 50, 58, 44, 52, 60, 46, 47, 48, 54, 55, 56, 62, 63, 64, 66, 68, 70, 33, 34, 35, 36, 37, 31, 32, 38, 39, 40, 71, 72, 73, 74, 75, 76, 77, 78, 79, 80, 81, 82, 83, 84, 85, 86, 87, 88, 89, 90, 91, 92, 93, 94, 95, 96, 97, 98, 99, 100, 101, 102, 103, 104, 105, 106, 107, 108, 109, 110, 111, 112, 113, 114, 115, 116, 117, 118, 119, 120].getD i 0
theorem pmF_inj : ∀ i, i < 121 → ∀ j, j < 121 → pmF i = pmF j → i = j := by decide +kernel
set_option maxRecDepth 1000000 in
set_option maxHeartbeats 40000000 in
theorem wF_conv (ck : Nat → ClassId) (f g : Nat → Nat) (a : Nat) : ∀ (k : Nat) (c : Lc), lay[k]? = some c → ∃ e, (wF ck f g a)[pmF k]? = some (adF f g a k, e) ∧ EqE e (gE ck (adF f g a) σ0 k c)
  | 0, c, hk => by cases Option.some.inj (y0.symm.trans hk); exact ⟨_, rfl, Or.inl rfl⟩
  | 1, c, hk => by cases Option.some.inj (y1.symm.trans hk); exact ⟨_, rfl, Or.inl rfl⟩
  | 2, c, hk => by cases Option.some.inj (y2.symm.trans hk); exact ⟨_, rfl, Or.inl rfl⟩
  | 3, c, hk => by cases Option.some.inj (y3.symm.trans hk); exact ⟨_, rfl, Or.inl rfl⟩
  | 4, c, hk => by cases Option.some.inj (y4.symm.trans hk); exact ⟨_, rfl, Or.inl rfl⟩
  | 5, c, hk => by cases Option.some.inj (y5.symm.trans hk); exact ⟨_, rfl, Or.inl rfl⟩
  | 6, c, hk => by cases Option.some.inj (y6.symm.trans hk); exact ⟨_, rfl, Or.inl rfl⟩
  | 7, c, hk => by cases Option.some.inj (y7.symm.trans hk); exact ⟨_, rfl, Or.inl rfl⟩
  | 8, c, hk => by cases Option.some.inj (y8.symm.trans hk); exact ⟨_, rfl, Or.inl rfl⟩
  | 9, c, hk => by cases Option.some.inj (y9.symm.trans hk); exact ⟨_, rfl, Or.inl rfl⟩
  | 10, c, hk => by cases Option.some.inj (y10.symm.trans hk); exact ⟨_, rfl, Or.inl rfl⟩
  | 11, c, hk => by cases Option.some.inj (y11.symm.trans hk); exact ⟨_, rfl, Or.inl rfl⟩
  | 12, c, hk => by cases Option.some.inj (y12.symm.trans hk); exact ⟨_, rfl, Or.inl rfl⟩
  | 13, c, hk => by cases Option.some.inj (y13.symm.trans hk); exact ⟨_, rfl, Or.inl rfl⟩
  | 14, c, hk => by cases Option.some.inj (y14.symm.trans hk); exact ⟨_, rfl, Or.inl rfl⟩
  | 15, c, hk => by cases Option.some.inj (y15.symm.trans hk); exact ⟨_, rfl, Or.inl rfl⟩
  | 16, c, hk => by cases Option.some.inj (y16.symm.trans hk); exact ⟨_, rfl, Or.inl rfl⟩
  | 17, c, hk => by cases Option.some.inj (y17.symm.trans hk); exact ⟨_, rfl, Or.inl rfl⟩
  | 18, c, hk => by cases Option.some.inj (y18.symm.trans hk); exact ⟨_, rfl, Or.inl rfl⟩
  | 19, c, hk => by cases Option.some.inj (y19.symm.trans hk); exact ⟨_, rfl, Or.inl rfl⟩
  | 20, c, hk => by cases Option.some.inj (y20.symm.trans hk); exact ⟨_, rfl, Or.inl rfl⟩
  | 21, c, hk => by cases Option.some.inj (y21.symm.trans hk); exact ⟨_, rfl, Or.inl rfl⟩
  | 22, c, hk => by cases Option.some.inj (y22.symm.trans hk); exact ⟨_, rfl, Or.inl rfl⟩
  | 23, c, hk => by cases Option.some.inj (y23.symm.trans hk); exact ⟨_, rfl, Or.inl rfl⟩
  | 24, c, hk => by cases Option.some.inj (y24.symm.trans hk); exact ⟨_, rfl, Or.inl rfl⟩
  | 25, c, hk => by cases Option.some.inj (y25.symm.trans hk); exact ⟨_, rfl, Or.inl rfl⟩
  | 26, c, hk => by cases Option.some.inj (y26.symm.trans hk); exact ⟨_, rfl, Or.inl rfl⟩
  | 27, c, hk => by cases Option.some.inj (y27.symm.trans hk); exact ⟨_, rfl, Or.inr ⟨_, _, _, _, rfl, rfl, fun j hj => by match j, hj with | 0, _ => rfl | 1, _ => rfl | 2, _ => rfl⟩⟩
  | 28, c, hk => by cases Option.some.inj (y28.symm.trans hk); exact ⟨_, rfl, Or.inr ⟨_, _, _, _, rfl, rfl, fun j hj => by match j, hj with | 0, _ => rfl | 1, _ => rfl | 2, _ => rfl⟩⟩
  | 29, c, hk => by cases Option.some.inj (y29.symm.trans hk); exact ⟨_, rfl, Or.inr ⟨_, _, _, _, rfl, rfl, fun j hj => by match j, hj with | 0, _ => rfl | 1, _ => rfl | 2, _ => rfl⟩⟩
  | 30, c, hk => by cases Option.some.inj (y30.symm.trans hk); exact ⟨_, rfl, Or.inr ⟨_, _, _, _, rfl, rfl, fun j hj => by match j, hj with | 0, _ => rfl | 1, _ => rfl | 2, _ => rfl⟩⟩
  | 31, c, hk => by cases Option.some.inj (y31.symm.trans hk); exact ⟨_, rfl, Or.inl rfl⟩
  | 32, c, hk => by cases Option.some.inj (y32.symm.trans hk); exact ⟨_, rfl, Or.inl rfl⟩
  | 33, c, hk => by cases Option.some.inj (y33.symm.trans hk); exact ⟨_, rfl, Or.inl rfl⟩
  | 34, c, hk => by cases Option.some.inj (y34.symm.trans hk); exact ⟨_, rfl, Or.inl rfl⟩
  | 35, c, hk => by cases Option.some.inj (y35.symm.trans hk); exact ⟨_, rfl, Or.inl rfl⟩
  | 36, c, hk => by cases Option.some.inj (y36.symm.trans hk); exact ⟨_, rfl, Or.inl rfl⟩
  | 37, c, hk => by cases Option.some.inj (y37.symm.trans hk); exact ⟨_, rfl, Or.inl rfl⟩
  | 38, c, hk => by cases Option.some.inj (y38.symm.trans hk); exact ⟨_, rfl, Or.inl rfl⟩
  | 39, c, hk => by cases Option.some.inj (y39.symm.trans hk); exact ⟨_, rfl, Or.inl rfl⟩
  | 40, c, hk => by cases Option.some.inj (y40.symm.trans hk); exact ⟨_, rfl, Or.inl rfl⟩
  | 41, c, hk => by cases Option.some.inj (y41.symm.trans hk); exact ⟨_, rfl, Or.inl rfl⟩
  | 42, c, hk => by cases Option.some.inj (y42.symm.trans hk); exact ⟨_, rfl, Or.inl rfl⟩
  | 43, c, hk => by cases Option.some.inj (y43.symm.trans hk); exact ⟨_, rfl, Or.inl rfl⟩
  | 44, c, hk => by cases Option.some.inj (y44.symm.trans hk); exact ⟨_, rfl, Or.inl rfl⟩
  | 45, c, hk => by cases Option.some.inj (y45.symm.trans hk); exact ⟨_, rfl, Or.inl rfl⟩
  | 46, c, hk => by cases Option.some.inj (y46.symm.trans hk); exact ⟨_, rfl, Or.inl rfl⟩
  | 47, c, hk => by cases Option.some.inj (y47.symm.trans hk); exact ⟨_, rfl, Or.inl rfl⟩
  | 48, c, hk => by cases Option.some.inj (y48.symm.trans hk); exact ⟨_, rfl, Or.inl rfl⟩
  | 49, c, hk => by cases Option.some.inj (y49.symm.trans hk); exact ⟨_, rfl, Or.inl rfl⟩
  | 50, c, hk => by cases Option.some.inj (y50.symm.trans hk); exact ⟨_, rfl, Or.inl rfl⟩
  | 51, c, hk => by cases Option.some.inj (y51.symm.trans hk); exact ⟨_, rfl, Or.inl rfl⟩
  | 52, c, hk => by cases Option.some.inj (y52.symm.trans hk); exact ⟨_, rfl, Or.inl rfl⟩
  | 53, c, hk => by cases Option.some.inj (y53.symm.trans hk); exact ⟨_, rfl, Or.inl rfl⟩
  | 54, c, hk => by cases Option.some.inj (y54.symm.trans hk); exact ⟨_, rfl, Or.inl rfl⟩
  | 55, c, hk => by cases Option.some.inj (y55.symm.trans hk); exact ⟨_, rfl, Or.inl rfl⟩
  | 56, c, hk => by cases Option.some.inj (y56.symm.trans hk); exact ⟨_, rfl, Or.inl rfl⟩
  | 57, c, hk => by cases Option.some.inj (y57.symm.trans hk); exact ⟨_, rfl, Or.inl rfl⟩
  | 58, c, hk => by cases Option.some.inj (y58.symm.trans hk); exact ⟨_, rfl, Or.inl rfl⟩
  | 59, c, hk => by cases Option.some.inj (y59.symm.trans hk); exact ⟨_, rfl, Or.inl rfl⟩
  | 60, c, hk => by cases Option.some.inj (y60.symm.trans hk); exact ⟨_, rfl, Or.inl rfl⟩
  | 61, c, hk => by cases Option.some.inj (y61.symm.trans hk); exact ⟨_, rfl, Or.inl rfl⟩
  | 62, c, hk => by cases Option.some.inj (y62.symm.trans hk); exact ⟨_, rfl, Or.inl rfl⟩
  | 63, c, hk => by cases Option.some.inj (y63.symm.trans hk); exact ⟨_, rfl, Or.inl rfl⟩
  | 64, c, hk => by cases Option.some.inj (y64.symm.trans hk); exact ⟨_, rfl, Or.inl rfl⟩
  | 65, c, hk => by cases Option.some.inj (y65.symm.trans hk); exact ⟨_, rfl, Or.inl rfl⟩
  | 66, c, hk => by cases Option.some.inj (y66.symm.trans hk); exact ⟨_, rfl, Or.inl rfl⟩
  | 67, c, hk => by cases Option.some.inj (y67.symm.trans hk); exact ⟨_, rfl, Or.inl rfl⟩
  | 68, c, hk => by cases Option.some.inj (y68.symm.trans hk); exact ⟨_, rfl, Or.inl rfl⟩
  | 69, c, hk => by cases Option.some.inj (y69.symm.trans hk); exact ⟨_, rfl, Or.inl rfl⟩
  | 70, c, hk => by cases Option.some.inj (y70.symm.trans hk); exact ⟨_, rfl, Or.inl rfl⟩
  | 71, c, hk => by cases Option.some.inj (y71.symm.trans hk); exact ⟨_, rfl, Or.inl rfl⟩
  | 72, c, hk => by cases Option.some.inj (y72.symm.trans hk); exact ⟨_, rfl, Or.inl rfl⟩
  | 73, c, hk => by cases Option.some.inj (y73.symm.trans hk); exact ⟨_, rfl, Or.inl rfl⟩
  | 74, c, hk => by cases Option.some.inj (y74.symm.trans hk); exact ⟨_, rfl, Or.inl rfl⟩
  | 75, c, hk => by cases Option.some.inj (y75.symm.trans hk); exact ⟨_, rfl, Or.inl rfl⟩
  | 76, c, hk => by cases Option.some.inj (y76.symm.trans hk); exact ⟨_, rfl, Or.inl rfl⟩
  | 77, c, hk => by cases Option.some.inj (y77.symm.trans hk); exact ⟨_, rfl, Or.inl rfl⟩
  | 78, c, hk => by cases Option.some.inj (y78.symm.trans hk); exact ⟨_, rfl, Or.inl rfl⟩
  | 79, c, hk => by cases Option.some.inj (y79.symm.trans hk); exact ⟨_, rfl, Or.inl rfl⟩
  | 80, c, hk => by cases Option.some.inj (y80.symm.trans hk); exact ⟨_, rfl, Or.inl rfl⟩
  | 81, c, hk => by cases Option.some.inj (y81.symm.trans hk); exact ⟨_, rfl, Or.inl rfl⟩
  | 82, c, hk => by cases Option.some.inj (y82.symm.trans hk); exact ⟨_, rfl, Or.inl rfl⟩
  | 83, c, hk => by cases Option.some.inj (y83.symm.trans hk); exact ⟨_, rfl, Or.inl rfl⟩
  | 84, c, hk => by cases Option.some.inj (y84.symm.trans hk); exact ⟨_, rfl, Or.inl rfl⟩
  | 85, c, hk => by cases Option.some.inj (y85.symm.trans hk); exact ⟨_, rfl, Or.inl rfl⟩
  | 86, c, hk => by cases Option.some.inj (y86.symm.trans hk); exact ⟨_, rfl, Or.inl rfl⟩
  | 87, c, hk => by cases Option.some.inj (y87.symm.trans hk); exact ⟨_, rfl, Or.inl rfl⟩
  | 88, c, hk => by cases Option.some.inj (y88.symm.trans hk); exact ⟨_, rfl, Or.inl rfl⟩
  | 89, c, hk => by cases Option.some.inj (y89.symm.trans hk); exact ⟨_, rfl, Or.inl rfl⟩
  | 90, c, hk => by cases Option.some.inj (y90.symm.trans hk); exact ⟨_, rfl, Or.inl rfl⟩
  | 91, c, hk => by cases Option.some.inj (y91.symm.trans hk); exact ⟨_, rfl, Or.inl rfl⟩
  | 92, c, hk => by cases Option.some.inj (y92.symm.trans hk); exact ⟨_, rfl, Or.inl rfl⟩
  | 93, c, hk => by cases Option.some.inj (y93.symm.trans hk); exact ⟨_, rfl, Or.inl rfl⟩
  | 94, c, hk => by cases Option.some.inj (y94.symm.trans hk); exact ⟨_, rfl, Or.inl rfl⟩
  | 95, c, hk => by cases Option.some.inj (y95.symm.trans hk); exact ⟨_, rfl, Or.inl rfl⟩
  | 96, c, hk => by cases Option.some.inj (y96.symm.trans hk); exact ⟨_, rfl, Or.inl rfl⟩
  | 97, c, hk => by cases Option.some.inj (y97.symm.trans hk); exact ⟨_, rfl, Or.inl rfl⟩
  | 98, c, hk => by cases Option.some.inj (y98.symm.trans hk); exact ⟨_, rfl, Or.inl rfl⟩
  | 99, c, hk => by cases Option.some.inj (y99.symm.trans hk); exact ⟨_, rfl, Or.inl rfl⟩
  | 100, c, hk => by cases Option.some.inj (y100.symm.trans hk); exact ⟨_, rfl, Or.inl rfl⟩
  | 101, c, hk => by cases Option.some.inj (y101.symm.trans hk); exact ⟨_, rfl, Or.inl rfl⟩
  | 102, c, hk => by cases Option.some.inj (y102.symm.trans hk); exact ⟨_, rfl, Or.inl rfl⟩
  | 103, c, hk => by cases Option.some.inj (y103.symm.trans hk); exact ⟨_, rfl, Or.inl rfl⟩
  | 104, c, hk => by cases Option.some.inj (y104.symm.trans hk); exact ⟨_, rfl, Or.inl rfl⟩
  | 105, c, hk => by cases Option.some.inj (y105.symm.trans hk); exact ⟨_, rfl, Or.inl rfl⟩
  | 106, c, hk => by cases Option.some.inj (y106.symm.trans hk); exact ⟨_, rfl, Or.inl rfl⟩
  | 107, c, hk => by cases Option.some.inj (y107.symm.trans hk); exact ⟨_, rfl, Or.inl rfl⟩
  | 108, c, hk => by cases Option.some.inj (y108.symm.trans hk); exact ⟨_, rfl, Or.inl rfl⟩
  | 109, c, hk => by cases Option.some.inj (y109.symm.trans hk); exact ⟨_, rfl, Or.inl rfl⟩
  | 110, c, hk => by cases Option.some.inj (y110.symm.trans hk); exact ⟨_, rfl, Or.inl rfl⟩
  | 111, c, hk => by cases Option.some.inj (y111.symm.trans hk); exact ⟨_, rfl, Or.inl rfl⟩
  | 112, c, hk => by cases Option.some.inj (y112.symm.trans hk); exact ⟨_, rfl, Or.inl rfl⟩
  | 113, c, hk => by cases Option.some.inj (y113.symm.trans hk); exact ⟨_, rfl, Or.inl rfl⟩
  | 114, c, hk => by cases Option.some.inj (y114.symm.trans hk); exact ⟨_, rfl, Or.inl rfl⟩
  | 115, c, hk => by cases Option.some.inj (y115.symm.trans hk); exact ⟨_, rfl, Or.inl rfl⟩
  | 116, c, hk => by cases Option.some.inj (y116.symm.trans hk); exact ⟨_, rfl, Or.inl rfl⟩
  | 117, c, hk => by cases Option.some.inj (y117.symm.trans hk); exact ⟨_, rfl, Or.inl rfl⟩
  | 118, c, hk => by cases Option.some.inj (y118.symm.trans hk); exact ⟨_, rfl, Or.inl rfl⟩
  | 119, c, hk => by cases Option.some.inj (y119.symm.trans hk); exact ⟨_, rfl, Or.inl rfl⟩
  | 120, c, hk => by cases Option.some.inj (y120.symm.trans hk); exact ⟨_, rfl, Or.inl rfl⟩
  | n + 121, c, hk => absurd (List.getElem?_eq_some_iff.mp hk).1 (by show ¬ n + 121 < 121; omega)
theorem rc_0 {z2 z0 z0' : Int32} (h2 : z2.toInt = 2) (h0 : z0.toInt = 0) (h0' : z0'.toInt = 0) : RC z2 z0 z0' (fun _ => 0) (fun _ => 0) (fun _ => 0) (fun _ => 0) (fun _ => 0) (fun _ => 0) (fun _ => 0) := by
  have e : ((0 : Int32)).toInt = 0 := rfl
  refine ⟨by omega, by omega, by omega, fun _ => (by decide : 0 ≤ ((0 : Int32)).toInt ∧ ((0 : Int32)).toInt ≤ 5), fun _ => (by decide : 0 ≤ ((0 : Int32)).toInt ∧ ((0 : Int32)).toInt ≤ 3), fun p _ => ?_, fun _ h => absurd (show ((0 : Int32)).toInt = 2 from h) (by decide), ?_, fun _ => (by decide : 0 ≤ ((0 : Int32)).toInt ∧ ((0 : Int32)).toInt ≤ 3), fun _ => (by decide : -5 ≤ ((0 : Int32)).toInt ∧ ((0 : Int32)).toInt ≤ 3), fun t ht => ?_, fun t ht => ?_⟩
  · rw [h0]; rfl
  · rw [h0, h0']; rfl
  · rw [h0] at ht; exact absurd ht (Nat.not_lt_zero _)
  · rw [h0] at ht; exact absurd ht (Nat.not_lt_zero _)
theorem IX_0 : IX σ0.1 := by
  have e : ((0 : Int32)).toInt = 0 := rfl
  have hc : ∀ o p : Nat, ini o 0 = 0 → ini o 1 = 0 → ini p = (fun _ => 0) → CN ini o p := fun o p h1 h2 h3 => ⟨Or.inl (by rw [h1]; rfl), by rw [h2]; omega, by rw [h3]; exact fun _ => PV_0⟩
  refine ⟨rc_0 rfl rfl rfl, rc_0 rfl rfl rfl, hc _ _ rfl rfl rfl, hc _ _ rfl rfl rfl, hc _ _ rfl rfl rfl, hc _ _ rfl rfl rfl, hc _ _ rfl rfl rfl, hc _ _ rfl rfl rfl, ?_, ?_, ?_, ⟨?_, fun _ => GR_0, fun _ => ?_⟩, ⟨?_, ?_⟩, ⟨?_, fun _ => PV_0⟩⟩
  · show ((-1 : Int32)).toInt ≤ 20; decide
  · show ((-1 : Int32)).toInt ≤ 20; decide
  · show ((-1 : Int32)).toInt ≤ 20; decide
  · show 0 ≤ ((0 : Int32)).toInt ∧ ((0 : Int32)).toInt ≤ 1296; omega
  · show -1 ≤ ((0 : Int32)).toInt ∧ ((0 : Int32)).toInt ≤ 1295; omega
  · show 0 ≤ ((0 : Int32)).toInt ∧ ((0 : Int32)).toInt ≤ 60; omega
  · show 0 ≤ ((0 : Int32)).toInt ∧ ((0 : Int32)).toInt ≤ 60; omega
  · show 0 ≤ ((0 : Int32)).toInt ∧ ((0 : Int32)).toInt ≤ 60; omega
theorem IM_0 : IM σ0.1 := by
  have e : ((0 : Int32)).toInt = 0 := rfl
  have m1 : ((-1 : Int32)).toInt = -1 := by decide
  refine ⟨rc_0 rfl rfl rfl, ⟨fun _ => ?_, fun t q ht => absurd ht (Nat.not_lt_zero _)⟩, ?_, ?_, fun c => ⟨?_, fun _ h => ?_⟩, ⟨?_, fun _ => ?_, fun _ => ?_, fun _ => ?_, fun h => absurd rfl h⟩, fun h => absurd rfl h⟩
  · show 0 ≤ ((0 : Int32)).toInt ∧ ((0 : Int32)).toInt ≤ 5; omega
  · show 0 ≤ ((0 : Int32)).toInt ∧ ((0 : Int32)).toInt ≤ 60; omega
  · show ∀ j, -1 ≤ (lm0 j).toInt ∧ (lm0 j).toInt ≤ 20
    exact up_iv (up_iv (up_iv (fun _ => by show -1 ≤ ((0 : Int32)).toInt ∧ ((0 : Int32)).toInt ≤ 20; omega) _ (by omega)) _ (by omega)) _ (by omega)
  · show 0 ≤ ((0 : Int32)).toInt ∧ ((0 : Int32)).toInt ≤ 60; omega
  · have h' : 0 < ((0 : Int32)).toInt := h
    omega
  · show 0 ≤ ((0 : Int32)).toInt ∧ ((0 : Int32)).toInt ≤ 1296; omega
  · show 0 ≤ ((0 : Int32)).toInt ∧ ((0 : Int32)).toInt ≤ 5; omega
  · show 0 ≤ ((0 : Int32)).toInt ∧ ((0 : Int32)).toInt ≤ 5555; omega
  · show -5 ≤ ((0 : Int32)).toInt ∧ ((0 : Int32)).toInt ≤ 1295; omega
theorem RlA_0 : RlA σ0.1 := ⟨⟨rfl, fun _ _ => rfl⟩, rfl, fun _ _ => rfl, Iff.rfl, fun h => absurd rfl h⟩
theorem RlC_0 : RlC σ0.1 := ⟨⟨Iff.rfl, Iff.rfl, Iff.rfl⟩, fun h => absurd rfl h⟩
