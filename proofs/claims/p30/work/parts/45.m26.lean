theorem nx_gt {V : Nat → Nat → Int32} (hI : IM V) (hL : ¬ (V 71 39).toInt = 0) {i P : Nat} (hi : (i : Int) < (V 71 40).toInt) (hP : (P : Int) < (V 71 0).toInt) (h0 : 0 ≤ nx V i P) : (i : Int) < nx V i P ∧ nx V i P < (V 71 40).toInt := by
  have hpr := hI.pr
  have hc := ((hI.cu.2.2.2.2 hL).2.1 i hi).1 P (by omega)
  have hcd := hI.cu.2.2.1 i
  have hpw := pw_b (e := (V 71 0).toInt.toNat - 1 - P) (by omega)
  unfold nx at h0 ⊢
  by_cases e : (V 104 (4 * i + P)).toInt = (V 73 P).toInt
  · rw [if_pos e] at h0; omega
  · rw [if_neg e] at h0 ⊢
    have h2 := (cu_next hI hL hi hP (by omega)).2 ((V 103 i).toInt + (10 : Int) ^ ((V 71 0).toInt.toNat - 1 - P)).toNat (by omega) h0
    exact ⟨h2.2.1, h2.1⟩
def FG (V : Nat → Nat → Int32) (j : Nat) (z : Int) : Prop := (j : Int) = (V 71 40).toInt - 1 ∨ ∃ p : Nat, (p : Int) < z ∧ 0 ≤ nx V j p ∧ ¬ (V 114 (nx V j p).toNat).toInt = 0
def FO (V : Nat → Nat → Int32) (lo : Int) : Prop := ∀ j : Nat, lo ≤ (j : Int) → (j : Int) < (V 71 40).toInt → ((V 114 j).toInt = 0 ∨ (V 114 j).toInt = 1) ∧ (¬ (V 114 j).toInt = 0 → FG V j (V 71 0).toInt)
theorem fo_step {τ : Sg} {i : Nat} {v : Int32} {lo : Int} (hI : IM τ.1) (hL : ¬ (τ.1 71 39).toInt = 0) (hlo : lo = (i : Int) + 1) (h : FO τ.1 lo) (hi : (i : Int) < (τ.1 71 40).toInt) (hv : v.toInt = 0 ∨ v.toInt = 1) (hg : ¬ v.toInt = 0 → FG τ.1 i (τ.1 71 0).toInt) : FO (sV τ 114 i v).1 i := by
  have en : ∀ j p, nx (sV τ 114 i v).1 j p = nx τ.1 j p := fun j p => rfl
  have e40 : ((sV τ 114 i v).1 71 40) = τ.1 71 40 := rfl
  have e0 : ((sV τ 114 i v).1 71 0) = τ.1 71 0 := rfl
  have eo : ∀ j, j ≠ i → (sV τ 114 i v).1 114 j = τ.1 114 j := fun j hj => by
    show va_up τ.1 114 (upd (τ.1 114) i v) 114 j = _
    rw [va_up_self, pk_un hj]
  have mv : ∀ j : Nat, (i : Int) ≤ j → (j : Int) < (τ.1 71 40).toInt → FG τ.1 j (τ.1 71 0).toInt → FG (sV τ 114 i v).1 j (τ.1 71 0).toInt := fun j hj hj2 hF => by
    rcases hF with q | ⟨p, p1, p2, p3⟩
    · exact Or.inl q
    · have hn := nx_gt hI hL hj2 p1 p2
      refine Or.inr ⟨p, p1, p2, ?_⟩
      rw [en, eo _ (by omega)]
      exact p3
  intro j h1 h2
  rw [e40] at h2
  rw [e0]
  by_cases e : j = i
  · subst e
    rw [rd_us]
    exact ⟨hv, fun q => mv j (Int.le_refl _) h2 (hg q)⟩
  · rw [eo j e]
    have h3 := h j (by omega) h2
    exact ⟨h3.1, fun q => mv j h1 h2 (h3.2 q)⟩
theorem cn_none {o : Nat → Int32} {pr p : Int} (hp : pr ≤ p) : ∀ n : Nat, (∀ t, t < n → (o t).toInt < pr) → cn o p n = 0
  | 0, _ => rfl
  | n + 1, h => by
    rw [cn_succ, cn_none hp n (fun t ht => h t (by omega)), if_neg (by have := h n (by omega); omega)]
/-- the last cut has all events -/
theorem cu_all {V : Nat → Nat → Int32} (hI : IM V) (hL : ¬ (V 71 39).toInt = 0) {i : Nat} (hi : (i : Int) = (V 71 40).toInt - 1) : (V 104 (4 * i)).toInt + (V 104 (4 * i + 1)).toInt + (V 104 (4 * i + 2)).toInt + (V 104 (4 * i + 3)).toInt = (V 71 8).toInt := by
  have hpr := hI.pr
  have htot := hI.tot
  obtain ⟨l0, l1, l2, l3, l4, l5⟩ := hI.cu.2.2.2.2 hL
  have ei : (V 71 40).toInt.toNat - 1 = i := by omega
  rw [ei] at l4
  have ho := hI.1.2.2.2.2.2.2.2.2.2.2.2
  have he := hI.1.2.2.2.2.2.1
  have hs := cn_sum hI.ord (V 71 8).toInt.toNat
  have hc : ∀ p : Nat, p < 4 → (V 104 (4 * i + p)).toInt = (cn (V 79) p (V 71 8).toInt.toNat : Int) := fun p hp => by
    rcases Int.lt_or_le (p : Int) (V 71 0).toInt with q | q
    · rw [l4 p hp q, he p hp]
    · rw [((l1 i (by omega)).1 p hp).2 q, cn_none q _ ho]; rfl
  have c0 : (V 104 (4 * i)).toInt = (cn (V 79) 0 (V 71 8).toInt.toNat : Int) := hc 0 (by omega)
  have c1 : (V 104 (4 * i + 1)).toInt = (cn (V 79) 1 (V 71 8).toInt.toNat : Int) := hc 1 (by omega)
  have c2 : (V 104 (4 * i + 2)).toInt = (cn (V 79) 2 (V 71 8).toInt.toNat : Int) := hc 2 (by omega)
  have c3 : (V 104 (4 * i + 3)).toInt = (cn (V 79) 3 (V 71 8).toInt.toNat : Int) := hc 3 (by omega)
  omega
def lvl4 (V : Nat → Nat → Int32) (i : Nat) : Int := (V 104 (4 * i)).toInt + (V 104 (4 * i + 1)).toInt + (V 104 (4 * i + 2)).toInt + (V 104 (4 * i + 3)).toInt
theorem lvl4_next {V : Nat → Nat → Int32} {i r P : Nat} (hP : P < 4) (h : ∀ q : Nat, q < 4 → (V 104 (4 * r + q)).toInt = (V 104 (4 * i + q)).toInt + (if q = P then 1 else 0)) : lvl4 V r = lvl4 V i + 1 := by
  have h0 := h 0 (by omega)
  have h1 := h 1 (by omega)
  have h2 := h 2 (by omega)
  have h3 := h 3 (by omega)
  unfold lvl4
  rcases (show P = 0 ∨ P = 1 ∨ P = 2 ∨ P = 3 by omega) with e | e | e | e <;> subst e <;> simp at h0 h1 h2 h3 <;> omega
/-- the first cut has no event -/
theorem cu_first {V : Nat → Nat → Int32} (hI : IM V) (hL : ¬ (V 71 39).toInt = 0) : lvl4 V 0 = 0 := by
  have hpr := hI.pr
  obtain ⟨l0, l1, l2, l3, l4, l5⟩ := hI.cu.2.2.2.2 hL
  obtain ⟨a1, a2, a3⟩ := l1 0 (by omega)
  have e := dg_inj (m := fun p => (V 104 (4 * 0 + p)).toInt) (m' := fun _ => 0) (fun j => hI.cu.2.1 _) (fun j => by omega) (V 71 0).toInt.toNat (by rw [← a2, l5]; rcases (show (V 71 0).toInt.toNat = 1 ∨ (V 71 0).toInt.toNat = 2 ∨ (V 71 0).toInt.toNat = 3 ∨ (V 71 0).toInt.toNat = 4 by omega) with q | q | q | q <;> rw [q] <;> rfl)
  have hc : ∀ p : Nat, p < 4 → (V 104 (4 * 0 + p)).toInt = 0 := fun p hp => by
    rcases Int.lt_or_le (p : Int) (V 71 0).toInt with q | q
    · exact e p (by omega)
    · exact (a1 p hp).2 q
  have c0 := hc 0 (by omega)
  have c1 := hc 1 (by omega)
  have c2 := hc 2 (by omega)
  have c3 := hc 3 (by omega)
  unfold lvl4
  simp at c0 c1 c2 c3 ⊢
  omega
theorem fg_mono {V : Nat → Nat → Int32} {j : Nat} {z z' : Int} (h : FG V j z) (hz : z ≤ z') : FG V j z' := h.elim Or.inl (fun ⟨p, h1, h2⟩ => Or.inr ⟨p, by omega, h2⟩)
set_option maxHeartbeats 10000000 in
set_option maxRecDepth 100000 in
theorem L_layFree35 (l : Launch) (ad : Nat → Nat) (E : Ev) (σ τ : Sg) (kI : IM τ.1) (hL : ¬ (τ.1 71 39).toInt = 0) (c i : Int32) (hi : 0 ≤ i.toInt ∧ i.toInt < (τ.1 71 40).toInt) (C : Cx E l (rmk 7) 5 cX10_layFree RX10) (X : Rx E ad (some .boolean) (oI (fun r τ => IM τ.1 ∧ ¬ (τ.1 71 39).toInt = 0 ∧ Fr [103, 104, 105, 106, 110, 111, 112, 113, 114] [(71, 39), (71, 40), (71, 47), (71, 53), (71, 55)] σ τ ∧ FO τ.1 0 ∧ (r.toInt = 0 ∨ r.toInt = 1) ∧ r = τ.1 114 0))) (K : ∀ v i2 : Int32, (v.toInt = 0 ∨ v.toInt = 1) → (¬ v.toInt = 0 → FG τ.1 i.toInt.toNat (τ.1 71 0).toInt) → i2.toInt = i.toInt - 1 → WP E ad 12 [some (.ref (ad 71)), some (.int c), some (.int i2), none, none] [] (sV τ 114 i.toNatClampNeg v)) : ∀ (n : Nat) (a : Int32) (z : Int32), (a.toInt = 0 ∨ a.toInt = 1) → (¬ a.toInt = 0 → FG τ.1 i.toInt.toNat z.toInt) → (0 ≤ z.toInt ∧ z.toInt ≤ (τ.1 71 0).toInt) → (4 - z.toInt).toNat < n → WP E ad 35 [some (.ref (ad 71)), some (.int c), some (.int i), some (.int a), some (.int z)] [] τ := by
  intro n
  induction n with
  | zero => intro a z ha hg h0 hm9; exact absurd hm9 (Nat.not_lt_zero _)
  | succ n ih =>
    intro a z ha hg h0 hm9
    have hpr := kI.pr
    have hcb := kI.cu.1
    refine s_iload C dX10_layFree_35 rfl ?_
    refine s_aload_n C dX10_layFree_37 rfl ?_
    refine s_get (k := 0) (x := (τ.1 71 0)) C y71 fw_X10_9 rfl rfl dX10_layFree_38 ?_
    refine s_icmp_ge (tgt := 85) C dX10_layFree_41 (by decide) (fun q1 => ?_) (fun q1 => ?_)
    · refine s_aload_n C dX10_layFree_85 rfl ?_
      refine s_getr (k := 56) (j := 114) C y71 fw_X10_144 rfl dX10_layFree_86 ?_
      refine s_iload_n C dX10_layFree_89 rfl ?_
      refine s_iload_n C dX10_layFree_90 rfl ?_
      refine s_if_eq (tgt := 107) C dX10_layFree_91 (by decide) (fun q2 => ?_) (fun q2 => ?_)
      · refine s_iconst C dX10_layFree_107 (by decide) (fun z3 tz3 => ?_)
        refine s_zast C y114 (by omega) (by omega) dX10_layFree_108 ?_
        refine s_iinc C dX10_layFree_109 rfl (by decide) rfl (by decide) (by omega) (fun z4 tz4 => ?_)
        show WP E ad 112 [some (.ref (ad 71)), some (.int c), some (.int z4), some (.int a), some (.int z)] [] (sV τ 114 i.toNatClampNeg z3)
        refine s_goto (tgt := 12) C dX10_layFree_112 (by decide) ?_
        refine wp_le (lv' := [some (.ref (ad 71)), some (.int c), some (.int z4), none, none]) ⟨rfl, ⟨rfl, ⟨rfl, trivial⟩⟩⟩ ?_
        exact K z3 z4 (by omega) (fun q => by first | exact absurd tz3 (by omega) | (have h5 := hg (by omega); have e5 : z.toInt = (τ.1 71 0).toInt := (by omega); rw [← e5]; exact h5)) (by omega)
      · refine s_aload_n C dX10_layFree_94 rfl ?_
        refine s_getr (k := 54) (j := 113) C y71 fw_X10_141 rfl dX10_layFree_95 ?_
        refine s_iload_n C dX10_layFree_98 rfl ?_
        refine s_zald (r := (τ.1 113 i.toNatClampNeg)) C y113 (by omega) rfl dX10_layFree_99 ?_
        refine s_if_ne (tgt := 107) C dX10_layFree_100 (by decide) (fun q5 => ?_) (fun q5 => ?_)
        · refine s_iconst C dX10_layFree_107 (by decide) (fun z6 tz6 => ?_)
          refine s_zast C y114 (by omega) (by omega) dX10_layFree_108 ?_
          refine s_iinc C dX10_layFree_109 rfl (by decide) rfl (by decide) (by omega) (fun z7 tz7 => ?_)
          show WP E ad 112 [some (.ref (ad 71)), some (.int c), some (.int z7), some (.int a), some (.int z)] [] (sV τ 114 i.toNatClampNeg z6)
          refine s_goto (tgt := 12) C dX10_layFree_112 (by decide) ?_
          refine wp_le (lv' := [some (.ref (ad 71)), some (.int c), some (.int z7), none, none]) ⟨rfl, ⟨rfl, ⟨rfl, trivial⟩⟩⟩ ?_
          exact K z6 z7 (by omega) (fun q => by first | exact absurd tz6 (by omega) | (have h5 := hg (by omega); have e5 : z.toInt = (τ.1 71 0).toInt := (by omega); rw [← e5]; exact h5)) (by omega)
        · refine s_iconst C dX10_layFree_103 (by decide) (fun z8 tz8 => ?_)
          refine s_goto (tgt := 108) C dX10_layFree_104 (by decide) ?_
          refine s_zast C y114 (by omega) (by omega) dX10_layFree_108 ?_
          refine s_iinc C dX10_layFree_109 rfl (by decide) rfl (by decide) (by omega) (fun z9 tz9 => ?_)
          show WP E ad 112 [some (.ref (ad 71)), some (.int c), some (.int z9), some (.int a), some (.int z)] [] (sV τ 114 i.toNatClampNeg z8)
          refine s_goto (tgt := 12) C dX10_layFree_112 (by decide) ?_
          refine wp_le (lv' := [some (.ref (ad 71)), some (.int c), some (.int z9), none, none]) ⟨rfl, ⟨rfl, ⟨rfl, trivial⟩⟩⟩ ?_
          exact K z8 z9 (by omega) (fun q => by first | exact absurd tz8 (by omega) | (have h5 := hg (by omega); have e5 : z.toInt = (τ.1 71 0).toInt := (by omega); rw [← e5]; exact h5)) (by omega)
    · refine s_iload_n C dX10_layFree_44 rfl ?_
      refine s_if_ne (tgt := 73) C dX10_layFree_45 (by decide) (fun q10 => ?_) (fun q10 => ?_)
      · refine s_iconst C dX10_layFree_73 (by decide) (fun z11 tz11 => ?_)
        refine s_goto (tgt := 78) C dX10_layFree_74 (by decide) ?_
        refine s_istore_n C dX10_layFree_78 (by decide) (Nat.le_of_ble_eq_true rfl) rfl ?_
        show WP E ad 79 [some (.ref (ad 71)), some (.int c), some (.int i), some (.int z11), some (.int z)] [] τ
        refine s_iinc C dX10_layFree_79 rfl (by decide) rfl (by decide) (by omega) (fun z12 tz12 => ?_)
        show WP E ad 82 [some (.ref (ad 71)), some (.int c), some (.int i), some (.int z11), some (.int z12)] [] τ
        refine s_goto (tgt := 35) C dX10_layFree_82 (by decide) ?_
        exact ih z11 z12 (by omega) (fun q => by first | (exact absurd tz11 (by omega)) | (exact fg_mono (hg (by omega)) (by omega)) | (exact Or.inr ⟨z.toInt.toNat, by omega, by rw [← h21.1.2]; omega, by rw [← h21.1.2]; exact q22⟩)) (by omega) (by omega)
      · refine s_aload_n C dX10_layFree_48 rfl ?_
        refine s_iload_n C dX10_layFree_49 rfl ?_
        refine s_iload C dX10_layFree_50 rfl ?_
        refine s_callVI (st := []) C (c_X10_nextBy l ad τ i z kI hL (by omega) (by omega)) cv_X10_229 y71 rfl rfl rfl ⟨by decide, by decide⟩ (Nat.le_of_ble_eq_true rfl) dX10_layFree_52 ?_
        intro r13 τ14 h15
        obtain ⟨eh15, h15⟩ := h15; replace eh15 := eh15.symm; subst eh15
        refine s_if_lt (tgt := 77) C dX10_layFree_55 (by decide) (fun q16 => ?_) (fun q16 => ?_)
        · refine s_iconst C dX10_layFree_77 (by decide) (fun z17 tz17 => ?_)
          refine s_istore_n C dX10_layFree_78 (by decide) (Nat.le_of_ble_eq_true rfl) rfl ?_
          show WP E ad 79 [some (.ref (ad 71)), some (.int c), some (.int i), some (.int z17), some (.int z)] [] τ
          refine s_iinc C dX10_layFree_79 rfl (by decide) rfl (by decide) (by omega) (fun z18 tz18 => ?_)
          show WP E ad 82 [some (.ref (ad 71)), some (.int c), some (.int i), some (.int z17), some (.int z18)] [] τ
          refine s_goto (tgt := 35) C dX10_layFree_82 (by decide) ?_
          exact ih z17 z18 (by omega) (fun q => by first | (exact absurd tz17 (by omega)) | (exact fg_mono (hg (by omega)) (by omega)) | (exact Or.inr ⟨z.toInt.toNat, by omega, by rw [← h21.1.2]; omega, by rw [← h21.1.2]; exact q22⟩)) (by omega) (by omega)
        · refine s_aload_n C dX10_layFree_58 rfl ?_
          refine s_getr (k := 56) (j := 114) C y71 fw_X10_144 rfl dX10_layFree_59 ?_
          refine s_aload_n C dX10_layFree_62 rfl ?_
          refine s_iload_n C dX10_layFree_63 rfl ?_
          refine s_iload C dX10_layFree_64 rfl ?_
          refine s_callVI (st := [.ref (ad 114)]) C (c_X10_nextBy l ad τ i z kI hL (by omega) (by omega)) cv_X10_229 y71 rfl rfl rfl ⟨by decide, by decide⟩ (Nat.le_of_ble_eq_true rfl) dX10_layFree_66 ?_
          intro r19 τ20 h21
          obtain ⟨eh21, h21⟩ := h21; replace eh21 := eh21.symm; subst eh21
          refine s_zald (r := (τ.1 114 r19.toNatClampNeg)) C y114 (by omega) rfl dX10_layFree_69 ?_
          refine s_if_eq (tgt := 77) C dX10_layFree_70 (by decide) (fun q22 => ?_) (fun q22 => ?_)
          · refine s_iconst C dX10_layFree_77 (by decide) (fun z23 tz23 => ?_)
            refine s_istore_n C dX10_layFree_78 (by decide) (Nat.le_of_ble_eq_true rfl) rfl ?_
            show WP E ad 79 [some (.ref (ad 71)), some (.int c), some (.int i), some (.int z23), some (.int z)] [] τ
            refine s_iinc C dX10_layFree_79 rfl (by decide) rfl (by decide) (by omega) (fun z24 tz24 => ?_)
            show WP E ad 82 [some (.ref (ad 71)), some (.int c), some (.int i), some (.int z23), some (.int z24)] [] τ
            refine s_goto (tgt := 35) C dX10_layFree_82 (by decide) ?_
            exact ih z23 z24 (by omega) (fun q => by first | (exact absurd tz23 (by omega)) | (exact fg_mono (hg (by omega)) (by omega)) | (exact Or.inr ⟨z.toInt.toNat, by omega, by rw [← h21.1.2]; omega, by rw [← h21.1.2]; exact q22⟩)) (by omega) (by omega)
          · refine s_iconst C dX10_layFree_73 (by decide) (fun z25 tz25 => ?_)
            refine s_goto (tgt := 78) C dX10_layFree_74 (by decide) ?_
            refine s_istore_n C dX10_layFree_78 (by decide) (Nat.le_of_ble_eq_true rfl) rfl ?_
            show WP E ad 79 [some (.ref (ad 71)), some (.int c), some (.int i), some (.int z25), some (.int z)] [] τ
            refine s_iinc C dX10_layFree_79 rfl (by decide) rfl (by decide) (by omega) (fun z26 tz26 => ?_)
            show WP E ad 82 [some (.ref (ad 71)), some (.int c), some (.int i), some (.int z25), some (.int z26)] [] τ
            refine s_goto (tgt := 35) C dX10_layFree_82 (by decide) ?_
            exact ih z25 z26 (by omega) (fun q => by first | (exact absurd tz25 (by omega)) | (exact fg_mono (hg (by omega)) (by omega)) | (exact Or.inr ⟨z.toInt.toNat, by omega, by rw [← h21.1.2]; omega, by rw [← h21.1.2]; exact q22⟩)) (by omega) (by omega)
set_option maxHeartbeats 10000000 in
set_option maxRecDepth 100000 in
theorem L_layFree12 (l : Launch) (ad : Nat → Nat) (E : Ev) (σ : Sg) (c : Int32) (C : Cx E l (rmk 7) 5 cX10_layFree RX10) (X : Rx E ad (some .boolean) (oI (fun r τ => IM τ.1 ∧ ¬ (τ.1 71 39).toInt = 0 ∧ Fr [103, 104, 105, 106, 110, 111, 112, 113, 114] [(71, 39), (71, 40), (71, 47), (71, 53), (71, 55)] σ τ ∧ FO τ.1 0 ∧ (r.toInt = 0 ∨ r.toInt = 1) ∧ r = τ.1 114 0)))  : ∀ (n : Nat) (τ : Sg) (z : Int32), (Fr [103, 104, 105, 106, 110, 111, 112, 113, 114] [(71, 39), (71, 40), (71, 47), (71, 53), (71, 55)] σ τ) → (IM τ.1) → (¬ (τ.1 71 39).toInt = 0) → (-1 ≤ z.toInt ∧ z.toInt < (τ.1 71 40).toInt) → (FO τ.1 (z.toInt + 1)) → (1 ≤ (τ.1 71 40).toInt) → (z.toInt + 1).toNat < n → WP E ad 12 [some (.ref (ad 71)), some (.int c), some (.int z), none, none] [] τ := by
  intro n
  induction n with
  | zero => intro τ z kF kI hL h0 kO hc1 hm9; exact absurd hm9 (Nat.not_lt_zero _)
  | succ n ih =>
    intro τ z kF kI hL h0 kO hc1 hm9
    have hpr := kI.pr
    have hcb := kI.cu.1
    refine s_iload_n C dX10_layFree_12 rfl ?_
    refine s_if_lt (tgt := 115) C dX10_layFree_13 (by decide) (fun q1 => ?_) (fun q1 => ?_)
    · have hO := kO 0 (by omega) (by omega)
      refine s_aload_n C dX10_layFree_115 rfl ?_
      refine s_getr (k := 56) (j := 114) C y71 fw_X10_144 rfl dX10_layFree_116 ?_
      refine s_iconst C dX10_layFree_119 (by decide) (fun z2 tz2 => ?_)
      have hz0 : z2.toNatClampNeg = 0 := by unfold Int32.toNatClampNeg; omega
      refine s_zald (r := (τ.1 114 z2.toNatClampNeg)) C y114 (by omega) rfl dX10_layFree_120 ?_
      have hO2 : (τ.1 114 z2.toNatClampNeg).toInt = 0 ∨ (τ.1 114 z2.toNatClampNeg).toInt = 1 := by rw [hz0]; exact hO.1
      exact s_zret C (by omega) X dX10_layFree_121 ⟨kI, hL, kF, (by rw [show (0 : Int) = z.toInt + 1 by omega]; exact kO), hO2, by rw [hz0]⟩
    · refine s_iload_n C dX10_layFree_16 rfl ?_
      refine s_aload_n C dX10_layFree_17 rfl ?_
      refine s_get (k := 40) (x := (τ.1 71 40)) C y71 fw_X10_208 rfl rfl dX10_layFree_18 ?_
      refine s_iconst C dX10_layFree_21 (by decide) (fun z3 tz3 => ?_)
      refine s_isub C dX10_layFree_22 (by omega) (fun z4 tz4 => ?_)
      refine s_icmp_ne (tgt := 30) C dX10_layFree_23 (by decide) (fun q5 => ?_) (fun q5 => ?_)
      · refine s_iconst C dX10_layFree_30 (by decide) (fun z6 tz6 => ?_)
        refine s_istore_n C dX10_layFree_31 (by decide) (Nat.le_of_ble_eq_true rfl) rfl ?_
        show WP E ad 32 [some (.ref (ad 71)), some (.int c), some (.int z), some (.int z6), none] [] τ
        refine s_iconst C dX10_layFree_32 (by decide) (fun z7 tz7 => ?_)
        refine s_istore C dX10_layFree_33 (by decide) (Nat.le_of_ble_eq_true rfl) rfl ?_
        show WP E ad 35 [some (.ref (ad 71)), some (.int c), some (.int z), some (.int z6), some (.int z7)] [] τ
        exact L_layFree35 l ad E σ τ kI hL c z (by omega) C X (fun v i2 hv hg hi2 => ih (sV τ 114 z.toNatClampNeg v) i2 (Fr.sV kF (Or.inl (by decide))) kI hL (by show -1 ≤ i2.toInt ∧ i2.toInt < (τ.1 71 40).toInt; omega) (by rw [show i2.toInt + 1 = ((z.toNatClampNeg : Nat) : Int) by unfold Int32.toNatClampNeg; omega]; exact fo_step (lo := z.toInt + 1) kI hL (by unfold Int32.toNatClampNeg; omega) kO (by unfold Int32.toNatClampNeg; omega) hv hg) hc1 (by omega)) 100 z6 z7 (by omega) (fun q => by first | exact absurd tz6 (by omega) | exact Or.inl (by omega)) (by omega) (by omega)
      · refine s_iconst C dX10_layFree_26 (by decide) (fun z8 tz8 => ?_)
        refine s_goto (tgt := 31) C dX10_layFree_27 (by decide) ?_
        refine s_istore_n C dX10_layFree_31 (by decide) (Nat.le_of_ble_eq_true rfl) rfl ?_
        show WP E ad 32 [some (.ref (ad 71)), some (.int c), some (.int z), some (.int z8), none] [] τ
        refine s_iconst C dX10_layFree_32 (by decide) (fun z9 tz9 => ?_)
        refine s_istore C dX10_layFree_33 (by decide) (Nat.le_of_ble_eq_true rfl) rfl ?_
        show WP E ad 35 [some (.ref (ad 71)), some (.int c), some (.int z), some (.int z8), some (.int z9)] [] τ
        exact L_layFree35 l ad E σ τ kI hL c z (by omega) C X (fun v i2 hv hg hi2 => ih (sV τ 114 z.toNatClampNeg v) i2 (Fr.sV kF (Or.inl (by decide))) kI hL (by show -1 ≤ i2.toInt ∧ i2.toInt < (τ.1 71 40).toInt; omega) (by rw [show i2.toInt + 1 = ((z.toNatClampNeg : Nat) : Int) by unfold Int32.toNatClampNeg; omega]; exact fo_step (lo := z.toInt + 1) kI hL (by unfold Int32.toNatClampNeg; omega) kO (by unfold Int32.toNatClampNeg; omega) hv hg) hc1 (by omega)) 100 z8 z9 (by omega) (fun q => by first | exact absurd tz8 (by omega) | exact Or.inl (by omega)) (by omega) (by omega)
set_option maxHeartbeats 10000000 in
set_option maxRecDepth 100000 in
theorem c_X10_layFree (l : Launch) (ad : Nat → Nat) (σ : Sg) (c : Int32) (hI : IM σ.1) (hc : 0 ≤ c.toInt ∧ c.toInt ≤ 2) (ht : 0 < (σ.1 84 c.toNatClampNeg).toInt) : Mt l yX10_layFree cX10_layFree 5 (some .boolean) 7 ad σ [.ref (ad 71), .int c] (oI (fun r τ => IM τ.1 ∧ ¬ (τ.1 71 39).toInt = 0 ∧ Fr [103, 104, 105, 106, 110, 111, 112, 113, 114] [(71, 39), (71, 40), (71, 47), (71, 53), (71, 55)] σ τ ∧ FO τ.1 0 ∧ (r.toInt = 0 ∨ r.toInt = 1) ∧ r = τ.1 114 0)) := by
  refine Mt_intro (by decide +kernel) (by simp [lg_sl, Value.category]) (fun E C X => ?_)
  show WP E ad 0 [some (.ref (ad 71)), some (.int c), none, none, none] [] σ
  refine s_aload_n C dX10_layFree_0 rfl ?_
  refine s_iload_n C dX10_layFree_1 rfl ?_
  refine s_callVV (st := []) C (c_X10_layMet l ad σ c hI (by omega) (by omega)) cv_X10_301 y71 rfl rfl rfl ⟨by decide, by decide⟩ (Nat.le_of_ble_eq_true rfl) dX10_layFree_2 ?_
  intro τ2 h3
  have hIτ2 := h3.1
  have hLτ2 := h3.2.1
  have hcb := hIτ2.cu.1
  have hc1 := (hIτ2.cu.2.2.2.2 hLτ2).1
  refine s_aload_n C dX10_layFree_5 rfl ?_
  refine s_get (k := 40) (x := (τ2.1 71 40)) C y71 fw_X10_208 rfl rfl dX10_layFree_6 ?_
  refine s_iconst C dX10_layFree_9 (by decide) (fun z4 tz4 => ?_)
  refine s_isub C dX10_layFree_10 (by omega) (fun z5 tz5 => ?_)
  refine s_istore_n C dX10_layFree_11 (by decide) (Nat.le_of_ble_eq_true rfl) rfl ?_
  show WP E ad 12 [some (.ref (ad 71)), some (.int c), some (.int z5), none, none] [] τ2
  exact L_layFree12 l ad E σ c C X 5000 τ2 z5 (Fr.tr Fr.rf (Fr.mo h3.2.2 (by decide) (by decide))) hIτ2 hLτ2 (by omega) (fun j h1 h2 => by omega) (by omega) (by omega)
set_option maxHeartbeats 10000000 in
set_option maxRecDepth 100000 in
theorem c_X10_sure (l : Launch) (ad : Nat → Nat) (σ : Sg) (c : Int32) (hI : IM σ.1) : Mt l yX10_sure cX10_sure 3 (some .int) 8 ad σ [.ref (ad 71), .int c] (oI (fun r τ => IM τ.1 ∧ Fr [103, 104, 105, 106, 110, 111, 112, 113, 114] [(71, 39), (71, 40), (71, 47), (71, 53), (71, 55)] σ τ ∧ True)) := by
  refine Mt_intro (by decide +kernel) (by simp [lg_sl, Value.category]) (fun E C X => ?_)
  show WP E ad 0 [some (.ref (ad 71)), some (.int c), none] [] σ
  refine s_aload_n C dX10_sure_0 rfl ?_
  refine s_iload_n C dX10_sure_1 rfl ?_
  refine s_callVI (st := []) C (c_X10_wrongCondition l ad σ c hI) cv_X10_305 y71 rfl rfl rfl ⟨by decide, by decide⟩ (Nat.le_of_ble_eq_true rfl) dX10_sure_2 ?_
  intro r1 τ2 h3
  obtain ⟨eh3, h3⟩ := h3; replace eh3 := eh3.symm; subst eh3
  refine s_istore_n C dX10_sure_5 (by decide) (Nat.le_of_ble_eq_true rfl) rfl ?_
  show WP E ad 6 [some (.ref (ad 71)), some (.int c), some (.int r1)] [] σ
  refine s_iload_n C dX10_sure_6 rfl ?_
  refine s_if_ge (tgt := 12) C dX10_sure_7 (by decide) (fun q4 => ?_) (fun q4 => ?_)
  · refine s_aload_n C dX10_sure_12 rfl ?_
    refine s_iload_n C dX10_sure_13 rfl ?_
    refine s_callVI (st := []) C (c_X10_layFree l ad σ c hI (by omega) (by omega)) cv_X10_308 y71 rfl rfl rfl ⟨by decide, by decide⟩ (Nat.le_of_ble_eq_true rfl) dX10_sure_14 ?_
    intro r5 τ6 h7
    have hIτ6 := h7.1
    have hLτ6 := h7.2.1
    have hOτ6 := h7.2.2.2.1
    have hBτ6 := h7.2.2.2.2.1
    have hEτ6 := h7.2.2.2.2.2
    refine s_if_eq (tgt := 24) C dX10_sure_17 (by decide) (fun q8 => ?_) (fun q8 => ?_)
    · refine s_iconst C dX10_sure_24 (by decide) (fun z9 tz9 => ?_)
      exact s_iret C X dX10_sure_25 ⟨hIτ6, (Fr.tr Fr.rf (Fr.mo h7.2.2.1 (by decide) (by decide))), trivial⟩
    · refine s_iconst C dX10_sure_20 (by decide) (fun z10 tz10 => ?_)
      refine s_goto (tgt := 25) C dX10_sure_21 (by decide) ?_
      exact s_iret C X dX10_sure_25 ⟨hIτ6, (Fr.tr Fr.rf (Fr.mo h7.2.2.1 (by decide) (by decide))), trivial⟩
  · refine s_iload_n C dX10_sure_10 rfl ?_
    exact s_iret C X dX10_sure_11 ⟨hI, Fr.rf, trivial⟩
set_option maxHeartbeats 10000000 in
set_option maxRecDepth 100000 in
theorem L_around64 (l : Launch) (ad : Nat → Nat) (E : Ev) (σ τ : Sg) (kF : Fr [103, 104, 105, 106, 110, 111, 112, 113, 114] [(71, 39), (71, 40), (71, 47), (71, 53), (71, 55)] σ τ) (kI : IM τ.1) (hL : ¬ (τ.1 71 39).toInt = 0) (kO : FO τ.1 0) (c k : Int32) (a n0 : Int32) (ha : 0 ≤ a.toInt ∧ a.toInt < (τ.1 71 40).toInt) (hn : 0 ≤ n0.toInt ∧ n0.toInt ≤ 20) (C : Cx E l (rmk 8) 6 cX10_around RX10) (X : Rx E ad (some .int) (oI (fun r τ => IM τ.1 ∧ Fr [103, 104, 105, 106, 110, 111, 112, 113, 114] [(71, 39), (71, 40), (71, 47), (71, 53), (71, 55)] σ τ ∧ True))) (K : ∀ a2 n2 : Int32, n2.toInt = n0.toInt + 1 → 0 ≤ a2.toInt → a2.toInt < (τ.1 71 40).toInt → ¬ (τ.1 114 a2.toInt.toNat).toInt = 0 → lvl4 τ.1 a2.toInt.toNat = lvl4 τ.1 a.toInt.toNat + 1 → WP E ad 52 [some (.ref (ad 71)), some (.int c), some (.int k), some (.int a2), some (.int n2), none] [] τ) : ∀ (n : Nat) (z : Int32), (∃ p : Nat, z.toInt ≤ (p : Int) ∧ (p : Int) < (τ.1 71 0).toInt ∧ 0 ≤ nx τ.1 a.toInt.toNat p ∧ ¬ (τ.1 114 (nx τ.1 a.toInt.toNat p).toNat).toInt = 0) → (0 ≤ z.toInt) → (4 - z.toInt).toNat < n → WP E ad 64 [some (.ref (ad 71)), some (.int c), some (.int k), some (.int a), some (.int n0), some (.int z)] [] τ := by
  intro n
  induction n with
  | zero => intro z hx h0 hm9; exact absurd hm9 (Nat.not_lt_zero _)
  | succ n ih =>
    intro z hx h0 hm9
    have hpr := kI.pr
    have hcb := kI.cu.1
    have hzp : z.toInt < (τ.1 71 0).toInt := hx.elim (fun p hp => by omega)
    refine s_aload_n C dX10_around_64 rfl ?_
    refine s_iload_n C dX10_around_65 rfl ?_
    refine s_iload C dX10_around_66 rfl ?_
    refine s_callVI (st := []) C (c_X10_nextBy l ad τ a z kI hL (by omega) (by omega)) cv_X10_229 y71 rfl rfl rfl ⟨by decide, by decide⟩ (Nat.le_of_ble_eq_true rfl) dX10_around_68 ?_
    intro r1 τ2 h3
    obtain ⟨eh3, h3⟩ := h3; replace eh3 := eh3.symm; subst eh3
    refine s_if_lt (tgt := 89) C dX10_around_71 (by decide) (fun q4 => ?_) (fun q4 => ?_)
    · refine s_iinc C dX10_around_89 rfl (by decide) rfl (by decide) (by omega) (fun z5 tz5 => ?_)
      show WP E ad 92 [some (.ref (ad 71)), some (.int c), some (.int k), some (.int a), some (.int n0), some (.int z5)] [] τ
      refine s_goto (tgt := 64) C dX10_around_92 (by decide) ?_
      exact ih z5 (hx.elim (fun p hp => ⟨p, by rcases Int.lt_or_le (p : Int) z5.toInt with q | q; (have e : p = z.toInt.toNat := (by omega); rw [e, ← h3.1.2] at hp; omega); exact q, hp.2⟩)) (by omega) (by omega)
    · refine s_aload_n C dX10_around_74 rfl ?_
      refine s_getr (k := 56) (j := 114) C y71 fw_X10_144 rfl dX10_around_75 ?_
      refine s_aload_n C dX10_around_78 rfl ?_
      refine s_iload_n C dX10_around_79 rfl ?_
      refine s_iload C dX10_around_80 rfl ?_
      refine s_callVI (st := [.ref (ad 114)]) C (c_X10_nextBy l ad τ a z kI hL (by omega) (by omega)) cv_X10_229 y71 rfl rfl rfl ⟨by decide, by decide⟩ (Nat.le_of_ble_eq_true rfl) dX10_around_82 ?_
      intro r6 τ7 h8
      obtain ⟨eh8, h8⟩ := h8; replace eh8 := eh8.symm; subst eh8
      refine s_zald (r := (τ.1 114 r6.toNatClampNeg)) C y114 (by omega) rfl dX10_around_85 ?_
      refine s_if_ne (tgt := 95) C dX10_around_86 (by decide) (fun q9 => ?_) (fun q9 => ?_)
      · refine s_iload C dX10_around_95 rfl ?_
        refine s_iload_n C dX10_around_97 rfl ?_
        refine s_icmp_ne (tgt := 104) C dX10_around_98 (by decide) (fun q10 => ?_) (fun q10 => ?_)
        · refine s_aload_n C dX10_around_104 rfl ?_
          refine s_iload_n C dX10_around_105 rfl ?_
          refine s_iload C dX10_around_106 rfl ?_
          refine s_callVI (st := []) C (c_X10_nextBy l ad τ a z kI hL (by omega) (by omega)) cv_X10_229 y71 rfl rfl rfl ⟨by decide, by decide⟩ (Nat.le_of_ble_eq_true rfl) dX10_around_108 ?_
          intro r11 τ12 h13
          obtain ⟨eh13, h13⟩ := h13; replace eh13 := eh13.symm; subst eh13
          refine s_istore_n C dX10_around_111 (by decide) (Nat.le_of_ble_eq_true rfl) rfl ?_
          show WP E ad 112 [some (.ref (ad 71)), some (.int c), some (.int k), some (.int r11), some (.int n0), some (.int z)] [] τ
          refine s_iinc C dX10_around_112 rfl (by decide) rfl (by decide) (by omega) (fun z14 tz14 => ?_)
          show WP E ad 115 [some (.ref (ad 71)), some (.int c), some (.int k), some (.int r11), some (.int z14), some (.int z)] [] τ
          refine s_goto (tgt := 52) C dX10_around_115 (by decide) ?_
          refine wp_le (lv' := [some (.ref (ad 71)), some (.int c), some (.int k), some (.int r11), some (.int z14), none]) ⟨rfl, ⟨rfl, ⟨rfl, ⟨rfl, ⟨rfl, trivial⟩⟩⟩⟩⟩ ?_
          have hq3 := h13.2 (by omega)
          exact K r11 z14 (by omega) (by omega) (by omega) (by rw [show r11.toInt.toNat = r6.toNatClampNeg by unfold Int32.toNatClampNeg; omega]; exact q9) (lvl4_next (P := z.toInt.toNat) (by omega) hq3.2.2)
        · refine s_iload C dX10_around_101 rfl ?_
          exact s_iret C X dX10_around_103 ⟨kI, kF, trivial⟩
      · refine s_iinc C dX10_around_89 rfl (by decide) rfl (by decide) (by omega) (fun z15 tz15 => ?_)
        show WP E ad 92 [some (.ref (ad 71)), some (.int c), some (.int k), some (.int a), some (.int n0), some (.int z15)] [] τ
        refine s_goto (tgt := 64) C dX10_around_92 (by decide) ?_
        exact ih z15 (hx.elim (fun p hp => ⟨p, by rcases Int.lt_or_le (p : Int) z15.toInt with q | q; (have e : p = z.toInt.toNat := (by omega); rw [e, ← h8.1.2] at hp; exact absurd q9 hp.2.2.2); exact q, hp.2⟩)) (by omega) (by omega)
set_option maxHeartbeats 10000000 in
set_option maxRecDepth 100000 in
theorem L_around52 (l : Launch) (ad : Nat → Nat) (E : Ev) (σ τ : Sg) (kF : Fr [103, 104, 105, 106, 110, 111, 112, 113, 114] [(71, 39), (71, 40), (71, 47), (71, 53), (71, 55)] σ τ) (kI : IM τ.1) (hL : ¬ (τ.1 71 39).toInt = 0) (kO : FO τ.1 0) (c k : Int32) (C : Cx E l (rmk 8) 6 cX10_around RX10) (X : Rx E ad (some .int) (oI (fun r τ => IM τ.1 ∧ Fr [103, 104, 105, 106, 110, 111, 112, 113, 114] [(71, 39), (71, 40), (71, 47), (71, 53), (71, 55)] σ τ ∧ True)))  : ∀ (n : Nat) (a : Int32) (z : Int32), (0 ≤ a.toInt ∧ a.toInt < (τ.1 71 40).toInt) → (0 ≤ z.toInt) → (¬ (τ.1 114 a.toInt.toNat).toInt = 0) → (lvl4 τ.1 a.toInt.toNat = z.toInt) → (21 - z.toInt).toNat < n → WP E ad 52 [some (.ref (ad 71)), some (.int c), some (.int k), some (.int a), some (.int z), none] [] τ := by
  intro n
  induction n with
  | zero => intro a z ha h0 hf hv hm9; exact absurd hm9 (Nat.not_lt_zero _)
  | succ n ih =>
    intro a z ha h0 hf hv hm9
    have htot := kI.tot
    refine s_iload C dX10_around_52 rfl ?_
    refine s_aload_n C dX10_around_54 rfl ?_
    refine s_get (k := 8) (x := (τ.1 71 8)) C y71 fw_X10_175 rfl rfl dX10_around_55 ?_
    refine s_icmp_ge (tgt := 118) C dX10_around_58 (by decide) (fun q1 => ?_) (fun q1 => ?_)
    · refine s_bipush C dX10_around_118 (by decide) (fun z2 tz2 => ?_)
      exact s_iret C X dX10_around_120 ⟨kI, kF, trivial⟩
    · refine s_iconst C dX10_around_61 (by decide) (fun z3 tz3 => ?_)
      refine s_istore C dX10_around_62 (by decide) (Nat.le_of_ble_eq_true rfl) rfl ?_
      show WP E ad 64 [some (.ref (ad 71)), some (.int c), some (.int k), some (.int a), some (.int z), some (.int z3)] [] τ
      have hnl : ¬ ((a.toInt.toNat : Nat) : Int) = (τ.1 71 40).toInt - 1 := fun q => by have := cu_all kI hL q; unfold lvl4 at hv; omega
      have hF := ((kO a.toInt.toNat (by omega) (by omega)).2 hf).resolve_left hnl
      exact L_around64 l ad E σ τ kF kI hL kO c k a z (by omega) (by omega) C X (fun a2 n2 h1 h2 h3 h4 h5 => ih a2 n2 (by omega) (by omega) h4 (by omega) (by omega)) 100 z3 (hF.elim (fun p hp => ⟨p, by omega, hp⟩)) (by omega) (by omega)
set_option maxHeartbeats 10000000 in
set_option maxRecDepth 100000 in
theorem c_X10_around (l : Launch) (ad : Nat → Nat) (σ : Sg) (c k : Int32) (hI : IM σ.1) : Mt l yX10_around cX10_around 6 (some .int) 8 ad σ [.ref (ad 71), .int c, .int k] (oI (fun r τ => IM τ.1 ∧ Fr [103, 104, 105, 106, 110, 111, 112, 113, 114] [(71, 39), (71, 40), (71, 47), (71, 53), (71, 55)] σ τ ∧ True)) := by
  refine Mt_intro (by decide +kernel) (by simp [lg_sl, Value.category]) (fun E C X => ?_)
  show WP E ad 0 [some (.ref (ad 71)), some (.int c), some (.int k), none, none, none] [] σ
  refine s_iload_n C dX10_around_0 rfl ?_
  refine s_callSI (st := []) C (c_X10_isCondition l ad σ c ) cv_X10_274 rfl rfl ⟨by decide, by decide⟩ (Nat.le_of_ble_eq_true rfl) dX10_around_1 ?_
  intro r1 τ2 h3
  obtain ⟨eh3, h3⟩ := h3; replace eh3 := eh3.symm; subst eh3
  refine s_if_eq (tgt := 12) C dX10_around_4 (by decide) (fun q4 => ?_) (fun q4 => ?_)
  · refine s_iconst C dX10_around_12 (by decide) (fun z5 tz5 => ?_)
    exact s_iret C X dX10_around_13 ⟨hI, Fr.rf, trivial⟩
  · refine s_iload_n C dX10_around_7 rfl ?_
    refine s_iconst C dX10_around_8 (by decide) (fun z6 tz6 => ?_)
    refine s_icmp_ge (tgt := 14) C dX10_around_9 (by decide) (fun q7 => ?_) (fun q7 => ?_)
    · refine s_aload_n C dX10_around_14 rfl ?_
      refine s_getr (k := 15) (j := 84) C y71 fw_X10_52 rfl dX10_around_15 ?_
      refine s_iload_n C dX10_around_18 rfl ?_
      refine s_iald (r := (σ.1 84 c.toNatClampNeg)) C y84 (by omega) rfl dX10_around_19 ?_
      have b8 := hI.tm c.toNatClampNeg
      refine s_if_ne (tgt := 26) C dX10_around_20 (by decide) (fun q9 => ?_) (fun q9 => ?_)
      · refine s_aload_n C dX10_around_26 rfl ?_
        refine s_iload_n C dX10_around_27 rfl ?_
        refine s_callVI (st := []) C (c_X10_layFree l ad σ c hI (by omega) (by omega)) cv_X10_308 y71 rfl rfl rfl ⟨by decide, by decide⟩ (Nat.le_of_ble_eq_true rfl) dX10_around_28 ?_
        intro r10 τ11 h12
        have hIτ11 := h12.1
        have hLτ11 := h12.2.1
        have hOτ11 := h12.2.2.2.1
        have hBτ11 := h12.2.2.2.2.1
        have hEτ11 := h12.2.2.2.2.2
        refine s_if_ne (tgt := 37) C dX10_around_31 (by decide) (fun q13 => ?_) (fun q13 => ?_)
        · refine s_iload_n C dX10_around_37 rfl ?_
          refine s_iconst C dX10_around_38 (by decide) (fun z14 tz14 => ?_)
          refine s_icmp_ne (tgt := 47) C dX10_around_39 (by decide) (fun q15 => ?_) (fun q15 => ?_)
          · refine s_iconst C dX10_around_47 (by decide) (fun z16 tz16 => ?_)
            refine s_istore_n C dX10_around_48 (by decide) (Nat.le_of_ble_eq_true rfl) rfl ?_
            show WP E ad 49 [some (.ref (ad 71)), some (.int c), some (.int k), some (.int z16), none, none] [] τ11
            refine s_iconst C dX10_around_49 (by decide) (fun z17 tz17 => ?_)
            refine s_istore C dX10_around_50 (by decide) (Nat.le_of_ble_eq_true rfl) rfl ?_
            show WP E ad 52 [some (.ref (ad 71)), some (.int c), some (.int k), some (.int z16), some (.int z17), none] [] τ11
            have hc1 := (hIτ11.cu.2.2.2.2 hLτ11).1
            exact L_around52 l ad E σ τ11 (Fr.tr Fr.rf (Fr.mo h12.2.2.1 (by decide) (by decide))) hIτ11 hLτ11 hOτ11 c k C X 100 z16 z17 (by omega) (by omega) (by rw [show z16.toInt.toNat = 0 by omega, ← hEτ11]; omega) (by rw [show z16.toInt.toNat = 0 by omega, cu_first hIτ11 hLτ11]; omega) (by omega)
          · refine s_aload_n C dX10_around_42 rfl ?_
            refine s_get (k := 8) (x := (τ11.1 71 8)) C y71 fw_X10_175 rfl rfl dX10_around_43 ?_
            exact s_iret C X dX10_around_46 ⟨hIτ11, (Fr.tr Fr.rf (Fr.mo h12.2.2.1 (by decide) (by decide))), trivial⟩
        · refine s_bipush C dX10_around_34 (by decide) (fun z18 tz18 => ?_)
          exact s_iret C X dX10_around_36 ⟨hIτ11, (Fr.tr Fr.rf (Fr.mo h12.2.2.1 (by decide) (by decide))), trivial⟩
      · refine s_bipush C dX10_around_23 (by decide) (fun z19 tz19 => ?_)
        exact s_iret C X dX10_around_25 ⟨hI, Fr.rf, trivial⟩
    · refine s_iconst C dX10_around_12 (by decide) (fun z20 tz20 => ?_)
      exact s_iret C X dX10_around_13 ⟨hI, Fr.rf, trivial⟩
