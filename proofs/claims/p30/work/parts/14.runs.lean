/-! the log grows by one event, or loses its last -/
theorem cn_succ (o : Nat → Int32) (p : Int) (n : Nat) : cn o p (n + 1) = cn o p n + (if (o n).toInt = p then 1 else 0) := rfl
theorem cn_mono {o : Nat → Int32} {p : Int} {m n : Nat} (h : m ≤ n) : cn o p m ≤ cn o p n := by
  induction n with
  | zero => have : m = 0 := by omega
            rw [this]; exact Nat.le_refl _
  | succ n ih =>
    rcases Nat.lt_or_ge m (n + 1) with q | q
    · rw [cn_succ]; have := ih (by omega); omega
    · have : m = n + 1 := by omega
      rw [this]; exact Nat.le_refl _
theorem cn_lt {o : Nat → Int32} {p : Int} {t n : Nat} (h : t < n) (hp : (o t).toInt = p) : cn o p t + 1 ≤ cn o p n := by
  have h1 := cn_mono (o := o) (p := p) (show t + 1 ≤ n by omega)
  rw [cn_succ, if_pos hp] at h1
  exact h1
theorem cn_up {o : Nat → Int32} {p : Int} {T : Nat} {x : Int32} : ∀ {n : Nat}, n ≤ T → cn (upd o T x) p n = cn o p n
  | 0, _ => rfl
  | n + 1, h => by rw [cn_succ, cn_succ, cn_up (by omega), pk_un (by omega)]
theorem cn_kth {o : Nat → Int32} {p : Int} {k : Nat} : ∀ {n : Nat}, k < cn o p n → ∃ t, t < n ∧ (o t).toInt = p ∧ cn o p t = k
  | 0, h => absurd h (Nat.not_lt_zero _)
  | n + 1, h => by
    rw [cn_succ] at h
    rcases Nat.lt_or_ge k (cn o p n) with q | q
    · obtain ⟨t, h1, h2⟩ := cn_kth q
      exact ⟨t, by omega, h2⟩
    · by_cases e : (o n).toInt = p
      · rw [if_pos e] at h
        exact ⟨n, by omega, e, by omega⟩
      · rw [if_neg e] at h; omega
theorem cn_sum {o : Nat → Int32} (ho : ∀ j, 0 ≤ (o j).toInt ∧ (o j).toInt ≤ 3) : ∀ n : Nat, cn o 0 n + cn o 1 n + cn o 2 n + cn o 3 n = n
  | 0 => rfl
  | n + 1 => by
    have ih := cn_sum ho n
    have h := ho n
    simp only [cn_succ]
    rcases (show (o n).toInt = 0 ∨ (o n).toInt = 1 ∨ (o n).toInt = 2 ∨ (o n).toInt = 3 by omega) with e | e | e | e <;> simp [e] <;> omega
theorem sp_up {o : Nat → Int32} {T : Nat} {x : Int32} {t : Nat} (h : t < T) : sp (upd o T x) t = sp o t := by
  unfold sp
  rw [pk_un (by omega : t ≠ T), cn_up (by omega)]
theorem sd_up {o so : Nat → Int32} {T e : Nat} {x w : Int32} (he : ∀ t, t < T → sp o t ≠ e) : ∀ {n : Nat}, n ≤ T → sd (upd o T x) (upd so e w) n = sd o so n
  | 0, _ => rfl
  | n + 1, h => by
    show sd (upd o T x) (upd so e w) n + (if ((upd so e w) (sp (upd o T x) n)).toInt = 1 then 1 else 0) = sd o so n + (if (so (sp o n)).toInt = 1 then 1 else 0)
    rw [sd_up he (by omega), sp_up (by omega), pk_un (he n (by omega))]
theorem sd_succ (o so : Nat → Int32) (n : Nat) : sd o so (n + 1) = sd o so n + (if (so (sp o n)).toInt = 1 then 1 else 0) := rfl
theorem sd_mono {o so : Nat → Int32} {m n : Nat} (h : m ≤ n) : sd o so m ≤ sd o so n := by
  induction n with
  | zero => have : m = 0 := by omega
            rw [this]; exact Nat.le_refl _
  | succ n ih =>
    rcases Nat.lt_or_ge m (n + 1) with q | q
    · rw [sd_succ]; have := ih (by omega); omega
    · have : m = n + 1 := by omega
      rw [this]; exact Nat.le_refl _
theorem sd_kth {o so : Nat → Int32} {k : Nat} : ∀ {n : Nat}, k < sd o so n → ∃ t, t < n ∧ (so (sp o t)).toInt = 1 ∧ sd o so t = k
  | 0, h => absurd h (Nat.not_lt_zero _)
  | n + 1, h => by
    rw [sd_succ] at h
    rcases Nat.lt_or_ge k (sd o so n) with q | q
    · obtain ⟨t, h1, h2⟩ := sd_kth q
      exact ⟨t, by omega, h2⟩
    · by_cases e : (so (sp o n)).toInt = 1
      · rw [if_pos e] at h
        exact ⟨n, by omega, e, by omega⟩
      · rw [if_neg e] at h; omega
theorem rc_lt {pr tot ms : Int32} {ev o so ca sn se tk : Nat → Int32} (h : RC pr tot ms ev o so ca sn se tk) {p : Int32} (hp : 0 ≤ p.toInt ∧ p.toInt ≤ 3) (hf : (ev p.toNatClampNeg).toInt < 5) : tot.toInt < 20 := by
  have hs := cn_sum h.2.2.2.2.1 tot.toInt.toNat
  have e0 : (ev 0).toInt = (cn o 0 tot.toInt.toNat : Int) := h.2.2.2.2.2.1 0 (by omega)
  have e1 : (ev 1).toInt = (cn o 1 tot.toInt.toNat : Int) := h.2.2.2.2.2.1 1 (by omega)
  have e2 : (ev 2).toInt = (cn o 2 tot.toInt.toNat : Int) := h.2.2.2.2.2.1 2 (by omega)
  have e3 : (ev 3).toInt = (cn o 3 tot.toInt.toNat : Int) := h.2.2.2.2.2.1 3 (by omega)
  have b0 := h.2.2.2.1 0
  have b1 := h.2.2.2.1 1
  have b2 := h.2.2.2.1 2
  have b3 := h.2.2.2.1 3
  have ht := h.2.1
  rcases (show p.toNatClampNeg = 0 ∨ p.toNatClampNeg = 1 ∨ p.toNatClampNeg = 2 ∨ p.toNatClampNeg = 3 by unfold Int32.toNatClampNeg; omega) with e | e | e | e <;> rw [e] at hf <;> omega
/-- the place of an earlier event is not that of the next one -/
theorem sp_ne {pr tot ms : Int32} {ev o so ca sn se tk : Nat → Int32} (h : RC pr tot ms ev o so ca sn se tk) {P : Nat} (hP : P < 4) (hf : (ev P).toInt < 5) : ∀ t, t < tot.toInt.toNat → sp o t ≠ 5 * P + (ev P).toInt.toNat := by
  intro t ht
  have ho := h.2.2.2.2.1 t
  have hq := h.2.2.2.2.2.1 (o t).toInt.toNat (by omega)
  have hb := h.2.2.2.1 (o t).toInt.toNat
  have hbP := h.2.2.2.1 P
  have h1 := cn_lt ht (p := (o t).toInt) rfl
  have e1 : (((o t).toInt.toNat : Nat) : Int) = (o t).toInt := by omega
  rw [e1] at hq
  unfold sp
  by_cases e : (o t).toInt.toNat = P
  · rw [e] at hq ⊢; omega
  · omega
/-- one event more: process P, sort w, message m; ms2, sn2, se2, tk2 as the caller has them -/
theorem rc_grow {pr tot ms tot2 ms2 k p w m : Int32} {ev o so ca sn se tk sn2 se2 tk2 : Nat → Int32} (h : RC pr tot ms ev o so ca sn se tk) (hp : 0 ≤ p.toInt ∧ p.toInt ≤ 3) (hpp : p.toInt < pr.toInt) (hf : (ev p.toNatClampNeg).toInt < 5) (ht : tot2.toInt = tot.toInt + 1) (hk : k.toInt = (ev p.toNatClampNeg).toInt + 1) {e : Nat} (he : e = 5 * p.toNatClampNeg + (ev p.toNatClampNeg).toInt.toNat) (hm : w.toInt = 2 → 0 ≤ m.toInt ∧ m.toInt ≤ 7)
    (hms : ms2.toInt = ms.toInt + (if w.toInt = 1 then 1 else 0)) (hm8 : ms2.toInt ≤ 8) (hsn : ∀ j, 0 ≤ (sn2 j).toInt ∧ (sn2 j).toInt ≤ 3) (htk : ∀ j, -5 ≤ (tk2 j).toInt ∧ (tk2 j).toInt ≤ 3) (hold : ∀ j : Nat, (j : Int) < ms.toInt → sn2 j = sn j ∧ se2 j = se j) (hnew : w.toInt = 1 → (sn2 ms.toInt.toNat).toInt = p.toInt ∧ (se2 ms.toInt.toNat).toInt = k.toInt) :
    RC pr tot2 ms2 (upd ev p.toNatClampNeg k) (upd o tot.toInt.toNat p) (upd so e w) (upd ca e m) sn2 se2 tk2 := by
  have hP : p.toNatClampNeg < 4 := by unfold Int32.toNatClampNeg; omega
  have hPi : ((p.toNatClampNeg : Nat) : Int) = p.toInt := by unfold Int32.toNatClampNeg; omega
  have hlt := rc_lt h hp hf
  have hne := sp_ne h hP hf
  rw [← he] at hne
  obtain ⟨h1, h2, h3, h4, h5, h6, h7, h8, h9, h10, h11, h12⟩ := h
  have hev := h6 _ hP
  rw [hPi] at hev
  have eT : tot2.toInt.toNat = tot.toInt.toNat + 1 := by omega
  have hspT : sp (upd o tot.toInt.toNat p) tot.toInt.toNat = e := by
    unfold sp
    rw [pk_us, cn_up (Nat.le_refl _), he]
    unfold Int32.toNatClampNeg at *
    omega
  refine ⟨h1, by omega, by omega, up_iv h4 _ (by have := h4 p.toNatClampNeg; omega), up_iv h5 _ hp, fun q hq => ?_, ?_, ?_, hsn, htk, fun t htt hs => ?_, fun t htt => ?_⟩
  · rw [eT, cn_succ, cn_up (Nat.le_refl _), pk_us]
    by_cases e1 : q = p.toNatClampNeg
    · rw [e1, pk_us, hPi, if_pos rfl]; omega
    · rw [pk_un e1, if_neg (by omega), h6 q hq]; rfl
  · intro j
    by_cases e1 : j = e
    · rw [e1, pk_us, pk_us]; exact hm
    · rw [pk_un e1, pk_un e1]; exact h7 j
  · rw [eT, sd_succ, sd_up hne (Nat.le_refl _), hspT, pk_us, hms, h8]
    split <;> simp
  · rw [eT] at htt
    rcases Nat.lt_or_ge t tot.toInt.toNat with q | q
    · rw [sp_up q, pk_un (hne t q)] at hs
      rw [sd_up hne (by omega), pk_un (by omega : t ≠ tot.toInt.toNat), cn_up (by omega)]
      have hl : ((sd o so t : Nat) : Int) < ms.toInt := by
        have := sd_mono (o := o) (so := so) (show t + 1 ≤ tot.toInt.toNat by omega)
        rw [sd_succ, if_pos hs] at this
        omega
      rw [(hold _ hl).1, (hold _ hl).2]
      exact h11 t q hs
    · have et : t = tot.toInt.toNat := by omega
      subst et
      rw [hspT, pk_us] at hs
      have hn := hnew hs
      rw [sd_up hne (Nat.le_refl _), pk_us, cn_up (Nat.le_refl _)]
      have es : sd o so tot.toInt.toNat = ms.toInt.toNat := by omega
      rw [es]
      exact ⟨hn.1, by omega⟩
  · rw [eT] at htt
    by_cases q : t = tot.toInt.toNat
    · rw [q, pk_us]; exact hpp
    · rw [pk_un q]; exact h12 t (by omega)
theorem ck_grow {pr tot ms tot2 k p : Int32} {ev o so ca sn se tk ck ck2 : Nat → Int32} (h : RC pr tot ms ev o so ca sn se tk) (hc : CK tot o ck) (hp : 0 ≤ p.toInt ∧ p.toInt ≤ 3) (hf : (ev p.toNatClampNeg).toInt < 5) (ht : tot2.toInt = tot.toInt + 1) (hk : k.toInt = (ev p.toNatClampNeg).toInt + 1) {e : Nat} (he : e = 5 * p.toNatClampNeg + (ev p.toNatClampNeg).toInt.toNat) (hb : ∀ j, 0 ≤ (ck2 j).toInt ∧ (ck2 j).toInt ≤ 5) (ho : ∀ j, ¬ (4 * e ≤ j ∧ j < 4 * e + 4) → ck2 j = ck j) (hn : ∀ q : Nat, q < 4 → (ck2 (4 * e + q)).toInt ≤ (if q = p.toNatClampNeg then k.toInt else cn o q tot.toInt.toNat)) : CK tot2 (upd o tot.toInt.toNat p) ck2 := by
  have hP : p.toNatClampNeg < 4 := by unfold Int32.toNatClampNeg; omega
  have hPi : ((p.toNatClampNeg : Nat) : Int) = p.toInt := by unfold Int32.toNatClampNeg; omega
  have hne := sp_ne h hP hf
  rw [← he] at hne
  have h2 := h.2.1
  have h6 := h.2.2.2.2.2.1 _ hP
  rw [hPi] at h6
  have eT : tot2.toInt.toNat = tot.toInt.toNat + 1 := by omega
  refine ⟨hb, fun t q htt hq => ?_⟩
  rw [eT] at htt
  rcases Nat.lt_or_ge t tot.toInt.toNat with a | a
  · rw [sp_up a, cn_up (by omega), ho _ (by have := hne t a; omega)]
    exact hc.2 t q a hq
  · have et : t = tot.toInt.toNat := by omega
    subst et
    have hspT : sp (upd o tot.toInt.toNat p) tot.toInt.toNat = e := by
      unfold sp
      rw [pk_us, cn_up (Nat.le_refl _), he]
      unfold Int32.toNatClampNeg at *
      omega
    rw [hspT, cn_succ, cn_up (Nat.le_refl _), pk_us]
    have hq2 := hn q hq
    by_cases e1 : q = p.toNatClampNeg
    · rw [if_pos e1] at hq2
      rw [e1, hPi, if_pos rfl]
      rw [e1] at hq2
      omega
    · rw [if_neg e1] at hq2
      rw [if_neg (by omega)]
      omega
/-- the clock of the event ahead of the next one of a process -/
theorem ck_prev {pr tot ms : Int32} {ev o so ca sn se tk ck : Nat → Int32} (h : RC pr tot ms ev o so ca sn se tk) (hc : CK tot o ck) {P : Nat} (hP : P < 4) (h1 : 1 ≤ (ev P).toInt) {q : Nat} (hq : q < 4) : (ck (4 * (5 * P + (ev P).toInt.toNat - 1) + q)).toInt ≤ cn o q tot.toInt.toNat := by
  have h6 := h.2.2.2.2.2.1 P hP
  obtain ⟨t, ht, hpt, hk⟩ := cn_kth (o := o) (p := (P : Int)) (k := (ev P).toInt.toNat - 1) (n := tot.toInt.toNat) (by omega)
  have e : sp o t = 5 * P + (ev P).toInt.toNat - 1 := by
    unfold sp
    rw [hpt, hk]
    omega
  have h3 := hc.2 t q ht hq
  rw [e] at h3
  have h4 := cn_mono (o := o) (p := (q : Int)) (show t + 1 ≤ tot.toInt.toNat by omega)
  omega
/-- the event that sent a message -/
theorem rc_from {pr tot ms : Int32} {ev o so ca sn se tk : Nat → Int32} (h : RC pr tot ms ev o so ca sn se tk) {m : Nat} (hm : (m : Int) < ms.toInt) : ∃ t, t < tot.toInt.toNat ∧ (sn m).toInt = (o t).toInt ∧ (se m).toInt = cn o (o t).toInt t + 1 ∧ 1 ≤ (se m).toInt ∧ (se m).toInt ≤ 5 ∧ (5 * (sn m).toInt + (se m).toInt - 1).toNat = sp o t := by
  obtain ⟨t, ht, h1, h2⟩ := sd_kth (o := o) (so := so) (k := m) (n := tot.toInt.toNat) (by have := h.2.2.2.2.2.2.2.1; omega)
  have h3 := h.2.2.2.2.2.2.2.2.2.2.1 t ht h1
  rw [h2] at h3
  have ho := h.2.2.2.2.1 t
  have hq := h.2.2.2.2.2.1 (o t).toInt.toNat (by omega)
  have hb := h.2.2.2.1 (o t).toInt.toNat
  have e1 : (((o t).toInt.toNat : Nat) : Int) = (o t).toInt := by omega
  rw [e1] at hq
  have h4 := cn_lt ht (p := (o t).toInt) rfl
  refine ⟨t, ht, h3.1, h3.2, by omega, by omega, ?_⟩
  unfold sp
  rw [h3.1, h3.2]
  omega
theorem ck_from {pr tot ms : Int32} {ev o so ca sn se tk ck : Nat → Int32} (h : RC pr tot ms ev o so ca sn se tk) (hc : CK tot o ck) {m : Nat} (hm : (m : Int) < ms.toInt) {q : Nat} (hq : q < 4) : (ck (4 * (5 * (sn m).toInt + (se m).toInt - 1).toNat + q)).toInt ≤ cn o q tot.toInt.toNat := by
  obtain ⟨t, ht, -, -, -, -, e⟩ := rc_from h hm
  rw [e]
  have h3 := hc.2 t q ht hq
  have h4 := cn_mono (o := o) (p := (q : Int)) (show t + 1 ≤ tot.toInt.toNat by omega)
  omega
/-- the last event: where it lies, what it is -/
theorem rc_last {pr tot ms : Int32} {ev o so ca sn se tk : Nat → Int32} (h : RC pr tot ms ev o so ca sn se tk) {T : Nat} (hT : tot.toInt.toNat = T + 1) : 1 ≤ (ev (o T).toInt.toNat).toInt ∧ sp o T = 5 * (o T).toInt.toNat + (ev (o T).toInt.toNat).toInt.toNat - 1 ∧ ((so (sp o T)).toInt = 1 → 1 ≤ ms.toInt) := by
  have ho := h.2.2.2.2.1 T
  have hq := h.2.2.2.2.2.1 (o T).toInt.toNat (by omega)
  have e1 : (((o T).toInt.toNat : Nat) : Int) = (o T).toInt := by omega
  rw [e1, hT, cn_succ, if_pos rfl] at hq
  have h8 := h.2.2.2.2.2.2.2.1
  rw [hT, sd_succ] at h8
  refine ⟨by omega, ?_, fun hs => ?_⟩
  · unfold sp; omega
  · rw [if_pos hs] at h8; omega
theorem rc_back {pr tot ms tot2 ms2 k : Int32} {ev o so ca sn se tk tk2 : Nat → Int32} (h : RC pr tot ms ev o so ca sn se tk) {T : Nat} (hT : tot.toInt.toNat = T + 1) (ht : tot2.toInt = tot.toInt - 1) (hk : k.toInt = (ev (o T).toInt.toNat).toInt - 1) (hms : ms2.toInt = ms.toInt - (if (so (sp o T)).toInt = 1 then 1 else 0)) (htk : ∀ j, -5 ≤ (tk2 j).toInt ∧ (tk2 j).toInt ≤ 3) : RC pr tot2 ms2 (upd ev (o T).toInt.toNat k) o so ca sn se tk2 := by
  obtain ⟨l1, l2, l3⟩ := rc_last h hT
  obtain ⟨h1, h2, h3, h4, h5, h6, h7, h8, h9, h10, h11, h12⟩ := h
  have ho := h5 T
  have eT : tot2.toInt.toNat = T := by omega
  have h8' := h8
  rw [hT, sd_succ] at h8
  refine ⟨h1, by omega, ?_, up_iv h4 _ (by have := h4 (o T).toInt.toNat; omega), h5, fun q hq => ?_, h7, ?_, h9, htk, fun t htt hs => ?_, fun t htt => ?_⟩
  · by_cases e : (so (sp o T)).toInt = 1
    · rw [if_pos e] at hms; have := l3 e; omega
    · rw [if_neg e] at hms; omega
  · rw [eT]
    have hq6 := h6 q hq
    rw [hT, cn_succ] at hq6
    by_cases e1 : q = (o T).toInt.toNat
    · rw [e1, pk_us]
      rw [e1] at hq6
      have e2 : (((o T).toInt.toNat : Nat) : Int) = (o T).toInt := by omega
      rw [e2] at hq6 ⊢
      rw [if_pos rfl] at hq6
      omega
    · rw [pk_un e1]
      rw [if_neg (by omega)] at hq6
      omega
  · rw [eT, hms, h8]
    by_cases e : (so (sp o T)).toInt = 1
    · rw [if_pos e, if_pos e]; omega
    · rw [if_neg e, if_neg e]; omega
  · rw [eT] at htt
    exact h11 t (by omega) hs
  · rw [eT] at htt
    exact h12 t (by omega)
theorem ck_back {tot tot2 : Int32} {o ck : Nat → Int32} (hc : CK tot o ck) (ht : tot2.toInt ≤ tot.toInt) : CK tot2 o ck := ⟨hc.1, fun t q h1 h2 => hc.2 t q (by omega) h2⟩
