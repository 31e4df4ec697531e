/-! THE REFERENCE: a pile with at most two things laid on it -/
def lyu (a : Nat) : Nat := if a = 14 then 0 else 2 ^ a
def wdP (P : pl_T) (A : Nat → Nat) (m : Nat) : pl_T := (pl_n P + m, 0, pl_w P, (fun k => if k < pl_n P then pl_h P k else 7), (fun k => if k < pl_n P then pl_u P k else lyu (A (k - pl_n P))), pl_k P)
def wok (P : pl_T) : Prop := pl_n P ≤ 16 ∧ ∀ k, k < pl_n P → pl_u P k < 2 ^ k
/-- what lies where it was laid: 15 nothing -/
def pq (P : pl_T) (A : Nat → Nat) (q t : Nat) : Nat := if t.testBit (pl_n P + q) then A q else 15
def wth (P : pl_T) (t : Nat) : Nat := t &&& (2 ^ pl_n P - 1)
/-- a sound state of the wide pile -/
def vst (P : pl_T) (A : Nat → Nat) (m t : Nat) : Prop := t < 2 ^ (pl_n P + m) ∧ ∀ q, t.testBit (pl_n P + q) = true → A q = 14 ∨ (A q < pl_n P ∧ t.testBit (A q) = true)
def zz (P : pl_T) (e w s a b : Nat) : Bool := cz P e w s (min a b) (max a b)
def wv2 (P : pl_T) (A : Nat → Nat) (e w t : Nat) : Bool := zz P e w (wth P t) (pq P A 0 t) (pq P A 1 t)
theorem lyu_bit (a j : Nat) : (lyu a).testBit j = (decide (a ≠ 14) && decide (a = j)) := by
  unfold lyu
  by_cases c : a = 14
  · simp [c]
  · simp [c, bb_tp]
theorem pl_A_cg {u u' : Nat → Nat} {i : Nat} : ∀ {k : Nat}, (∀ j, j ≤ k → u j = u' j) → pl_A u i k = pl_A u' i k := by
  intro k
  induction k using Nat.strongRecOn with
  | ind k ih =>
    intro h
    rw [Bool.eq_iff_iff, pl_A_iff, pl_A_iff]
    constructor
    · rintro ⟨j, h1, h2, h3⟩
      refine ⟨j, h1, by rw [← h k (Nat.le_refl _)]; exact h2, ?_⟩
      rw [← ih j h1 (fun i hi => h i (by omega))]; exact h3
    · rintro ⟨j, h1, h2, h3⟩
      refine ⟨j, h1, by rw [h k (Nat.le_refl _)]; exact h2, ?_⟩
      rw [ih j h1 (fun i hi => h i (by omega))]; exact h3
section
variable {P : pl_T} {A : Nat → Nat} {m : Nat}
theorem wdP_n : pl_n (wdP P A m) = pl_n P + m := rfl
theorem wdP_u {k : Nat} (h : k < pl_n P) : pl_u (wdP P A m) k = pl_u P k := if_pos h
theorem wdP_u2 {q : Nat} : pl_u (wdP P A m) (pl_n P + q) = lyu (A q) := by
  show (if pl_n P + q < pl_n P then _ else lyu (A (pl_n P + q - pl_n P))) = _
  rw [if_neg (by omega), Nat.add_sub_cancel_left]
theorem wdP_h {k : Nat} (h : k < pl_n P) : pl_h (wdP P A m) k = pl_h P k := if_pos h
theorem wdP_h2 {k : Nat} (h : ¬ k < pl_n P) : pl_h (wdP P A m) k = 7 := if_neg h
theorem wdP_ok (ok : pl_ok P) (hm : m ≤ 2) (hA : ∀ q, q < m → A q = 14 ∨ A q < pl_n P) : wok (wdP P A m) := by
  have h1 := ok.1
  refine ⟨by rw [wdP_n]; omega, fun k hk => ?_⟩
  rw [wdP_n] at hk
  by_cases c : k < pl_n P
  · rw [wdP_u c]; exact (ok.2.2.1 k c).2.2.2
  · obtain ⟨q, rfl⟩ : ∃ q, k = pl_n P + q := ⟨k - pl_n P, by omega⟩
    rw [wdP_u2, lyu]
    split
    · exact Nat.two_pow_pos _
    · rcases hA q (by omega) with x | x
      · contradiction
      · exact bb_p2 (by omega)
theorem wdA_lo {i k : Nat} (h : k < pl_n P) : pl_A (pl_u (wdP P A m)) i k = pl_A (pl_u P) i k := pl_A_cg (fun j hj => wdP_u (by omega))
theorem wdA_hi {i q : Nat} (hA : A q = 14 ∨ A q < pl_n P) (h14 : pl_n P ≤ 14) : pl_A (pl_u (wdP P A m)) i (pl_n P + q) = (decide (A q < pl_n P) && (pl_cl P i).testBit (A q)) := by
  rw [Bool.eq_iff_iff, pl_A_iff]
  simp only [wdP_u2, lyu_bit, Bool.and_eq_true, decide_eq_true_eq, pl_cl, Nat.testBit_or, Bool.or_eq_true, ab_bit, bb_tp]
  constructor
  · rintro ⟨j, h1, ⟨h2, h3⟩, h4⟩
    have hq : A q < pl_n P := by omega
    refine ⟨hq, ?_⟩
    rw [h3]
    rcases h4 with h4 | h4
    · exact Or.inr h4.symm
    · rw [wdA_lo (by omega)] at h4
      exact Or.inl ⟨by omega, h4⟩
  · rintro ⟨h1, h2⟩
    refine ⟨A q, by omega, ⟨by omega, rfl⟩, ?_⟩
    rcases h2 with h2 | h2
    · exact Or.inr (by rw [wdA_lo h1]; exact h2.2)
    · exact Or.inl h2.symm
theorem wcl_lo {i k : Nat} (hk : k < pl_n P) : (pl_cl (wdP P A m) i).testBit k = (pl_cl P i).testBit k := by
  rw [pl_cl, pl_cl, Nat.testBit_or, Nat.testBit_or, ab_bit, ab_bit, wdA_lo hk, wdP_n]
  simp [hk, show k < pl_n P + m by omega]
theorem wcl_hi {i q : Nat} (hi : i < pl_n P) (hq : q < m) (hA : A q = 14 ∨ A q < pl_n P) (h14 : pl_n P ≤ 14) : (pl_cl (wdP P A m) i).testBit (pl_n P + q) = (decide (A q < pl_n P) && (pl_cl P i).testBit (A q)) := by
  rw [pl_cl, Nat.testBit_or, ab_bit, wdA_hi hA h14, wdP_n, bb_tp]
  simp [show pl_n P + q < pl_n P + m by omega, show ¬ i = pl_n P + q by omega]
theorem wcl_2 {q k : Nat} (hq : q < m) (hA : ∀ q, q < m → A q = 14 ∨ A q < pl_n P) (h14 : pl_n P ≤ 14) (hk : k < pl_n P + m) : (pl_cl (wdP P A m) (pl_n P + q)).testBit k = decide (pl_n P + q = k) := by
  rw [pl_cl, Nat.testBit_or, ab_bit, bb_tp]
  have : pl_A (pl_u (wdP P A m)) (pl_n P + q) k = false := by
    cases e : pl_A (pl_u (wdP P A m)) (pl_n P + q) k with
    | false => rfl
    | true =>
      have := pl_A_lt e
      obtain ⟨p, rfl⟩ : ∃ p, k = pl_n P + p := ⟨k - pl_n P, by omega⟩
      rw [wdA_hi (hA p (by omega)) h14, Bool.and_eq_true, decide_eq_true_eq] at e
      rw [pl_cl, Nat.testBit_or, ab_bit, bb_tp, Bool.or_eq_true, Bool.and_eq_true, decide_eq_true_eq, decide_eq_true_eq] at e
      rcases e.2 with x | x
      · have := pl_A_lt x.2; omega
      · omega
  rw [this]; simp
theorem wth_bit (t k : Nat) : (wth P t).testBit k = (decide (k < pl_n P) && t.testBit k) := by
  rw [wth, Nat.testBit_and, Nat.testBit_two_pow_sub_one, Bool.and_comm]
theorem wth_lt (t : Nat) : wth P t < 2 ^ pl_n P := by
  have := Nat.two_pow_pos (pl_n P)
  exact Nat.lt_of_le_of_lt Nat.and_le_right (by omega)
theorem wth_id {t : Nat} (h : t < 2 ^ pl_n P) : wth P t = t := Nat.and_two_pow_sub_one_of_lt_two_pow h
/-- taking a thing of the pile -/
theorem wst_lo (h14 : pl_n P ≤ 14) (hA : ∀ q, q < m → A q = 14 ∨ A q < pl_n P) {t i : Nat} (ht : vst P A m t) (hi : i < pl_n P) : wth P (bd t (pl_cl (wdP P A m) i)) = pl_nx P (wth P t) i ∧ (∀ q, q < 2 → pq P A q (bd t (pl_cl (wdP P A m) i)) = lf (pl_nx P (wth P t) i) (pq P A q t)) ∧ vst P A m (bd t (pl_cl (wdP P A m) i)) := by
  have e1 : wth P (bd t (pl_cl (wdP P A m) i)) = pl_nx P (wth P t) i := by
    apply bb_ext
    intro k
    rw [wth_bit, pl_nx, if_pos hi, bd_bit, bd_bit, wth_bit]
    by_cases c : k < pl_n P
    · rw [wcl_lo c]; simp [c]
    · simp [c]
  have bk : ∀ k, k < pl_n P → (pl_nx P (wth P t) i).testBit k = (t.testBit k && !(pl_cl P i).testBit k) := fun k hk => by
    rw [pl_nx, if_pos hi, bd_bit, wth_bit, decide_eq_true hk, Bool.true_and]
  have qm : ∀ q, t.testBit (pl_n P + q) = true → q < m := fun q hq => by
    rcases Nat.lt_or_ge q m with c | c
    · exact c
    · rw [bb_hi ht.1 (by omega)] at hq; exact absurd hq (by decide)
  refine ⟨e1, fun q hq => ?_, bb_bd ht.1, fun q hq => ?_⟩
  · rw [pq, pq]
    cases c : t.testBit (pl_n P + q) with
    | false =>
      rw [bd_bit, c, Bool.false_and]
      show 15 = lf _ 15
      rw [lf, if_neg (by omega)]
    | true =>
      have q1 := qm q c
      rw [bd_bit, c, Bool.true_and, wcl_hi hi q1 (hA q q1) h14]
      rw [if_pos rfl]
      rcases ht.2 q c with x | ⟨x, y⟩
      · rw [decide_eq_false (show ¬ A q < pl_n P by omega), Bool.false_and]
        show A q = lf _ (A q)
        rw [lf, if_neg (by omega)]
      · rw [decide_eq_true x, Bool.true_and, lf, bk _ x, y, Bool.true_and]
        cases z : (pl_cl P i).testBit (A q) with
        | false => simp
        | true => rw [if_neg (by decide), if_pos ⟨by omega, rfl⟩]
  · rw [bd_bit, Bool.and_eq_true] at hq
    have q1 := qm q hq.1
    rcases ht.2 q hq.1 with x | ⟨x, y⟩
    · exact Or.inl x
    · refine Or.inr ⟨x, ?_⟩
      have z := hq.2
      rw [wcl_hi hi q1 (hA q q1) h14, decide_eq_true x, Bool.true_and] at z
      rw [bd_bit, y, wcl_lo x, z]; rfl
/-- taking what was laid -/
theorem wst_hi (h14 : pl_n P ≤ 14) (hA : ∀ q, q < m → A q = 14 ∨ A q < pl_n P) {t q : Nat} (ht : vst P A m t) (hq : q < m) : wth P (bd t (pl_cl (wdP P A m) (pl_n P + q))) = wth P t ∧ (∀ p, pq P A p (bd t (pl_cl (wdP P A m) (pl_n P + q))) = if p = q then 15 else pq P A p t) ∧ vst P A m (bd t (pl_cl (wdP P A m) (pl_n P + q))) := by
  have bt : ∀ k, (bd t (pl_cl (wdP P A m) (pl_n P + q))).testBit k = (t.testBit k && !decide (pl_n P + q = k)) := by
    intro k
    rw [bd_bit]
    by_cases c : k < pl_n P + m
    · rw [wcl_2 hq hA h14 c]
    · rw [bb_hi ht.1 (by omega)]; rfl
  refine ⟨?_, fun p => ?_, bb_bd ht.1, fun p hp => ?_⟩
  · apply bb_ext
    intro k
    rw [wth_bit, wth_bit, bt]
    by_cases c : k < pl_n P
    · simp [c, show ¬ pl_n P + q = k by omega]
    · simp [c]
  · rw [pq, pq, bt]
    by_cases c : p = q
    · subst c; simp
    · rw [if_neg c, decide_eq_false (show ¬ pl_n P + q = pl_n P + p by omega)]; simp
  · rw [bt, Bool.and_eq_true] at hp
    rcases ht.2 p hp.1 with x | ⟨x, y⟩
    · exact Or.inl x
    · refine Or.inr ⟨x, ?_⟩
      rw [bt, y, decide_eq_false (show ¬ pl_n P + q = A p by omega)]; rfl
/-- which moves there are -/
def wlg (P : pl_T) (A : Nat → Nat) (m w t j : Nat) : Bool := t.testBit j && (pl_h (wdP P A m) j).testBit w
def wcA (P : pl_T) (A : Nat → Nat) (m w t k : Nat) : Bool := (List.range k).any (wlg P A m w t)
def wwA (P : pl_T) (A : Nat → Nat) (m e w t k : Nat) : Bool := (List.range k).any (fun j => wlg P A m w t j && !wv2 P A e (1 - w) (bd t (pl_cl (wdP P A m) j)))
theorem wcA_s (w t k : Nat) : wcA P A m w t (k + 1) = (wcA P A m w t k || wlg P A m w t k) := by
  rw [wcA, List.range_succ, List.any_append, wcA]; simp
theorem wwA_s (e w t k : Nat) : wwA P A m e w t (k + 1) = (wwA P A m e w t k || (wlg P A m w t k && !wv2 P A e (1 - w) (bd t (pl_cl (wdP P A m) k)))) := by
  rw [wwA, List.range_succ, List.any_append, wwA]; simp
theorem wwA_c {e w t k : Nat} (h : wwA P A m e w t k = true) : wcA P A m w t k = true := by
  rw [wwA, List.any_eq_true] at h
  obtain ⟨j, h1, h2⟩ := h
  rw [Bool.and_eq_true] at h2
  rw [wcA, List.any_eq_true]
  exact ⟨j, h1, h2.1⟩
theorem wwA_mono {e w t k k' : Nat} (hk : k ≤ k') (h : wwA P A m e w t k = true) : wwA P A m e w t k' = true := by
  rw [wwA, List.any_eq_true] at h ⊢
  obtain ⟨j, h1, h2⟩ := h
  rw [List.mem_range] at h1
  exact ⟨j, List.mem_range.mpr (by omega), h2⟩
theorem wlg_lo {w t j : Nat} (hw : w ≤ 1) (hj : j < pl_n P) : wlg P A m w t j = pl_lg P w (wth P t) j := by
  rw [wlg, wdP_h hj, pl_lg, if_pos hj, wth_bit, decide_eq_true hj, Bool.true_and]
  have : (w == 3) = false := beq_eq_false_iff_ne.mpr (by omega)
  rw [this, Bool.false_or]
theorem wlg_hi {w t q : Nat} (hw : w ≤ 1) : wlg P A m w t (pl_n P + q) = t.testBit (pl_n P + q) := by
  rw [wlg, wdP_h2 (by omega)]
  rcases (show w = 0 ∨ w = 1 by omega) with rfl | rfl
  · rw [show Nat.testBit 7 0 = true by decide, Bool.and_true]
  · rw [show Nat.testBit 7 1 = true by decide, Bool.and_true]
theorem pq_15 (hA : ∀ q, A q ≤ 14) (q t : Nat) : t.testBit (pl_n P + q) = decide (pq P A q t ≠ 15) := by
  rw [pq]
  have := hA q
  cases c : t.testBit (pl_n P + q) with
  | false => simp
  | true => simp; omega
theorem pq_le (hA : ∀ q, A q ≤ 14) (q t : Nat) : pq P A q t ≤ 15 := by
  have := hA q
  rw [pq]; split <;> omega
theorem wcA_n {w t : Nat} (hb0 : pl_b P = 0) (hw : w ≤ 1) : wcA P A m w t (pl_n P) = !decide (pl_ML P w (wth P t) = []) := by
  rw [Bool.eq_iff_iff, wcA, List.any_eq_true, Bool.not_eq_true', decide_eq_false_iff_not]
  constructor
  · rintro ⟨j, h1, h2⟩ c
    rw [List.mem_range] at h1
    rw [wlg_lo hw h1] at h2
    have := pl_ML_mem.mpr h2
    rw [c] at this
    exact absurd this List.not_mem_nil
  · intro c
    obtain ⟨j, hj⟩ := List.exists_mem_of_ne_nil _ c
    have h1 := pl_ML_mem.mp hj
    have h2 := pl_lg_lt h1
    rw [hb0] at h2
    exact ⟨j, List.mem_range.mpr h2, by rw [wlg_lo hw h2]; exact h1⟩
theorem wwA_n {e w t : Nat} (ok : pl_ok P) (hb0 : pl_b P = 0) (hA : ∀ q, q < m → A q = 14 ∨ A q < pl_n P) (ht : vst P A m t) (hw : w ≤ 1) : wwA P A m e w t (pl_n P) = (pl_ML P w (wth P t)).any (fun j => !cz P e (1 - w) (pl_nx P (wth P t) j) (min (lf (pl_nx P (wth P t) j) (pq P A 0 t)) (lf (pl_nx P (wth P t) j) (pq P A 1 t))) (max (lf (pl_nx P (wth P t) j) (pq P A 0 t)) (lf (pl_nx P (wth P t) j) (pq P A 1 t)))) := by
  have key : ∀ j, j < pl_n P → wv2 P A e (1 - w) (bd t (pl_cl (wdP P A m) j)) = cz P e (1 - w) (pl_nx P (wth P t) j) (min (lf (pl_nx P (wth P t) j) (pq P A 0 t)) (lf (pl_nx P (wth P t) j) (pq P A 1 t))) (max (lf (pl_nx P (wth P t) j) (pq P A 0 t)) (lf (pl_nx P (wth P t) j) (pq P A 1 t))) := by
    intro j hj
    obtain ⟨e1, e2, -⟩ := wst_lo ok.1 hA ht hj
    rw [wv2, zz, e1, e2 0 (by omega), e2 1 (by omega)]
  rw [Bool.eq_iff_iff, wwA, List.any_eq_true, List.any_eq_true]
  constructor
  · rintro ⟨j, h1, h2⟩
    rw [List.mem_range] at h1
    rw [Bool.and_eq_true, wlg_lo hw h1, key j h1] at h2
    exact ⟨j, pl_ML_mem.mpr h2.1, h2.2⟩
  · rintro ⟨j, h1, h2⟩
    have h3 := pl_ML_mem.mp h1
    have h4 := pl_lg_lt h3
    rw [hb0] at h4
    refine ⟨j, List.mem_range.mpr h4, ?_⟩
    rw [Bool.and_eq_true, wlg_lo hw h4, key j h4]
    exact ⟨h3, h2⟩
theorem min15 {a : Nat} (h : a ≤ 15) : min a 15 = a ∧ max a 15 = 15 ∧ min 15 a = a ∧ max 15 a = 15 := by omega
/-- one move less -/
theorem wv2_eq {e w t : Nat} (ok : pl_ok P) (hb0 : pl_b P = 0) (hm : m ≤ 2) (hA : ∀ q, q < m → A q = 14 ∨ A q < pl_n P) (hA2 : ∀ q, A q ≤ 14) (ht : vst P A m t) (hw : w ≤ 1) : wv2 P A e w t = if wcA P A m w t (pl_n P + m) then wwA P A m e w t (pl_n P + m) else e == 1 := by
  have p0 := pq_15 (P := P) hA2 0 t
  have p1 := pq_15 (P := P) hA2 1 t
  have l0 := pq_le (P := P) hA2 0 t
  have l1 := pq_le (P := P) hA2 1 t
  -- what was laid adds
  have key : wcA P A m w t (pl_n P + m) = (wcA P A m w t (pl_n P) || decide (pq P A 0 t ≠ 15) || decide (pq P A 1 t ≠ 15)) ∧ wwA P A m e w t (pl_n P + m) = (wwA P A m e w t (pl_n P) || (decide (pq P A 0 t ≠ 15) && !cz P e (1 - w) (wth P t) (pq P A 1 t) 15) || (decide (pq P A 1 t ≠ 15) && !cz P e (1 - w) (wth P t) (pq P A 0 t) 15)) := by
    have s0 : 0 < m → wv2 P A e (1 - w) (bd t (pl_cl (wdP P A m) (pl_n P + 0))) = cz P e (1 - w) (wth P t) (pq P A 1 t) 15 := fun h => by
      obtain ⟨e1, e2, -⟩ := wst_hi ok.1 hA ht (q := 0) h
      rw [wv2, zz, e1, e2 0, e2 1, if_pos rfl, if_neg (by decide), (min15 l1).2.2.1, (min15 l1).2.2.2]
    have s1 : 1 < m → wv2 P A e (1 - w) (bd t (pl_cl (wdP P A m) (pl_n P + 1))) = cz P e (1 - w) (wth P t) (pq P A 0 t) 15 := fun h => by
      obtain ⟨e1, e2, -⟩ := wst_hi ok.1 hA ht (q := 1) h
      rw [wv2, zz, e1, e2 0, e2 1, if_pos rfl, if_neg (by decide), (min15 l0).1, (min15 l0).2.1]
    have n0 : ¬ 0 < m → decide (pq P A 0 t ≠ 15) = false := fun h => by rw [← p0, bb_hi ht.1 (by omega)]
    have n1 : ¬ 1 < m → decide (pq P A 1 t ≠ 15) = false := fun h => by rw [← p1, bb_hi ht.1 (by omega)]
    have g0 : wlg P A m w t (pl_n P) = decide (pq P A 0 t ≠ 15) := (wlg_hi (q := 0) hw).trans p0
    have g1 : wlg P A m w t (pl_n P + 1) = decide (pq P A 1 t ≠ 15) := (wlg_hi (q := 1) hw).trans p1
    rcases (show m = 0 ∨ m = 1 ∨ m = 2 by omega) with rfl | rfl | rfl
    · rw [n0 (by omega), n1 (by omega)]; simp
    · rw [n1 (by omega), wcA_s, wwA_s, g0]
      have := s0 (by omega)
      rw [Nat.add_zero] at this
      rw [this]; simp
    · rw [show pl_n P + 2 = pl_n P + 1 + 1 by omega, wcA_s, wwA_s, wcA_s, wwA_s, g0, g1]
      have := s0 (by omega)
      rw [Nat.add_zero] at this
      rw [this, s1 (by omega)]
      exact ⟨rfl, rfl⟩
  rw [key.1, key.2, wcA_n hb0 hw, wwA_n ok hb0 hA ht hw, wv2, zz]
  have mxl : max (pq P A 0 t) (pq P A 1 t) ≤ 15 := by omega
  rw [cz_eq ok e w (by omega) mxl, cB]
  have sym : ∀ j, min (lf (pl_nx P (wth P t) j) (min (pq P A 0 t) (pq P A 1 t))) (lf (pl_nx P (wth P t) j) (max (pq P A 0 t) (pq P A 1 t))) = min (lf (pl_nx P (wth P t) j) (pq P A 0 t)) (lf (pl_nx P (wth P t) j) (pq P A 1 t)) ∧ max (lf (pl_nx P (wth P t) j) (min (pq P A 0 t) (pq P A 1 t))) (lf (pl_nx P (wth P t) j) (max (pq P A 0 t) (pq P A 1 t))) = max (lf (pl_nx P (wth P t) j) (pq P A 0 t)) (lf (pl_nx P (wth P t) j) (pq P A 1 t)) := by
    intro j
    rcases Nat.le_total (pq P A 0 t) (pq P A 1 t) with q | q
    · rw [Nat.min_eq_left q, Nat.max_eq_right q]; exact ⟨rfl, rfl⟩
    · rw [Nat.min_eq_right q, Nat.max_eq_left q]; exact ⟨Nat.min_comm _ _, Nat.max_comm _ _⟩
  generalize hX : (pl_ML P w (wth P t)).any _ = X
  have hX2 : (pl_ML P w (wth P t)).any (fun j => !cz P e (1 - w) (pl_nx P (wth P t) j) (min (lf (pl_nx P (wth P t) j) (pq P A 0 t)) (lf (pl_nx P (wth P t) j) (pq P A 1 t))) (max (lf (pl_nx P (wth P t) j) (pq P A 0 t)) (lf (pl_nx P (wth P t) j) (pq P A 1 t)))) = X := by
    rw [← hX]
    apply congrArg
    funext j
    rw [(sym j).1, (sym j).2]
  rw [hX2]
  generalize pq P A 0 t = a at *
  generalize pq P A 1 t = b at *
  generalize hM : (decide (pl_ML P w (wth P t) = [])) = M
  have hM2 : (pl_ML P w (wth P t) = []) ↔ M = true := by rw [← hM, decide_eq_true_iff]
  generalize hF : cz P e (1 - w) (wth P t) = F
  clear key p0 p1 sym hX hX2 hM hF
  simp only [hM2]
  rcases Nat.lt_trichotomy a b with q | q | q
  · rw [Nat.min_eq_left (by omega), Nat.max_eq_right (by omega)]
    have a15 : a ≠ 15 := by omega
    have ba : b ≠ a := by omega
    rw [if_neg (fun c => a15 c.2), if_pos (by simp [a15])]
    simp only [a15, ba, ne_eq, not_false_eq_true, decide_true, Bool.true_and, Bool.and_true]
    cases decide (¬ b = 15) <;> cases F b 15 <;> cases F a 15 <;> cases X <;> rfl
  · subst q
    rw [Nat.min_self, Nat.max_self]
    by_cases c : a = 15
    · subst c
      cases M <;> simp
    · rw [if_neg (fun d => c d.2), if_pos (by simp [c])]
      simp [c]
      cases F a 15 <;> cases X <;> rfl
  · rw [Nat.min_eq_right (by omega), Nat.max_eq_left (by omega)]
    have b15 : b ≠ 15 := by omega
    have ab : a ≠ b := by omega
    rw [if_neg (fun c => b15 c.2), if_pos (by simp [b15])]
    simp only [b15, ab, ne_eq, not_false_eq_true, decide_true, Bool.true_and, Bool.and_true]
    cases decide (¬ a = 15) <;> cases F b 15 <;> cases F a 15 <;> cases X <;> rfl
/-- how far a game can still go -/
def wmu (P : pl_T) (A : Nat → Nat) (t : Nat) : Nat := pl_mu P (wth P t) + la (pq P A 0 t) + la (pq P A 1 t)
theorem wmu_le (ok : pl_ok P) (t : Nat) : wmu P A t ≤ 20 := by
  have := pl_mu_le ok (wth P t)
  have := la_le (pq P A 0 t)
  have := la_le (pq P A 1 t)
  unfold wmu; omega
theorem wmu_lt {w t j : Nat} (ok : pl_ok P) (hm : m ≤ 2) (hA : ∀ q, q < m → A q = 14 ∨ A q < pl_n P) (hA2 : ∀ q, A q ≤ 14) (ht : vst P A m t) (hw : w ≤ 1) (hj : j < pl_n P + m) (hl : wlg P A m w t j = true) : wmu P A (bd t (pl_cl (wdP P A m) j)) < wmu P A t ∧ vst P A m (bd t (pl_cl (wdP P A m) j)) := by
  by_cases c : j < pl_n P
  · obtain ⟨e1, e2, e3⟩ := wst_lo ok.1 hA ht c
    rw [wlg_lo hw c] at hl
    have mu := pl_mu_lt ok hl
    refine ⟨?_, e3⟩
    rw [wmu, wmu, e1, e2 0 (by omega), e2 1 (by omega)]
    have l1 := la_lf (pl_nx P (wth P t) j) (pq P A 0 t)
    have l2 := la_lf (pl_nx P (wth P t) j) (pq P A 1 t)
    omega
  · obtain ⟨q, rfl⟩ : ∃ q, j = pl_n P + q := ⟨j - pl_n P, by omega⟩
    have q1 : q < m := by omega
    obtain ⟨e1, e2, e3⟩ := wst_hi ok.1 hA ht q1
    rw [wlg_hi hw, pq_15 hA2, decide_eq_true_eq] at hl
    refine ⟨?_, e3⟩
    rw [wmu, wmu, e1, e2 0, e2 1]
    rcases (show q = 0 ∨ q = 1 by omega) with rfl | rfl
    · rw [if_pos rfl, if_neg (by decide), la_15, la_ne hl]; omega
    · rw [if_pos rfl, if_neg (by decide), la_15, la_ne hl]; omega
end
