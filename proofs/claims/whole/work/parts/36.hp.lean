/-! the heaps that are found are heaps -/
section
variable {P : pl_T}
theorem orA_bit (f : Nat → Nat) (s : Nat) : ∀ k i, (pl_orA f s k).testBit i = true ↔ ∃ j, j < k ∧ s.testBit j = true ∧ (f j).testBit i = true := by
  intro k
  induction k with
  | zero => intro i; simp [pl_orA]
  | succ k ih =>
    intro i
    rw [pl_orA]
    by_cases c : s.testBit k = true
    · rw [if_pos c, Nat.testBit_or, Bool.or_eq_true, ih]
      constructor
      · rintro (⟨j, h1, h2⟩ | h)
        · exact ⟨j, by omega, h2⟩
        · exact ⟨k, by omega, c, h⟩
      · rintro ⟨j, h1, h2, h3⟩
        by_cases e : j = k
        · subst e; exact Or.inr h3
        · exact Or.inl ⟨j, by omega, h2, h3⟩
    · rw [if_neg c, ih]
      constructor
      · rintro ⟨j, h1, h2⟩
        exact ⟨j, by omega, h2⟩
      · rintro ⟨j, h1, h2, h3⟩
        have : j ≠ k := fun e => c (e ▸ h2)
        exact ⟨j, by omega, h2, h3⟩
theorem gr_lt {t s : Nat} (ht : t < 2 ^ pl_n P) (hs : s < 2 ^ pl_n P) : pl_gr P t s < 2 ^ pl_n P := bb_or hs (bb_and_r ht)
theorem it_grow {t : Nat} (ht : t < 2 ^ pl_n P) : ∀ k s, s < 2 ^ pl_n P → pl_gr P t (pl_it P t k s) = pl_it P t k s ∨ pl_cn s (pl_n P) + k ≤ pl_cn (pl_it P t k s) (pl_n P) := by
  intro k
  induction k with
  | zero => intro s _; exact Or.inr (Nat.le_refl _)
  | succ k ih =>
    intro s hs
    by_cases c : pl_gr P t s = s
    · left
      rw [pl_it_fix c]; exact c
    · rw [pl_it]
      rcases ih (pl_gr P t s) (gr_lt ht hs) with h | h
      · exact Or.inl h
      · right
        have : pl_cn s (pl_n P) < pl_cn (pl_gr P t s) (pl_n P) := by
          refine cn_lt _ (fun i _ hi => by rw [pl_gr, Nat.testBit_or, hi]; rfl) ?_
          apply Classical.byContradiction
          intro hno
          apply c
          apply bb_ext
          intro i
          by_cases hi : i < pl_n P
          · cases e1 : (pl_gr P t s).testBit i with
            | false =>
              rw [pl_gr, Nat.testBit_or, Bool.or_eq_false_iff] at e1
              exact e1.1.symm
            | true =>
              cases e2 : s.testBit i with
              | true => rfl
              | false => exact absurd ⟨i, hi, e1, e2⟩ hno
          · rw [bb_hi (gr_lt ht hs) (by omega), bb_hi hs (by omega)]
        omega
theorem it_sub {t : Nat} : ∀ k s i, s.testBit i = true → (pl_it P t k s).testBit i = true := by
  intro k
  induction k with
  | zero => intro s i h; exact h
  | succ k ih => intro s i h; rw [pl_it]; exact ih _ i (by rw [pl_gr, Nat.testBit_or, h]; rfl)
theorem it_in {t : Nat} : ∀ k s, (∀ i, s.testBit i = true → t.testBit i = true) → ∀ i, (pl_it P t k s).testBit i = true → t.testBit i = true := by
  intro k
  induction k with
  | zero => intro s h; exact h
  | succ k ih =>
    intro s h
    rw [pl_it]
    apply ih
    intro i hi
    rw [pl_gr, Nat.testBit_or, Nat.testBit_and, Bool.or_eq_true, Bool.and_eq_true] at hi
    rcases hi with hi | hi
    · exact h i hi
    · exact hi.2
theorem hp_bit {t i : Nat} (h : t.testBit i = true) : (pl_hp P t i).testBit i = true := it_sub _ _ _ (by rw [Nat.testBit_and, bb_tp, h]; simp)
theorem hp_in {t i a : Nat} (h : (pl_hp P t i).testBit a = true) : t.testBit a = true := it_in _ _ (fun i hi => by rw [Nat.testBit_and, Bool.and_eq_true] at hi; exact hi.2) a h
theorem cn_pos {s i : Nat} : ∀ k, i < k → s.testBit i = true → 1 ≤ pl_cn s k
  | 0, h, _ => by omega
  | k + 1, h, h1 => by
    rw [pl_cn]
    by_cases c : i = k
    · rw [← c, h1]; simp
    · have := cn_pos k (by omega) h1
      omega
theorem hp_fix {t i : Nat} (ht : t < 2 ^ pl_n P) (hi : t.testBit i = true) : pl_gr P t (pl_hp P t i) = pl_hp P t i := by
  have hin : i < pl_n P := by
    apply Classical.byContradiction
    intro c
    rw [bb_hi ht (by omega)] at hi
    exact absurd hi (by decide)
  rcases it_grow ht (pl_n P) (2 ^ i &&& t) (bb_and_r ht) with h | h
  · exact h
  · have h1 := cn_le (pl_it P t (pl_n P) (2 ^ i &&& t)) (pl_n P)
    have h2 : 1 ≤ pl_cn (2 ^ i &&& t) (pl_n P) := cn_pos _ hin (by rw [Nat.testBit_and, bb_tp, hi]; simp)
    omega
theorem hp_tc {t i a b : Nat} (ht : t < 2 ^ pl_n P) (hi : t.testBit i = true) (ha : (pl_hp P t i).testBit a = true) (hn : a < pl_n P) (hab : (pl_tc P a).testBit b = true) (hb : t.testBit b = true) : (pl_hp P t i).testBit b = true := by
  rw [← hp_fix ht hi, pl_gr, Nat.testBit_or, Nat.testBit_and, hb, (orA_bit _ _ _ _).mpr ⟨a, hn, ha, hab⟩]; simp
theorem tc_bit {a b : Nat} (hb : b < pl_n P) : (pl_tc P a).testBit b = ((pl_u P a).testBit b || (pl_u P b).testBit a) := by rw [pl_tc, bm_bit]; simp [hb]
/-- what holds while the heaps are found -/
theorem hl_inv (P : pl_T) : ∀ k, k ≤ pl_n P → ((pl_hl P k).1.Nodup ∧ (∀ q, q ∈ (pl_hl P k).1 → q < 2 ^ pl_n P ∧ (∀ i j, i < pl_n P → j < pl_n P → (pl_u P i).testBit j = true → q.testBit i = q.testBit j) ∧ ∀ i, q.testBit i = true → (pl_hl P k).2.testBit i = false) ∧ (∀ i, i < pl_n P → (pl_hl P k).2.testBit i = true ∨ ∃ q, q ∈ (pl_hl P k).1 ∧ q.testBit i = true) ∧ (∀ q q', q ∈ (pl_hl P k).1 → q' ∈ (pl_hl P k).1 → q ≠ q' → ∀ i, q.testBit i = true → q'.testBit i = false)) ∧ (∀ i j, i < pl_n P → j < pl_n P → (pl_u P i).testBit j = true → (pl_hl P k).2.testBit i = (pl_hl P k).2.testBit j) ∧ ∀ i, i < k → (pl_hl P k).2.testBit i = false := by
  intro k
  induction k with
  | zero =>
    intro _
    refine ⟨⟨List.nodup_nil, fun q hq => absurd hq List.not_mem_nil, fun i hi => Or.inl ?_, fun q q' hq => absurd hq List.not_mem_nil⟩, fun i j hi hj _ => ?_, fun i hi => absurd hi (by omega)⟩
    · rw [pl_hl, Nat.testBit_two_pow_sub_one]; simp [hi]
    · rw [pl_hl, Nat.testBit_two_pow_sub_one, Nat.testBit_two_pow_sub_one]; simp [hi, hj]
  | succ k ih =>
    intro hk
    obtain ⟨⟨i1, i2, i3, i4⟩, i5, i6⟩ := ih (by omega)
    have ht := pl_hl_lt P k
    rw [pl_hl]
    by_cases c : (pl_hl P k).2.testBit k = true
    · rw [if_pos c]
      generalize pl_hl P k = T at *
      obtain ⟨L, t⟩ := T
      simp only at *
      have q0 := hp_bit (P := P) c
      have qin : ∀ a, (pl_hp P t k).testBit a = true → t.testBit a = true := fun a h => hp_in h
      have qcl : ∀ i j, i < pl_n P → j < pl_n P → (pl_u P i).testBit j = true → (pl_hp P t k).testBit i = (pl_hp P t k).testBit j := by
        intro i j hi hj hu
        cases e1 : (pl_hp P t k).testBit i with
        | true => exact (hp_tc ht c e1 hi (by rw [tc_bit hj, hu]; rfl) (by rw [← i5 i j hi hj hu]; exact qin i e1)).symm
        | false =>
          cases e2 : (pl_hp P t k).testBit j with
          | false => rfl
          | true =>
            have := hp_tc (b := i) ht c e2 hj (by rw [tc_bit hi, hu]; simp) (by rw [i5 i j hi hj hu]; exact qin j e2)
            rw [e1] at this; exact this
      have qL : ∀ q, q ∈ L → ∀ i, q.testBit i = true → (pl_hp P t k).testBit i = false := by
        intro q hq i hi
        cases e : (pl_hp P t k).testBit i with
        | false => rfl
        | true => have := (i2 q hq).2.2 i hi; rw [qin i e] at this; exact absurd this (by decide)
      refine ⟨⟨?_, fun q hq => ?_, fun i hi => ?_, fun q q' hq hq' hne i hi => ?_⟩, fun i j hi hj hu => ?_, fun i hi => ?_⟩
      · rw [List.nodup_append]
        refine ⟨i1, by simp, fun a ha b hb e => ?_⟩
        rw [List.mem_singleton] at hb
        subst hb
        subst e
        have := qL _ ha k q0
        rw [q0] at this; exact absurd this (by decide)
      · rcases List.mem_append.mp hq with hq | hq
        · exact ⟨(i2 q hq).1, (i2 q hq).2.1, fun i hi => by rw [bd_bit, (i2 q hq).2.2 i hi]; rfl⟩
        · rw [List.mem_singleton] at hq
          subst hq
          exact ⟨pl_hp_lt ht, qcl, fun i hi => by rw [bd_bit, hi]; simp⟩
      · cases e : (pl_hp P t k).testBit i with
        | true => exact Or.inr ⟨_, List.mem_append_right _ (List.mem_singleton.mpr rfl), e⟩
        | false =>
          rcases i3 i hi with h | ⟨q, hq, h⟩
          · left; rw [bd_bit, h, e]; rfl
          · exact Or.inr ⟨q, List.mem_append_left _ hq, h⟩
      · rcases List.mem_append.mp hq with hq | hq <;> rcases List.mem_append.mp hq' with hq' | hq'
        · exact i4 q q' hq hq' hne i hi
        · rw [List.mem_singleton] at hq'
          rw [hq']; exact qL q hq i hi
        · rw [List.mem_singleton] at hq
          rw [hq] at hi
          cases e : q'.testBit i with
          | false => rfl
          | true => have := qL q' hq' i e; rw [hi] at this; exact absurd this (by decide)
        · rw [List.mem_singleton] at hq hq'
          exact absurd (hq.trans hq'.symm) hne
      · rw [bd_bit, bd_bit, i5 i j hi hj hu, qcl i j hi hj hu]
      · rw [bd_bit]
        by_cases e : i = k
        · rw [e, q0]; simp
        · rw [i6 i (by omega)]; rfl
    · rw [if_neg c]
      refine ⟨⟨i1, i2, i3, i4⟩, i5, fun i hi => ?_⟩
      by_cases e : i = k
      · rw [e]; simpa using c
      · exact i6 i (by omega)
theorem HP_hl (P : pl_T) : HP P (pl_hl P (pl_n P)).1 := by
  obtain ⟨⟨i1, i2, i3, i4⟩, i5, i6⟩ := hl_inv P (pl_n P) (Nat.le_refl _)
  refine ⟨i1, fun q hq => ⟨(i2 q hq).1, (i2 q hq).2.1⟩, fun i hi => ?_, i4⟩
  rcases i3 i hi with h | h
  · rw [i6 i hi] at h; exact absurd h (by decide)
  · exact h
theorem sg_hl {P : pl_T} (ok : pl_ok P) {s : Nat} (hs : s < 2 ^ (pl_n P + pl_b P)) : vx P (pl_hl P (pl_n P)).1 s = vl P s := sg ok (HP_hl P) _ s (Nat.le_refl _) hs
end
