/-! THE PILE, as numbers: n things, b that may be put back, worths, heirs, what they lie on, which are back -/
abbrev pl_T : Type := Nat × Nat × (Nat → Nat) × (Nat → Nat) × (Nat → Nat) × (Nat → Nat)
def pl_n (P : pl_T) : Nat := P.1
def pl_b (P : pl_T) : Nat := P.2.1
def pl_w (P : pl_T) : Nat → Nat := P.2.2.1
def pl_h (P : pl_T) : Nat → Nat := P.2.2.2.1
def pl_u (P : pl_T) : Nat → Nat := P.2.2.2.2.1
def pl_k (P : pl_T) : Nat → Nat := P.2.2.2.2.2
/-- k is above i -/
def pl_Af (u : Nat → Nat) : Nat → Nat → Nat → Bool
  | 0, _, _ => false
  | f + 1, i, k => (List.range k).any (fun j => (u k).testBit j && (j == i || pl_Af u f i j))
def pl_A (u : Nat → Nat) (i k : Nat) : Bool := pl_Af u k i k
theorem pl_Af_eq (u : Nat → Nat) (i : Nat) : ∀ k f, k ≤ f → pl_Af u f i k = pl_A u i k := by
  have key : ∀ k f g, k ≤ f → k ≤ g → pl_Af u f i k = pl_Af u g i k := by
    intro k
    induction k using Nat.strongRecOn with
    | ind k ih =>
      intro f g hf hg
      cases k with
      | zero =>
        cases f <;> cases g <;> simp [pl_Af]
      | succ k =>
        obtain ⟨f, rfl⟩ : ∃ f', f = f' + 1 := ⟨f - 1, by omega⟩
        obtain ⟨g, rfl⟩ : ∃ g', g = g' + 1 := ⟨g - 1, by omega⟩
        simp only [pl_Af]
        rw [Bool.eq_iff_iff, List.any_eq_true, List.any_eq_true]
        constructor
        · rintro ⟨j, hj, h⟩
          refine ⟨j, hj, ?_⟩
          rw [← ih j (List.mem_range.mp hj) f g (by have := List.mem_range.mp hj; omega) (by have := List.mem_range.mp hj; omega)]
          exact h
        · rintro ⟨j, hj, h⟩
          refine ⟨j, hj, ?_⟩
          rw [ih j (List.mem_range.mp hj) f g (by have := List.mem_range.mp hj; omega) (by have := List.mem_range.mp hj; omega)]
          exact h
  intro k f h
  exact key k f k h (Nat.le_refl k)
theorem pl_A_iff (u : Nat → Nat) (i k : Nat) : pl_A u i k = true ↔ ∃ j, j < k ∧ (u k).testBit j = true ∧ (j = i ∨ pl_A u i j = true) := by
  cases k with
  | zero => simp [pl_A, pl_Af]
  | succ k =>
    show pl_Af u (k + 1) i (k + 1) = true ↔ _
    simp only [pl_Af]
    rw [List.any_eq_true]
    constructor
    · rintro ⟨j, hj, h⟩
      have hj := List.mem_range.mp hj
      rw [pl_Af_eq u i j k (by omega)] at h
      simp only [Bool.and_eq_true, Bool.or_eq_true, beq_iff_eq] at h
      exact ⟨j, hj, h.1, h.2⟩
    · rintro ⟨j, hj, h1, h2⟩
      refine ⟨j, List.mem_range.mpr hj, ?_⟩
      rw [pl_Af_eq u i j k (by omega)]
      simp only [Bool.and_eq_true, Bool.or_eq_true, beq_iff_eq]
      exact ⟨h1, h2⟩
theorem pl_A_lt {u : Nat → Nat} {i k : Nat} (h : pl_A u i k = true) : i < k := by
  induction k using Nat.strongRecOn with
  | ind k ih =>
    obtain ⟨j, hj, -, h | h⟩ := (pl_A_iff u i k).mp h
    · omega
    · have := ih j hj h; omega
theorem pl_A_trans {u : Nat → Nat} {i j k : Nat} (h1 : pl_A u i j = true) (h2 : pl_A u j k = true) : pl_A u i k = true := by
  induction k using Nat.strongRecOn with
  | ind k ih =>
    obtain ⟨q, hq, hb, h | h⟩ := (pl_A_iff u j k).mp h2
    · subst h
      exact (pl_A_iff u i k).mpr ⟨q, hq, hb, Or.inr h1⟩
    · exact (pl_A_iff u i k).mpr ⟨q, hq, hb, Or.inr (ih q hq h)⟩
/-- the same from the other side -/
theorem pl_A_up (u : Nat → Nat) (i k : Nat) : pl_A u i k = true ↔ ∃ j, i < j ∧ j ≤ k ∧ (u j).testBit i = true ∧ (j = k ∨ pl_A u j k = true) := by
  induction k using Nat.strongRecOn with
  | ind k ih =>
    constructor
    · intro h
      obtain ⟨q, hq, hb, h | h⟩ := (pl_A_iff u i k).mp h
      · subst h
        exact ⟨k, hq, Nat.le_refl k, hb, Or.inl rfl⟩
      · obtain ⟨j, h1, h2, h3, h4⟩ := (ih q hq).mp h
        refine ⟨j, h1, by omega, h3, Or.inr ?_⟩
        rcases h4 with h4 | h4
        · subst h4
          exact (pl_A_iff u j k).mpr ⟨j, hq, hb, Or.inl rfl⟩
        · exact (pl_A_iff u j k).mpr ⟨q, hq, hb, Or.inr h4⟩
    · rintro ⟨j, h1, h2, h3, h4⟩
      have h5 : pl_A u i j = true := (pl_A_iff u i j).mpr ⟨i, h1, h3, Or.inl rfl⟩
      rcases h4 with h4 | h4
      · subst h4; exact h5
      · exact pl_A_trans h5 h4
/-- numbers made of bits -/
def bm (n : Nat) (f : Nat → Bool) : Nat := match n with
  | 0 => 0
  | n + 1 => bm n f ||| (if f n then 2 ^ n else 0)
theorem bm_bit (n : Nat) (f : Nat → Bool) (k : Nat) : (bm n f).testBit k = (decide (k < n) && f k) := by
  induction n with
  | zero => simp [bm]
  | succ n ih =>
    rw [bm, Nat.testBit_or, ih]
    by_cases h : k = n
    · subst h
      cases hf : f k <;> simp [Nat.testBit_two_pow_self]
    · have e : (if f n then 2 ^ n else 0 : Nat).testBit k = false := by
        split
        · rw [Nat.testBit_two_pow_of_ne (fun q => h q.symm)]
        · simp
      rw [e, Bool.or_false]
      by_cases h2 : k < n
      · simp [h2, Nat.lt_succ_of_lt h2]
      · simp [h2, show ¬ k < n + 1 by omega]
theorem bm_lt (n : Nat) (f : Nat → Bool) : bm n f < 2 ^ n := bb_lt (fun i hi => by rw [bm_bit]; simp [show ¬ i < n by omega])
theorem bm_eq {n a : Nat} {f : Nat → Bool} (ha : a < 2 ^ n) (h : ∀ k, k < n → a.testBit k = f k) : a = bm n f := by
  apply bb_ext
  intro i
  rw [bm_bit]
  by_cases hi : i < n
  · simp [hi, h i hi]
  · simp [hi, bb_hi ha (by omega : n ≤ i)]
/-- what is above a thing, who may take what, what a step does -/
def pl_ab (P : pl_T) (i : Nat) : Nat := bm (pl_n P) (fun k => pl_A (pl_u P) i k)
def pl_al (P : pl_T) (h : Nat) : Nat := bm (pl_n P) (fun k => h == 3 || (pl_h P k).testBit h)
def pl_cl (P : pl_T) (i : Nat) : Nat := pl_ab P i ||| 2 ^ i
def pl_st (P : pl_T) (j : Nat) : Nat := 2 ^ pl_k P (j - pl_n P) ||| 2 ^ j
def pl_lg (P : pl_T) (h s j : Nat) : Bool :=
  if j < pl_n P then s.testBit j && (h == 3 || (pl_h P j).testBit h)
  else decide (j < pl_n P + pl_b P) && (!s.testBit (pl_k P (j - pl_n P)) && !s.testBit j && decide (bd (pl_u P (pl_k P (j - pl_n P))) s = 0))
def pl_nx (P : pl_T) (s j : Nat) : Nat := if j < pl_n P then bd s (pl_cl P j) else s ||| pl_st P j
def pl_mv (P : pl_T) (h s : Nat) : Nat := bm (pl_n P + pl_b P) (pl_lg P h s)
def pl_ML (P : pl_T) (h s : Nat) : List Nat := (List.range (pl_n P + pl_b P)).filter (pl_lg P h s)
def pl_ok (P : pl_T) : Prop := pl_n P ≤ 14 ∧ pl_b P ≤ 2 ∧ (∀ k, k < pl_n P → pl_w P k ≤ 9 ∧ 1 ≤ pl_h P k ∧ pl_h P k ≤ 7 ∧ pl_u P k < 2 ^ k) ∧ (∀ k, pl_n P ≤ k → pl_w P k = 0) ∧ (∀ j, j < pl_b P → pl_k P j < pl_n P) ∧ (pl_b P = 2 → pl_k P 0 < pl_k P 1)
/-- the worths of some things: of all told, the first, .. -/
def pl_sm (P : pl_T) (s : Nat) : Nat → Nat
  | 0 => 0
  | k + 1 => pl_sm P s k + (if s.testBit k then pl_w P k else 0)
def pl_wo (P : pl_T) (s : Nat) : Nat := pl_sm P s (pl_n P)
/-- how far a game can still go -/
def pl_cn (s : Nat) : Nat → Nat
  | 0 => 0
  | k + 1 => pl_cn s k + (s.testBit k).toNat
def pl_mu (P : pl_T) (s : Nat) : Nat := pl_cn s (pl_n P) + 2 * (pl_b P - pl_cn (s >>> pl_n P) (pl_b P))
