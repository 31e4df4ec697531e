/-! THE REFERENCE: one heir alone, the most and the fewest moves -/
def tS (P : pl_T) (w s : Nat) : Nat := s &&& pl_al P w
def tL (P : pl_T) (S : Nat) : Nat := bd S (pl_orA (pl_ab P) S (pl_n P))
def tv (P : pl_T) (most : Bool) (w s : Nat) : Nat := if most then pl_cn (tS P w s) 32 else pl_cn (tL P (tS P w s)) 32
section
variable {P : pl_T}
theorem ab_bit (i k : Nat) : (pl_ab P i).testBit k = (decide (k < pl_n P) && pl_A (pl_u P) i k) := bm_bit _ _ _
theorem cl_bit (i k : Nat) : (pl_cl P i).testBit k = true ↔ k < pl_n P ∧ pl_A (pl_u P) i k = true ∨ i = k := by
  rw [pl_cl, Nat.testBit_or, ab_bit, bb_tp]; simp
theorem tS_lg {w s j : Nat} (hj : j < pl_n P) : (tS P w s).testBit j = pl_lg P w s j := by
  rw [tS, Nat.testBit_and, pl_al, bm_bit, pl_lg, if_pos hj]; simp [hj]
theorem tS_hi {w s j : Nat} (hj : ¬ j < pl_n P) : (tS P w s).testBit j = false := by
  rw [tS, Nat.testBit_and, pl_al, bm_bit]; simp [hj]
theorem tS_nx {w s j i : Nat} (hj : j < pl_n P) : (tS P w (pl_nx P s j)).testBit i = ((tS P w s).testBit i && !(pl_cl P j).testBit i) := by
  rw [tS, tS, Nat.testBit_and, Nat.testBit_and, pl_nx, if_pos hj, bd_bit]
  cases s.testBit i <;> cases (pl_al P w).testBit i <;> simp
theorem tL_bit (S i : Nat) (hS : ∀ k, S.testBit k = true → k < pl_n P) : (tL P S).testBit i = true ↔ S.testBit i = true ∧ ∀ k, S.testBit k = true → ¬ pl_A (pl_u P) k i = true := by
  rw [tL, bd_bit]
  constructor
  · intro h
    simp at h
    refine ⟨h.1, fun k hk hA => ?_⟩
    have h2 := h.2
    have : (pl_orA (pl_ab P) S (pl_n P)).testBit i = true := (orA_bit _ _ _ _).mpr ⟨k, hS k hk, hk, by rw [ab_bit]; simp [hS i h.1, hA]⟩
    rw [this] at h2; simp at h2
  · rintro ⟨h1, h2⟩
    rw [h1]
    cases q : (pl_orA (pl_ab P) S (pl_n P)).testBit i with
    | false => rfl
    | true =>
      obtain ⟨j, a, b, c⟩ := (orA_bit _ _ _ _).mp q
      rw [ab_bit] at c
      simp at c
      exact absurd c.2 (h2 j b)
theorem tS_b {w s : Nat} : ∀ k, (tS P w s).testBit k = true → k < pl_n P := by
  intro k hk
  by_cases c : k < pl_n P
  · exact c
  · rw [tS_hi c] at hk; simp at hk
theorem tL_nx {w s j : Nat} (hj : j < pl_n P) (i : Nat) : (tL P (tS P w (pl_nx P s j))).testBit i = ((tL P (tS P w s)).testBit i && !(pl_cl P j).testBit i) := by
  rw [Bool.eq_iff_iff, Bool.and_eq_true, tL_bit _ _ tS_b, tL_bit _ _ tS_b]
  simp only [tS_nx hj, Bool.and_eq_true, Bool.not_eq_true']
  constructor
  · rintro ⟨⟨h1, h2⟩, h3⟩
    refine ⟨⟨h1, fun k hk hA => ?_⟩, h2⟩
    cases q : (pl_cl P j).testBit k with
    | false => exact h3 k ⟨hk, q⟩ hA
    | true =>
      have : (pl_cl P j).testBit i = true := by
        rcases (cl_bit j k).mp q with ⟨-, q2⟩ | q2
        · exact (cl_bit j i).mpr (Or.inl ⟨tS_b i h1, pl_A_trans q2 hA⟩)
        · subst q2; exact (cl_bit j i).mpr (Or.inl ⟨tS_b i h1, hA⟩)
      rw [this] at h2; simp at h2
  · rintro ⟨⟨h1, h2⟩, h3⟩
    exact ⟨⟨h1, h3⟩, fun k hk => h2 k hk.1⟩
theorem tv_most {w s j : Nat} (ok : pl_ok P) (hj : j < pl_n P) (hl : pl_lg P w s j = true) : 1 + tv P true w (pl_nx P s j) ≤ tv P true w s ∧ ((∀ k, (tS P w s).testBit k = true → k ≤ j) → 1 + tv P true w (pl_nx P s j) = tv P true w s) := by
  have h1 := ok.1
  have bj : (tS P w s).testBit j = true := by rw [tS_lg hj]; exact hl
  have cj : (pl_cl P j).testBit j = true := (cl_bit j j).mpr (Or.inr rfl)
  refine ⟨?_, fun h => ?_⟩
  · show 1 + pl_cn _ 32 ≤ pl_cn _ 32
    have := cn_lt (a := tS P w (pl_nx P s j)) (b := tS P w s) 32 (fun i _ hi => by rw [tS_nx hj] at hi; simp at hi; exact hi.1) ⟨j, by omega, bj, by rw [tS_nx hj, cj]; simp⟩
    omega
  · show 1 + pl_cn _ 32 = pl_cn _ 32
    have e : tS P w s = tS P w (pl_nx P s j) ||| 2 ^ j := by
      apply bb_ext
      intro i
      rw [Nat.testBit_or, tS_nx hj, bb_tp]
      by_cases c : j = i
      · subst c; rw [bj]; simp
      · cases q : (tS P w s).testBit i with
        | false => simp [c]
        | true =>
          have := h i q
          have : (pl_cl P j).testBit i = false := by
            cases q2 : (pl_cl P j).testBit i with
            | false => rfl
            | true =>
              rcases (cl_bit j i).mp q2 with ⟨-, q3⟩ | q3
              · have := pl_A_lt q3; omega
              · exact absurd q3 c
          rw [this]; rfl
    rw [e, cn_or 32 (by omega) (by rw [tS_nx hj, cj]; simp)]
    omega
theorem tv_few {w s j : Nat} (ok : pl_ok P) (hj : j < pl_n P) (hl : pl_lg P w s j = true) : tv P false w s ≤ 1 + tv P false w (pl_nx P s j) ∧ ((∀ k, (tS P w s).testBit k = true → j ≤ k) → 1 + tv P false w (pl_nx P s j) = tv P false w s) := by
  have h1 := ok.1
  have bj : (tS P w s).testBit j = true := by rw [tS_lg hj]; exact hl
  have cj : (pl_cl P j).testBit j = true := (cl_bit j j).mpr (Or.inr rfl)
  have one : ∀ i, (tL P (tS P w s)).testBit i = true → (pl_cl P j).testBit i = true → j = i := by
    intro i h2 h3
    rcases (cl_bit j i).mp h3 with ⟨-, q⟩ | q
    · exact absurd q (((tL_bit _ _ tS_b).mp h2).2 j bj)
    · exact q
  have yes : (tL P (tS P w s)).testBit j = true → 1 + tv P false w (pl_nx P s j) = tv P false w s := by
    intro h2
    show 1 + pl_cn _ 32 = pl_cn _ 32
    have e : tL P (tS P w s) = tL P (tS P w (pl_nx P s j)) ||| 2 ^ j := by
      apply bb_ext
      intro i
      rw [Nat.testBit_or, tL_nx hj, bb_tp]
      by_cases c : j = i
      · subst c; rw [h2]; simp
      · cases q : (tL P (tS P w s)).testBit i with
        | false => simp [c]
        | true =>
          cases q2 : (pl_cl P j).testBit i with
          | false => rfl
          | true => exact absurd (one i q q2) c
    have n : (tL P (tS P w (pl_nx P s j))).testBit j = false := by rw [tL_nx hj, cj]; simp
    have := cn_or (a := tL P (tS P w (pl_nx P s j))) (i := j) 32 (by omega) n
    rw [← e] at this
    omega
  refine ⟨?_, fun h => ?_⟩
  · cases q : (tL P (tS P w s)).testBit j with
    | true => have := yes q; omega
    | false =>
      show pl_cn _ 32 ≤ 1 + pl_cn _ 32
      have : pl_cn (tL P (tS P w s)) 32 ≤ pl_cn (tL P (tS P w (pl_nx P s j))) 32 := cn_mono 32 (fun i _ hi => by
        rw [tL_nx hj, hi]
        cases q2 : (pl_cl P j).testBit i with
        | false => rfl
        | true => have := one i hi q2; subst this; rw [q] at hi; simp at hi)
      omega
  · refine yes ((tL_bit _ _ tS_b).mpr ⟨bj, fun k hk hA => ?_⟩)
    have := pl_A_lt hA
    have := h k hk
    omega
theorem ex_lo (f : Nat → Bool) : ∀ n k, k < n → f k = true → ∃ j, j < n ∧ f j = true ∧ ∀ i, i < n → f i = true → j ≤ i
  | 0, k, h, _ => by omega
  | n + 1, k, h, hk => by
    by_cases c : ∃ q, q < n ∧ f q = true
    · obtain ⟨q, h1, h2⟩ := c
      obtain ⟨j, a, b, d⟩ := ex_lo f n q h1 h2
      exact ⟨j, by omega, b, fun i hi hf => by
        by_cases e : i = n
        · omega
        · exact d i (by omega) hf⟩
    · have : k = n := by
        by_cases e : k = n
        · exact e
        · exact absurd ⟨k, by omega, hk⟩ c
      subst this
      exact ⟨k, by omega, hk, fun i hi hf => by
        by_cases e : i = k
        · omega
        · exact absurd ⟨i, by omega, hf⟩ c⟩
theorem ex_hi (f : Nat → Bool) : ∀ n k, k < n → f k = true → ∃ j, j < n ∧ f j = true ∧ ∀ i, i < n → f i = true → i ≤ j
  | 0, k, h, _ => by omega
  | n + 1, k, h, hk => by
    cases c : f n with
    | true => exact ⟨n, by omega, c, fun i hi _ => by omega⟩
    | false =>
      have : k ≠ n := fun e => by rw [e, c] at hk; simp at hk
      obtain ⟨j, a, b, d⟩ := ex_hi f n k (by omega) hk
      exact ⟨j, by omega, b, fun i hi hf => by
        by_cases e : i = n
        · rw [e, c] at hf; simp at hf
        · exact d i (by omega) hf⟩
theorem tv_ex {w s k : Nat} (ok : pl_ok P) (most : Bool) (hk : k < pl_n P) (hl : pl_lg P w s k = true) : ∃ j, j < pl_n P ∧ pl_lg P w s j = true ∧ 1 + tv P most w (pl_nx P s j) = tv P most w s := by
  cases most with
  | true =>
    obtain ⟨j, a, b, c⟩ := ex_hi (fun i => pl_lg P w s i) (pl_n P) k hk hl
    exact ⟨j, a, b, (tv_most ok a b).2 (fun i hi => c i (tS_b i hi) (by rw [← tS_lg (tS_b i hi)]; exact hi))⟩
  | false =>
    obtain ⟨j, a, b, c⟩ := ex_lo (fun i => pl_lg P w s i) (pl_n P) k hk hl
    exact ⟨j, a, b, (tv_few ok a b).2 (fun i hi => c i (tS_b i hi) (by rw [← tS_lg (tS_b i hi)]; exact hi))⟩
theorem tv_0 {w s : Nat} (most : Bool) (h : ∀ j, j < pl_n P → pl_lg P w s j = false) : tv P most w s = 0 := by
  have e : tS P w s = 0 := by
    apply bb_ext
    intro i
    rw [Nat.zero_testBit]
    by_cases c : i < pl_n P
    · rw [tS_lg c]; exact h i c
    · exact tS_hi c
  cases most with
  | true => show pl_cn _ 32 = 0; rw [e]; decide
  | false => show pl_cn (tL P _) 32 = 0; rw [e, tL, show bd 0 (pl_orA (pl_ab P) 0 (pl_n P)) = 0 by have := bd_le 0 (pl_orA (pl_ab P) 0 (pl_n P)); omega]; decide
theorem tv_le (most : Bool) (w s : Nat) : tv P most w s ≤ 32 := by
  unfold tv
  split <;> exact cn_le _ 32
theorem cnM_lo (ok : pl_ok P) {w t m : Nat} (hm : m < 14) : cnM P w t m = (decide (m < pl_n P) && pl_lg P w (dv P t) m) := by
  rw [cnM, decide_eq_true (show m < 28 by omega), Bool.true_and]
  by_cases c : m < pl_n P
  · rw [sp_lo c, decide_eq_true c]; rfl
  · rw [sp_mid ok c hm, decide_eq_false c]; rfl
end
