theorem pl_A_congr {u u' : Nat → Nat} (i : Nat) : ∀ k, (∀ q, q ≤ k → u q = u' q) → pl_A u i k = pl_A u' i k := by
  intro k
  induction k using Nat.strongRecOn with
  | ind k ih =>
    intro h
    rw [Bool.eq_iff_iff, pl_A_iff, pl_A_iff]
    constructor
    · rintro ⟨j, h1, h2, h3⟩
      refine ⟨j, h1, by rw [← h k (Nat.le_refl k)]; exact h2, ?_⟩
      rw [← ih j h1 (fun q hq => h q (by omega))]; exact h3
    · rintro ⟨j, h1, h2, h3⟩
      refine ⟨j, h1, by rw [h k (Nat.le_refl k)]; exact h2, ?_⟩
      rw [ih j h1 (fun q hq => h q (by omega))]; exact h3
def nup (f : Nat → Nat) (k v : Nat) : Nat → Nat := fun j => if j = k then v else f j
theorem nup_eq (f : Nat → Nat) (k v : Nat) : nup f k v k = v := by simp [nup]
theorem nup_ne {f : Nat → Nat} {k v j : Nat} (h : j ≠ k) : nup f k v j = f j := by simp [nup, h]
/-- one thing more -/
def pl_add (P : pl_T) (w h u : Nat) (back : Bool) : pl_T := (pl_n P + 1, pl_b P + back.toNat, nup (pl_w P) (pl_n P) w, nup (pl_h P) (pl_n P) h, nup (pl_u P) (pl_n P) u, if back then nup (pl_k P) (pl_b P) (pl_n P) else pl_k P)
theorem pl_add_n (P : pl_T) (w h u : Nat) (back : Bool) : pl_n (pl_add P w h u back) = pl_n P + 1 := rfl
theorem pl_add_b (P : pl_T) (w h u : Nat) (back : Bool) : pl_b (pl_add P w h u back) = pl_b P + back.toNat := rfl
theorem pl_add_ok {P : pl_T} {w h u : Nat} {back : Bool} (ok : pl_ok P) (hn : pl_n P < 14) (hw : w ≤ 9) (h1 : 1 ≤ h) (h7 : h ≤ 7) (hu : u < 2 ^ pl_n P) (hb : pl_b P + back.toNat ≤ 2) : pl_ok (pl_add P w h u back) := by
  obtain ⟨o1, o2, o3, o4, o5, o6⟩ := ok
  refine ⟨by rw [pl_add_n]; omega, hb, fun k hk => ?_, fun k hk => ?_, fun j hj => ?_, fun h2 => ?_⟩
  · rw [pl_add_n] at hk
    show nup (pl_w P) (pl_n P) w k ≤ 9 ∧ 1 ≤ nup (pl_h P) (pl_n P) h k ∧ nup (pl_h P) (pl_n P) h k ≤ 7 ∧ nup (pl_u P) (pl_n P) u k < 2 ^ k
    by_cases e : k = pl_n P
    · subst e; simp only [nup_eq]; exact ⟨hw, h1, h7, hu⟩
    · simp only [nup_ne e]; exact o3 k (by omega)
  · rw [pl_add_n] at hk
    show nup (pl_w P) (pl_n P) w k = 0
    rw [nup_ne (by omega)]; exact o4 k (by omega)
  · rw [pl_add_b] at hj
    rw [pl_add_n]
    show (if back then nup (pl_k P) (pl_b P) (pl_n P) else pl_k P) j < pl_n P + 1
    cases back with
    | false =>
      have := o5 j (by simpa using hj)
      simp; omega
    | true =>
      simp only [if_true]
      by_cases e : j = pl_b P
      · subst e; rw [nup_eq]; omega
      · rw [nup_ne e]
        have := o5 j (by simp at hj; omega)
        omega
  · rw [pl_add_b] at h2
    show (if back then nup (pl_k P) (pl_b P) (pl_n P) else pl_k P) 0 < (if back then nup (pl_k P) (pl_b P) (pl_n P) else pl_k P) 1
    cases back with
    | false => exact o6 (by simpa using h2)
    | true =>
      have hb1 : pl_b P = 1 := by simp at h2; omega
      simp only [if_true, hb1]
      rw [nup_ne (by decide), nup_eq]
      exact o5 0 (by omega)
theorem pl_add_ab {P : pl_T} {w h u : Nat} {back : Bool} {i : Nat} (hi : i < pl_n P) (hu : u < 2 ^ pl_n P) : pl_ab (pl_add P w h u back) i = if u &&& (pl_ab P i ||| 2 ^ i) = 0 then pl_ab P i else pl_ab P i ||| 2 ^ pl_n P := by
  have e : ∀ k, k < pl_n P → pl_A (pl_u (pl_add P w h u back)) i k = pl_A (pl_u P) i k := fun k hk => pl_A_congr i k (fun q hq => nup_ne (by omega))
  have top : pl_A (pl_u (pl_add P w h u back)) i (pl_n P) = decide (¬ u &&& (pl_ab P i ||| 2 ^ i) = 0) := by
    rw [Bool.eq_iff_iff, decide_eq_true_eq, pl_A_iff, bb_and0]
    constructor
    · rintro ⟨j, h1, h2, h3⟩ hall
      have h2 : u.testBit j = true := by have : pl_u (pl_add P w h u back) (pl_n P) = u := nup_eq _ _ _; rw [this] at h2; exact h2
      apply hall j
      refine ⟨h2, ?_⟩
      rw [Nat.testBit_or, bb_tp, pl_ab, bm_bit]
      rcases h3 with h3 | h3
      · simp [h3]
      · rw [e j h1] at h3; simp [h1, h3]
    · intro h3
      obtain ⟨j, h4⟩ := Classical.not_forall.mp h3
      have ⟨h5, h6⟩ := Classical.not_not.mp h4
      have h7 : j < pl_n P := by
        rcases Nat.lt_or_ge j (pl_n P) with q | q
        · exact q
        · rw [bb_hi hu q] at h5; cases h5
      refine ⟨j, h7, by have : pl_u (pl_add P w h u back) (pl_n P) = u := nup_eq _ _ _; rw [this]; exact h5, ?_⟩
      rw [Nat.testBit_or, bb_tp, pl_ab, bm_bit, Bool.or_eq_true, decide_eq_true_eq] at h6
      rcases h6 with h6 | h6
      · right; rw [e j h7]; simp [h7] at h6; exact h6
      · left; exact h6.symm
  rw [pl_ab, pl_add_n, bm, top]
  have e2 : bm (pl_n P) (fun k => pl_A (pl_u (pl_add P w h u back)) i k) = pl_ab P i := by
    rw [pl_ab]
    apply bm_eq (bm_lt _ _)
    intro k hk
    rw [bm_bit, e k hk]; simp [hk]
  rw [e2]
  by_cases h3 : u &&& (pl_ab P i ||| 2 ^ i) = 0 <;> simp [h3]
theorem pl_add_ab0 {P : pl_T} {w h u : Nat} {back : Bool} : pl_ab (pl_add P w h u back) (pl_n P) = 0 := by
  apply bb_ext
  intro k
  rw [pl_ab, bm_bit, pl_add_n]
  simp only [Nat.zero_testBit, Bool.and_eq_false_iff]
  by_cases hk : k < pl_n P + 1
  · right
    cases h3 : pl_A (pl_u (pl_add P w h u back)) (pl_n P) k with
    | false => rfl
    | true => have := pl_A_lt h3; omega
  · left; exact decide_eq_false hk
theorem pl_add_tc {P : pl_T} {w h u : Nat} {back : Bool} {i : Nat} (hi : i < pl_n P) (hui : pl_u P i < 2 ^ pl_n P) : pl_tc (pl_add P w h u back) i = if u.testBit i then pl_tc P i ||| 2 ^ pl_n P else pl_tc P i := by
  have e0 : pl_u (pl_add P w h u back) (pl_n P) = u := nup_eq _ _ _
  have e1 : ∀ q, q < pl_n P → pl_u (pl_add P w h u back) q = pl_u P q := fun q hq => nup_ne (by omega)
  rw [pl_tc, pl_add_n, bm, e0, e1 i hi, bb_hi hui (Nat.le_refl _)]
  have e2 : bm (pl_n P) (fun j => (pl_u P i).testBit j || (pl_u (pl_add P w h u back) j).testBit i) = pl_tc P i := by
    rw [pl_tc]
    apply bm_eq (bm_lt _ _)
    intro k hk
    rw [bm_bit, e1 k hk]; simp [hk]
  rw [e2]
  cases u.testBit i <;> simp
theorem pl_add_tc0 {P : pl_T} {w h u : Nat} {back : Bool} (ok : pl_ok P) (hu : u < 2 ^ pl_n P) : pl_tc (pl_add P w h u back) (pl_n P) = u := by
  have e0 : pl_u (pl_add P w h u back) (pl_n P) = u := nup_eq _ _ _
  symm
  rw [pl_tc, pl_add_n]
  apply bm_eq (Nat.lt_of_lt_of_le hu (pw_lt (by omega)))
  intro k hk
  rw [e0]
  by_cases hk2 : k = pl_n P
  · subst hk2
    rw [e0, bb_hi hu (Nat.le_refl _)]; rfl
  · have : pl_u (pl_add P w h u back) k = pl_u P k := nup_ne hk2
    rw [this, bb_hi ((ok.2.2.1 k (by omega)).2.2.2) (by omega : k ≤ pl_n P), Bool.or_false]
theorem pl_add_al {P : pl_T} {w h u : Nat} {back : Bool} {q : Nat} : pl_al (pl_add P w h u back) q = if (q == 3 || h.testBit q) then pl_al P q ||| 2 ^ pl_n P else pl_al P q := by
  have e0 : pl_h (pl_add P w h u back) (pl_n P) = h := nup_eq _ _ _
  rw [pl_al, pl_add_n, bm, e0]
  have e2 : bm (pl_n P) (fun k => q == 3 || (pl_h (pl_add P w h u back) k).testBit q) = pl_al P q := by
    rw [pl_al]
    apply bm_eq (bm_lt _ _)
    intro k hk
    have : pl_h (pl_add P w h u back) k = pl_h P k := nup_ne (by omega)
    rw [bm_bit, this]; simp [hk]
  rw [e2]
  cases (q == 3 || h.testBit q) <;> simp
/-- the list of heaps as it is found -/
def pl_hl (P : pl_T) : Nat → List Nat × Nat
  | 0 => ([], 2 ^ pl_n P - 1)
  | k + 1 => if (pl_hl P k).2.testBit k then ((pl_hl P k).1 ++ [pl_hp P (pl_hl P k).2 k], bd (pl_hl P k).2 (pl_hp P (pl_hl P k).2 k)) else pl_hl P k
theorem pl_hl_len (P : pl_T) : ∀ k, (pl_hl P k).1.length ≤ k
  | 0 => by simp [pl_hl]
  | k + 1 => by
    have := pl_hl_len P k
    rw [pl_hl]
    split
    · simp; omega
    · omega
theorem pl_hl_lt (P : pl_T) : ∀ k, (pl_hl P k).2 < 2 ^ pl_n P
  | 0 => by have := Nat.two_pow_pos (pl_n P); simp [pl_hl]; omega
  | k + 1 => by
    have := pl_hl_lt P k
    rw [pl_hl]
    split
    · exact bb_bd this
    · exact this
theorem pl_it_lt {P : pl_T} {t s : Nat} (ht : t < 2 ^ pl_n P) : ∀ k s, s < 2 ^ pl_n P → pl_it P t k s < 2 ^ pl_n P
  | 0, s, h => h
  | k + 1, s, h => pl_it_lt (s := s) ht k _ (bb_or h (bb_and_r ht))
theorem pl_hp_lt {P : pl_T} {t i : Nat} (ht : t < 2 ^ pl_n P) : pl_hp P t i < 2 ^ pl_n P := pl_it_lt (s := 0) ht _ _ (bb_and_r ht)
