/-! THE REFERENCE: pairs are pairs -/
section
variable {P : pl_T}
theorem prM_prB {lf rf : Nat → Nat} {many : Nat} (hl : ∀ j, j < many → lf j < pl_n P) (hr : ∀ j, j < many → rf j < pl_n P) (h14 : pl_n P ≤ 14) (hi : ∀ i j, i < j → j < many → lf i < lf j) (hj : ∀ i j, i < many → j < many → rf i = rf j → i = j) :
    ∀ d k used (ρ : Nat → Nat) (π : Nat → Option Nat) a b, k + d = many → (∀ z, a.testBit z = true ↔ ∃ j, k ≤ j ∧ j < many ∧ lf j = z) → (∀ z, b.testBit z = true ↔ ∃ p, p < many ∧ used.testBit p = false ∧ rf p = z) → (∀ j, j < k → π (lf j) = some (ρ j)) → (∀ z, (∀ j, j < k → lf j ≠ z) → π z = none) → prM P d a b π = prB P lf rf many d k used ρ := by
  intro d
  induction d with
  | zero =>
    intro k used ρ π a b hd ha hb h1 h2
    have : a = 0 := by
      apply bb_ext
      intro z
      rw [Nat.zero_testBit]
      cases q : a.testBit z with
      | false => rfl
      | true => obtain ⟨j, x1, x2, -⟩ := (ha z).mp q; omega
    rw [prM, prB, decide_eq_true this]
  | succ d ih =>
    intro k used ρ π a b hd ha hb h1 h2
    have hk : k < many := by omega
    have ak : a.testBit (lf k) = true := (ha _).mpr ⟨k, Nat.le_refl _, hk, rfl⟩
    have a0 : a ≠ 0 := fun e => by rw [e] at ak; simp at ak
    have al : a < 16384 := by
      have : a < 2 ^ 14 := bb_lt (fun z hz => by
        cases q : a.testBit z with
        | false => rfl
        | true => obtain ⟨j, x1, x2, x3⟩ := (ha z).mp q; have := hl j x2; omega)
      exact this
    have lo : lo1 a = lf k := by
      obtain ⟨l1, l2, l3⟩ := lo1_spec a0 al
      obtain ⟨j, x1, x2, x3⟩ := (ha _).mp l2
      by_cases c : j = k
      · rw [← x3, c]
      · have := hi k j (by omega) x2
        have := l3 (lf k) (by omega)
        rw [ak] at this; simp at this
    have ef : ∀ y, fz P π (lf k) y (pl_n P) = fitB P lf ρ k y := by
      intro y
      rw [fz, fitB, Bool.eq_iff_iff, List.all_eq_true, List.all_eq_true]
      constructor
      · intro h j hj2
        rw [List.mem_range] at hj2
        have := h (lf j) (List.mem_range.mpr (hl j (by omega)))
        rw [fz1, h1 j hj2] at this
        exact this
      · intro h z hz
        by_cases c : ∃ j, j < k ∧ lf j = z
        · obtain ⟨j, c1, c2⟩ := c
          subst c2
          rw [fz1, h1 j c1]
          exact h j (List.mem_range.mpr c1)
        · rw [fz1, h2 z (fun j hj2 e => c ⟨j, hj2, e⟩)]
    have step : ∀ p, p < many → used.testBit p = false → prM P d (bd a (2 ^ lf k)) (bd b (2 ^ rf p)) (fun z => if z = lf k then some (rf p) else π z) = prB P lf rf many d (k + 1) (used ||| 2 ^ p) (nup ρ k (rf p)) := by
      intro p hp hu
      refine ih (k + 1) (used ||| 2 ^ p) (nup ρ k (rf p)) _ _ _ (by omega) (fun z => ?_) (fun z => ?_) (fun j hj2 => ?_) (fun z hz => ?_)
      · rw [bd_bit, bb_tp]
        constructor
        · intro h
          simp at h
          obtain ⟨j, x1, x2, x3⟩ := (ha z).mp h.1
          refine ⟨j, ?_, x2, x3⟩
          by_cases c : j = k
          · subst c; exact absurd x3 h.2
          · omega
        · rintro ⟨j, x1, x2, x3⟩
          rw [(ha z).mpr ⟨j, by omega, x2, x3⟩]
          have := hi k j (by omega) x2
          simp; omega
      · rw [bd_bit, bb_tp]
        constructor
        · intro h
          simp at h
          obtain ⟨q, x1, x2, x3⟩ := (hb z).mp h.1
          refine ⟨q, x1, ?_, x3⟩
          rw [Nat.testBit_or, x2, bb_tp]
          simp
          intro e
          subst e; exact h.2 x3
        · rintro ⟨q, x1, x2, x3⟩
          rw [Nat.testBit_or, bb_tp] at x2
          simp at x2
          rw [(hb z).mpr ⟨q, x1, x2.1, x3⟩]
          simp
          intro e
          exact x2.2 (hj p q hp x1 (by omega))
      · by_cases c : j = k
        · subst c
          simp [nup]
        · have := hi j k (by omega) hk
          simp only [if_neg (show ¬ lf j = lf k by omega)]
          rw [h1 j (by omega)]
          simp [nup, c]
      · have c1 := hz k (by omega)
        simp only [if_neg (Ne.symm c1)]
        exact h2 z (fun j hj2 => hz j (by omega))
    rw [prM, prB, decide_eq_false a0, Bool.false_or, lo, Bool.eq_iff_iff, List.any_eq_true, List.any_eq_true]
    constructor
    · rintro ⟨y, y1, y2⟩
      simp only [Bool.and_eq_true] at y2
      obtain ⟨p, x1, x2, x3⟩ := (hb y).mp y2.1.1
      subst x3
      refine ⟨p, List.mem_range.mpr x1, ?_⟩
      rw [x2, ← ef, y2.1.2, ← step p x1 x2, y2.2]; rfl
    · rintro ⟨p, p1, p2⟩
      rw [List.mem_range] at p1
      simp only [Bool.and_eq_true, Bool.not_eq_true'] at p2
      refine ⟨rf p, List.mem_range.mpr (hr p p1), ?_⟩
      rw [(hb _).mpr ⟨p, p1, p2.1, rfl⟩, ef, p2.2.1, step p p1 p2.1, p2.2.2]; rfl
theorem blk_in {h x : Nat} (hx : x < 14) (hb : h.testBit x = true) : ∃ p, p < (blk h 14).length ∧ (blk h 14)[p]?.getD 0 = x := by
  have : x ∈ blk h 14 := List.mem_filter.mpr ⟨List.mem_range.mpr hx, hb⟩
  obtain ⟨p, h1, h2⟩ := List.getElem_of_mem this
  exact ⟨p, h1, by rw [List.getElem?_eq_getElem h1]; exact h2⟩
theorem blk_lt {h i j : Nat} (hij : i < j) (hj : j < (blk h 14).length) : (blk h 14)[i]?.getD 0 < (blk h 14)[j]?.getD 0 := by
  have pw : (blk h 14).Pairwise (· < ·) := List.Pairwise.filter _ List.pairwise_lt_range
  rw [List.getElem?_eq_getElem hj, List.getElem?_eq_getElem (by omega : i < (blk h 14).length)]
  exact List.pairwise_iff_getElem.mp pw i j (by omega) hj hij
theorem blk_bit {h p : Nat} (hp : p < (blk h 14).length) : h.testBit ((blk h 14)[p]?.getD 0) = true := by
  rw [List.getElem?_eq_getElem hp]
  exact (List.mem_filter.mp (List.getElem_mem hp)).2
theorem prM_all {a b : Nat} (h14 : pl_n P ≤ 14) (ha : a < 2 ^ pl_n P) (hb : b < 2 ^ pl_n P) (hl : (blk a 14).length = (blk b 14).length) : prM P (blk a 14).length a b (fun _ => none) = prB P (fun j => (blk a 14)[j]?.getD 0) (fun j => (blk b 14)[j]?.getD 0) (blk a 14).length (blk a 14).length 0 0 (fun _ => 0) := by
  have inn : ∀ h x, h < 2 ^ pl_n P → h.testBit x = true → x < pl_n P := by
    intro h x hh hx
    apply Classical.byContradiction
    intro c
    rw [bb_hi hh (by omega)] at hx
    simp at hx
  refine prM_prB (fun j hj => inn a _ ha (blk_bit hj)) (fun j hj => inn b _ hb (blk_bit (by omega))) h14 (fun i j hij hj => blk_lt hij hj) (fun i j hi hj e => ?_) _ 0 0 _ _ a b (by omega) (fun z => ?_) (fun z => ?_) (fun j hj => by omega) (fun _ _ => rfl)
  · rcases Nat.lt_trichotomy i j with c | c | c
    · have := blk_lt (h := b) c (by omega); omega
    · exact c
    · have := blk_lt (h := b) c (by omega); omega
  · constructor
    · intro h
      obtain ⟨p, x1, x2⟩ := blk_in (h := a) (by have := inn a z ha h; omega) h
      exact ⟨p, by omega, x1, x2⟩
    · rintro ⟨j, -, x2, x3⟩
      rw [← x3]; exact blk_bit x2
  · constructor
    · intro h
      obtain ⟨p, x1, x2⟩ := blk_in (h := b) (by have := inn b z hb h; omega) h
      exact ⟨p, by omega, by simp, x2⟩
    · rintro ⟨j, x2, -, x3⟩
      rw [← x3]; exact blk_bit (by omega)
end
