/-! AFTER THE CONSTRUCTORS: both hold the empty pile -/
def P0 : pl_T := (0, 0, fun _ => 0, fun _ => 0, fun _ => 0, fun _ => 0)
def g0 : gm_T := (0, fun _ => 0, fun _ => 0, 0)
def r0 (q : Nat) : Nat := [26, 28, 31, 37, 40, 48, 50, 77, 78].getD q 0
abbrev σ0 : aa_St := (cI11, cL1, cS182, 87, 755162)
theorem cI11_0 (a : Nat) (h : a ∉ [1, 25, 27, 30, 39, 47, 49, 80]) (k : Nat) : cI11 a k = nI 0 := by
  simp only [List.mem_cons, List.not_mem_nil, or_false, not_or] at h
  obtain ⟨h1, h2, h3, h4, h5, h6, h7, h8⟩ := h
  simp only [cI11, cI10, cI9, cI8, cI7, cI6, cI5, cI4, cI3, cI2, cI1, cI0, aa_u2, if_neg h1, if_neg h2, if_neg h3, if_neg h4, if_neg h5, if_neg h6, if_neg h7, if_neg h8]
  rfl
theorem P0_sm (m k : Nat) : pl_sm P0 m k = 0 := by
  induction k with
  | zero => rfl
  | succ k ih => rw [pl_sm, ih]; split <;> rfl
theorem P0_ok : pl_ok P0 := ⟨by decide, by decide, fun k h => absurd h (Nat.not_lt_zero k), fun _ _ => rfl, fun k h => absurd h (Nat.not_lt_zero k), fun h => by cases h⟩
theorem W0 : aa_W r0 [] σ0 := by
  show cS182 = aa_SH r0 ++ []
  decide +kernel
theorem GV0 : GV P0 g0 := ⟨rfl, fun _ => Nat.zero_lt_one, fun k h => absurd h (Nat.not_lt_zero k)⟩
theorem RQ0 : RQ r0 [] := by
  refine ⟨fun q => ?_, fun p q hp hq hpq => ?_, fun q hq => ?_⟩
  · match q with
    | 0 | 1 | 2 | 3 | 4 | 5 | 6 | 7 | 8 => decide
    | q + 9 => show r0 (q + 9) < 87; simp [r0]
  · have : ∀ p, p < 7 → ∀ q, q < 7 → p ≠ q → r0 p ≠ r0 q := by decide
    exact this p hp q hq hpq
  · have : ∀ q, q < 7 → r0 q = 26 ∨ r0 q = 28 ∨ r0 q = 31 ∨ r0 q = 37 ∨ r0 q = 40 ∨ r0 q = 48 ∨ r0 q = 50 ∨ 87 ≤ r0 q := by decide
    exact this q hq
theorem ji_X : XIv P0 (fun _ => 0) 0 g0 (fun _ => none) 0 0 (fun _ => 0) 0 0 0 1 0 r0 [] σ0 := by
  refine ⟨W0, RQ0, ⟨P0_ok, ?_, ?_, ?_, ?_⟩, cI11_0 7 (by decide) 15, Nat.le_refl _, ⟨?_, ⟨?_, GV0⟩, ?_, ?_, ?_⟩, ?_, ?_, Nat.le_refl _, Nat.le_refl _, Nat.le_refl _, ?_⟩
  · exact ⟨cI11_0 7 (by decide) 13, cI11_0 7 (by decide) 14, fun k h => absurd h (Nat.not_lt_zero k), fun k _ => cI11_0 8 (by decide) k, fun k h => absurd h (Nat.not_lt_zero k), fun k _ => cI11_0 14 (by decide) k⟩
  · exact ⟨fun k h => absurd h (Nat.not_lt_zero k), fun k _ h => absurd h (Nat.not_lt_zero k)⟩
  · exact fun m _ => by rw [P0_sm, P0_sm]; exact ⟨cI11_0 17 (by decide) m, cI11_0 18 (by decide) m⟩
  · exact ⟨cI11_0 7 (by decide) 12, by decide, fun k h hk => by cases hk⟩
  · exact ⟨rfl, by decide, fun k h => absurd h (Nat.not_lt_zero k)⟩
  · exact ⟨cI11_0 20 (by decide) 2, by decide, cI11_0 20 (by decide) 3, cI11_0 20 (by decide) 4, by decide, fun k h => absurd h (Nat.not_lt_zero k)⟩
  · exact fun j _ => ⟨cI11_0 23 (by decide) j, fun g h => by cases h⟩
  · exact ⟨cI11_0 46 (by decide) 2, by decide⟩
  · exact ⟨cI11_0 0 (by decide) 13, by decide, fun k h => absurd h (Nat.not_lt_zero k)⟩
  · refine ⟨?_, ?_, ?_, ?_, ?_, ?_, ⟨?_, ?_⟩, cI11_0 24 (by decide) 3, rfl, Nat.le_refl _⟩
    · exact fun h => absurd (show cI11 25 1 = nI 0 from h) (by decide)
    · exact fun h => absurd (show cI11 27 1 = nI 0 from h) (by decide)
    · exact fun h => absurd (show cI11 30 1 = nI 0 from h) (by decide)
    · exact fun h => absurd rfl h
    · exact fun h => absurd (show cI11 39 1 = nI 0 from h) (by decide)
    · exact fun h => absurd (show cI11 47 1 = nI 0 from h) (by decide)
    · show cI11 49 3 = nI 0
      decide
    · exact Or.inl ⟨rfl, rfl⟩
  · have e : cc 0 σ0.1 = 5 := by decide
    unfold BD ph pn
    rw [e]
    refine ⟨?_, ?_⟩
    · show 755162 + (65536 * 5 + 4096 + 25600) + 327680 * 14 ≤ 6000000 + 100 * 0
      decide
    · show 87 + (5 + 1 + 1) + 5 * 14 ≤ 2000 + 100 * 0
      decide
  · refine ⟨fun a ha => Or.inl ?_, Or.inl (show cI11 49 4 = -1 by decide)⟩
    simp only [List.mem_cons, List.not_mem_nil, or_false] at ha
    rcases ha with rfl | rfl | rfl | rfl | rfl <;> decide
theorem ji_M : MI P0 (fun _ => 0) 0 g0 (fun _ => none) 0 0 (fun _ => 0) 0 r0 [] σ0 := by
  refine ⟨W0, Or.inl ⟨rfl, rfl⟩, ⟨P0_ok, cI11_0 63 (by decide) 3, cI11_0 63 (by decide) 8, fun k h => absurd h (Nat.not_lt_zero k), fun k h => absurd h (Nat.not_lt_zero k)⟩, ⟨cI11_0 63 (by decide) 17, by decide, fun k h => absurd h (Nat.not_lt_zero k)⟩, ⟨?_, cI11_0 63 (by decide) 11, cI11_0 63 (by decide) 12, cI11_0 63 (by decide) 13, fun k h => absurd h (Nat.not_lt_zero k)⟩, ?_, ⟨by decide, ?_⟩, ⟨cI11_0 63 (by decide) 1, by decide, fun k h => absurd h (Nat.not_lt_zero k)⟩, ⟨cI11_0 63 (by decide) 24, by decide, fun p _ => ⟨0, Nat.le_refl _, cI11_0 74 (by decide) p⟩⟩⟩
  · rw [show cv P0 (gst g0) = 0 by decide]; exact cI11_0 63 (by decide) 10
  · exact fun j _ => ⟨false, 0, cI11_0 83 (by decide) j, cI11_0 84 (by decide) j, Nat.le_refl _, rfl, fun g h => by cases h⟩
  · intro h hh
    have : h = 0 ∨ h = 1 ∨ h = 2 := by omega
    rcases this with rfl | rfl | rfl <;> decide
theorem ji_0 : JI 0 σ0 := ⟨P0, fun _ => 0, 0, g0, fun _ => none, 0, 0, fun _ => 0, 0, r0, [], ⟨0, 0, 1, 0, ji_X⟩, ji_M, Nat.le_refl _⟩
