/-! THE TEXT, read sign by sign: what may stand next, lines so far, what they tell, those that are back, a number begun, the last number (1 more; 0: none) -/
abbrev tm_D : Type := Nat → Nat × Nat × Nat × Bool
abbrev tm_T : Type := Nat × Nat × tm_D × Nat × Nat × Nat
def isD (c : Nat) : Bool := decide (48 ≤ c ∧ c ≤ 57)
def dup (dt : tm_D) (k : Nat) (x : Nat × Nat × Nat × Bool) : tm_D := fun j => if j = k then x else dt j
theorem dup_eq (dt : tm_D) (k : Nat) (x : Nat × Nat × Nat × Bool) : dup dt k x k = x := by simp [dup]
theorem dup_ne {dt : tm_D} {k : Nat} {x : Nat × Nat × Nat × Bool} {j : Nat} (h : j ≠ k) : dup dt k x j = dt j := by simp [dup, h]
def tmE (c : Nat) (m : tm_T) : Option tm_T := if c = 59 then some (0, m.2) else none
def tmB (c : Nat) (m : tm_T) : Option tm_T := if c = 114 then (if m.2.2.2.1 < 2 then some (7, m.2.1, dup m.2.2.1 (m.2.1 - 1) ((m.2.2.1 (m.2.1 - 1)).1, (m.2.2.1 (m.2.1 - 1)).2.1, (m.2.2.1 (m.2.1 - 1)).2.2.1, true), m.2.2.2.1 + 1, m.2.2.2.2) else none) else tmE c m
def tmN (ah n : Nat) (m : tm_T) : Option tm_T := if m.2.2.2.2.2 ≤ n ∧ n < ah + m.2.1 - 1 then some (6, m.2.1, dup m.2.2.1 (m.2.1 - 1) ((m.2.2.1 (m.2.1 - 1)).1, (m.2.2.1 (m.2.1 - 1)).2.1, (m.2.2.1 (m.2.1 - 1)).2.2.1 ||| 2 ^ n, (m.2.2.1 (m.2.1 - 1)).2.2.2), m.2.2.2.1, n, n + 1) else none
def tmO (c d : Nat) (m : tm_T) : Option tm_T := if c = d then some (4, m.2) else tmB c m
def tmS (ah c : Nat) (g : Bool) (m : tm_T) : Option tm_T := match m.1 with
  | 0 => if isD c = true ∧ ah + m.2.1 < 14 then some (1, m.2.1 + 1, dup m.2.2.1 m.2.1 (c - 48, 0, 0, false), m.2.2.2.1, m.2.2.2.2.1, 0) else none
  | 1 => if c = 58 then some (2, m.2) else none
  | 2 => if 49 ≤ c ∧ c ≤ 55 then some (3, m.2.1, dup m.2.2.1 (m.2.1 - 1) ((m.2.2.1 (m.2.1 - 1)).1, c - 48, (m.2.2.1 (m.2.1 - 1)).2.2.1, (m.2.2.1 (m.2.1 - 1)).2.2.2), m.2.2.2) else none
  | 3 => tmO c 94 m
  | 4 => if isD c = true then (if g = true then some (5, m.2.1, m.2.2.1, m.2.2.2.1, c - 48, m.2.2.2.2.2) else tmN ah (c - 48) m) else none
  | 5 => tmN ah (m.2.2.2.2.1 * 10 + c - 48) m
  | 6 => tmO c 44 m
  | _ => tmE c m
def tmR (ah b0 : Nat) (dt0 : tm_D) (c : Nat → Nat) (stop : Nat) : Nat → Option tm_T
  | 0 => some (0, 0, dt0, b0, 0, 0)
  | p + 1 => (tmR ah b0 dt0 c stop p).bind (tmS ah (c p) (decide (p + 1 < stop) && isD (c (p + 1))))
def mayE (q : Nat) : Bool := q == 3 || q == 6 || q == 7
/-- the pile with the lines on it -/
def plL (P : pl_T) (dt : tm_D) : Nat → pl_T
  | 0 => P
  | k + 1 => pl_add (plL P dt k) (dt k).1 (dt k).2.1 (dt k).2.2.1 (dt k).2.2.2
theorem plL_n (P : pl_T) (dt : tm_D) : ∀ k, pl_n (plL P dt k) = pl_n P + k
  | 0 => rfl
  | k + 1 => by rw [plL, pl_add_n, plL_n P dt k]; omega
theorem plL_b {P : pl_T} {dt dt' : tm_D} : ∀ k, (∀ j, j < k → (dt' j).2.2.2 = (dt j).2.2.2) → pl_b (plL P dt' k) = pl_b (plL P dt k)
  | 0, _ => rfl
  | k + 1, h => by rw [plL, plL, pl_add_b, pl_add_b, plL_b k (fun j hj => h j (by omega)), h k (by omega)]
def TW (P : pl_T) (m : tm_T) : Prop := m.1 ≤ 7 ∧ (m.1 ≠ 0 → 1 ≤ m.2.1) ∧ pl_n P + m.2.1 ≤ 14 ∧ (m.1 = 5 → m.2.2.2.2.1 ≤ 9) ∧ m.2.2.2.2.2 ≤ 14 ∧ m.2.2.2.1 = pl_b (plL P m.2.2.1 m.2.1) ∧ m.2.2.2.1 ≤ 2 ∧ (1 ≤ m.1 → m.1 ≤ 6 → (m.2.2.1 (m.2.1 - 1)).2.2.2 = false) ∧
  ∀ k, k < m.2.1 → (m.2.2.1 k).1 ≤ 9 ∧ (m.2.2.1 k).2.2.1 < 2 ^ (pl_n P + k) ∧ (k + 1 < m.2.1 ∨ (m.1 ≠ 1 ∧ m.1 ≠ 2) → 1 ≤ (m.2.2.1 k).2.1 ∧ (m.2.2.1 k).2.1 ≤ 7)
theorem TW.E {P : pl_T} {m m' : tm_T} {c : Nat} (h : TW P m) (h3 : 3 ≤ m.1) (e : tmE c m = some m') : TW P m' := by
  obtain ⟨q, l, dt, b, nu, la⟩ := m
  obtain ⟨h1, h2, h3', h4, h5, h6, h7, h8, h9⟩ := h
  simp only [tmE] at e
  split at e
  · cases e
    dsimp only at *
    exact ⟨by dsimp only; omega, fun q => absurd rfl q, h3', fun q => by simp at q, h5, h6, h7, fun q => by simp at q, fun k hk => ⟨(h9 k hk).1, (h9 k hk).2.1, fun _ => (h9 k hk).2.2 (Or.inr ⟨by omega, by omega⟩)⟩⟩
  · simp at e
theorem TW.B {P : pl_T} {m m' : tm_T} {c : Nat} (h : TW P m) (h3 : 3 ≤ m.1) (h6' : m.1 ≤ 6) (e : tmB c m = some m') : TW P m' := by
  unfold tmB at e
  by_cases c1 : c = 114
  · rw [if_pos c1] at e
    obtain ⟨q, l, dt, b, nu, la⟩ := m
    obtain ⟨h1, h2, h3', h4, h5, h6, h7, h8, h9⟩ := h
    dsimp only at *
    split at e
    · cases e
      have l1 := h2 (by omega)
      refine ⟨by dsimp only; omega, fun _ => l1, h3', fun q => by simp at q, h5, ?_, by dsimp only; omega, fun _ q => by simp at q, fun k hk => ?_⟩
      · dsimp only
        obtain ⟨l, rfl⟩ : ∃ j, l = j + 1 := ⟨l - 1, by omega⟩
        rw [plL, pl_add_b, Nat.add_sub_cancel, dup_eq, plL_b l (fun j hj => by rw [dup_ne (by omega)])]
        rw [plL, pl_add_b] at h6
        have h8 := h8 (by omega) h6'
        rw [Nat.add_sub_cancel] at h8
        rw [h8] at h6
        simp at h6 ⊢
        omega
      · dsimp only at hk ⊢
        have h9 := h9 k hk
        by_cases ck : k = l - 1
        · subst ck
          rw [dup_eq]
          exact ⟨h9.1, h9.2.1, fun _ => h9.2.2 (Or.inr ⟨by omega, by omega⟩)⟩
        · rw [dup_ne ck]
          exact ⟨h9.1, h9.2.1, fun _ => h9.2.2 (Or.inr ⟨by omega, by omega⟩)⟩
    · simp at e
  · rw [if_neg c1] at e
    exact h.E h3 e
theorem TW.O {P : pl_T} {m m' : tm_T} {c d : Nat} (h : TW P m) (h3 : 3 ≤ m.1) (h6' : m.1 ≤ 6) (e : tmO c d m = some m') : TW P m' := by
  unfold tmO at e
  by_cases c1 : c = d
  · rw [if_pos c1] at e
    obtain ⟨q, l, dt, b, nu, la⟩ := m
    obtain ⟨h1, h2, h3', h4, h5, h6, h7, h8, h9⟩ := h
    cases e
    dsimp only at *
    exact ⟨by dsimp only; omega, fun _ => h2 (by omega), h3', fun q => by simp at q, h5, h6, h7, fun _ _ => h8 (by omega) h6', fun k hk => ⟨(h9 k hk).1, (h9 k hk).2.1, fun _ => (h9 k hk).2.2 (Or.inr ⟨by omega, by omega⟩)⟩⟩
  · rw [if_neg c1] at e
    exact h.B h3 h6' e
theorem TW.N {P : pl_T} {m m' : tm_T} {n : Nat} (h : TW P m) (h3 : 3 ≤ m.1) (h6' : m.1 ≤ 6) (e : tmN (pl_n P) n m = some m') : TW P m' := by
  obtain ⟨q, l, dt, b, nu, la⟩ := m
  obtain ⟨h1, h2, h3', h4, h5, h6, h7, h8, h9⟩ := h
  simp only [tmN] at e
  split at e
  · rename_i hc
    cases e
    dsimp only at *
    have l1 := h2 (by omega)
    refine ⟨by dsimp only; omega, fun _ => l1, h3', fun q => by simp at q, by dsimp only; omega, ?_, h7, fun _ _ => ?_, fun k hk => ?_⟩
    · dsimp only
      rw [h6]
      refine (plL_b l (fun j hj => ?_)).symm
      by_cases cj : j = l - 1
      · rw [cj, dup_eq]
      · rw [dup_ne cj]
    · dsimp only; rw [dup_eq]; exact h8 (by omega) h6'
    · dsimp only at hk ⊢
      have h9 := h9 k hk
      by_cases ck : k = l - 1
      · subst ck
        rw [dup_eq]
        refine ⟨h9.1, ?_, fun _ => h9.2.2 (Or.inr ⟨by omega, by omega⟩)⟩
        exact bb_or h9.2.1 (bb_p2 (by omega))
      · rw [dup_ne ck]
        exact ⟨h9.1, h9.2.1, fun _ => h9.2.2 (Or.inr ⟨by omega, by omega⟩)⟩
  · simp at e
theorem isD_iff {c : Nat} : isD c = true ↔ 48 ≤ c ∧ c ≤ 57 := by rw [isD, decide_eq_true_eq]
theorem tmS_4 {ah c : Nat} {g : Bool} {m : tm_T} (h4 : m.1 = 4) : tmS ah c g m = if isD c = true then (if g = true then some (5, m.2.1, m.2.2.1, m.2.2.2.1, c - 48, m.2.2.2.2.2) else tmN ah (c - 48) m) else none := by rw [tmS, h4]; rfl
theorem TW.S {P : pl_T} {m m' : tm_T} {c : Nat} {g : Bool} (h : TW P m) (h0 : m.1 = 5 → isD c = true) (e : tmS (pl_n P) c g m = some m') : TW P m' := by
  have hq := h.1
  rcases (show m.1 = 0 ∨ m.1 = 1 ∨ m.1 = 2 ∨ m.1 = 3 ∨ m.1 = 4 ∨ m.1 = 5 ∨ m.1 = 6 ∨ m.1 = 7 by omega) with hm | hm | hm | hm | hm | hm | hm | hm
  · obtain ⟨q, l, dt, b, nu, la⟩ := m
    obtain ⟨h1, h2, h3', h4, h5, h6, h7, h8, h9⟩ := h
    dsimp only at *
    subst hm
    simp only [tmS] at e
    split at e
    · rename_i hc
      cases e
      have dc := isD_iff.mp hc.1
      refine ⟨by dsimp only; omega, fun _ => by dsimp only; omega, by dsimp only; omega, fun q => by simp at q, by dsimp only; omega, ?_, h7, fun _ _ => ?_, fun k hk => ?_⟩
      · dsimp only
        rw [plL, pl_add_b, dup_eq, plL_b l (fun j hj => by rw [dup_ne (by omega)]), h6]
        rfl
      · dsimp only; rw [Nat.add_sub_cancel, dup_eq]
      · dsimp only at hk ⊢
        by_cases ck : k = l
        · subst ck
          rw [dup_eq]
          refine ⟨by dsimp only; omega, Nat.two_pow_pos _, fun q => ?_⟩
          exact absurd q (by omega)
        · rw [dup_ne ck]
          have h9 := h9 k (by omega)
          exact ⟨h9.1, h9.2.1, fun _ => h9.2.2 (Or.inr ⟨by omega, by omega⟩)⟩
    · simp at e
  · obtain ⟨q, l, dt, b, nu, la⟩ := m
    obtain ⟨h1, h2, h3', h4, h5, h6, h7, h8, h9⟩ := h
    dsimp only at *
    subst hm
    simp only [tmS] at e
    split at e
    · cases e
      refine ⟨by dsimp only; omega, fun _ => h2 (by omega), h3', fun q => by simp at q, h5, h6, h7, fun _ _ => h8 (by omega) (by omega), fun k hk => ?_⟩
      have h9 := h9 k hk
      refine ⟨h9.1, h9.2.1, fun q => h9.2.2 (Or.inl ?_)⟩
      dsimp only at q hk
      omega
    · simp at e
  · obtain ⟨q, l, dt, b, nu, la⟩ := m
    obtain ⟨h1, h2, h3', h4, h5, h6, h7, h8, h9⟩ := h
    dsimp only at *
    subst hm
    simp only [tmS] at e
    split at e
    · rename_i hc
      cases e
      have l1 := h2 (by omega)
      refine ⟨by dsimp only; omega, fun _ => l1, h3', fun q => by simp at q, h5, ?_, h7, fun _ _ => ?_, fun k hk => ?_⟩
      · dsimp only
        rw [h6]
        refine (plL_b l (fun j hj => ?_)).symm
        by_cases cj : j = l - 1
        · rw [cj, dup_eq]
        · rw [dup_ne cj]
      · dsimp only; rw [dup_eq]; exact h8 (by omega) (by omega)
      · dsimp only at hk ⊢
        have h9 := h9 k hk
        by_cases ck : k = l - 1
        · subst ck
          rw [dup_eq]
          exact ⟨h9.1, h9.2.1, fun _ => ⟨by dsimp only; omega, by dsimp only; omega⟩⟩
        · rw [dup_ne ck]
          exact ⟨h9.1, h9.2.1, fun _ => h9.2.2 (Or.inl (by omega))⟩
    · simp at e
  · rw [tmS, hm] at e; exact h.O (by omega) (by omega) e
  · rw [tmS_4 hm] at e
    split at e
    · rename_i hc
      have dc := isD_iff.mp hc
      split at e
      · obtain ⟨q, l, dt, b, nu, la⟩ := m
        obtain ⟨h1, h2, h3', h4, h5, h6, h7, h8, h9⟩ := h
        dsimp only at *
        subst hm
        cases e
        exact ⟨by dsimp only; omega, fun _ => h2 (by omega), h3', fun _ => by dsimp only; omega, h5, h6, h7, fun _ _ => h8 (by omega) (by omega), fun k hk => ⟨(h9 k hk).1, (h9 k hk).2.1, fun _ => (h9 k hk).2.2 (Or.inr ⟨by omega, by omega⟩)⟩⟩
      · exact h.N (by omega) (by omega) e
    · simp at e
  · rw [tmS, hm] at e; exact h.N (by omega) (by omega) e
  · rw [tmS, hm] at e; exact h.O (by omega) (by omega) e
  · rw [tmS, hm] at e; exact h.E (by omega) e
theorem TW.R {P : pl_T} (hn : pl_n P ≤ 14) (hb : pl_b P ≤ 2) {dt0 : tm_D} {c : Nat → Nat} {stop : Nat} : ∀ p m, p ≤ stop → tmR (pl_n P) (pl_b P) dt0 c stop p = some m → TW P m ∧ (m.1 = 5 → p < stop ∧ isD (c p) = true)
  | 0, m, _, h => by
    cases h
    exact ⟨⟨by dsimp only; omega, fun q => absurd rfl q, hn, fun q => by simp at q, by dsimp only; omega, rfl, hb, fun q => by simp at q, fun k hk => by simp at hk⟩, fun q => by simp at q⟩
  | p + 1, m, hp, h => by
    rw [tmR] at h
    cases hm : tmR (pl_n P) (pl_b P) dt0 c stop p with
    | none => rw [hm] at h; simp at h
    | some m1 =>
      rw [hm] at h
      have ih := TW.R hn hb p m1 (by omega) hm
      have e : tmS (pl_n P) (c p) (decide (p + 1 < stop) && isD (c (p + 1))) m1 = some m := h
      refine ⟨ih.1.S (fun q => (ih.2 q).2) e, fun q5 => ?_⟩
      have g : (decide (p + 1 < stop) && isD (c (p + 1))) = true := by
        have hq := ih.1.1
        rcases (show m1.1 = 0 ∨ m1.1 = 1 ∨ m1.1 = 2 ∨ m1.1 = 3 ∨ m1.1 = 4 ∨ m1.1 = 5 ∨ m1.1 = 6 ∨ m1.1 = 7 by omega) with k | k | k | k | k | k | k | k <;> rw [tmS, k] at e <;> simp only [tmO, tmB, tmE, tmN] at e
        · split at e
          · cases e; simp at q5
          · simp at e
        · split at e
          · cases e; simp at q5
          · simp at e
        · split at e
          · cases e; simp at q5
          · simp at e
        · repeat' split at e
          all_goals first | (cases e; simp at q5) | simp at e
        · split at e
          · split at e
            · assumption
            · split at e
              · cases e; simp at q5
              · simp at e
          · simp at e
        · split at e
          · cases e; simp at q5
          · simp at e
        · repeat' split at e
          all_goals first | (cases e; simp at q5) | simp at e
        · split at e
          · cases e; simp at q5
          · simp at e
      rw [Bool.and_eq_true, decide_eq_true_eq] at g
      exact g
