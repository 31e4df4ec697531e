/-! THE REFERENCE: how soon, by the code 100 + moves for a win -/
def lc (e x : Nat) : Nat := if x % 2 = e then x else 100 + x
def sob (e x a : Nat) : Prop := (x % 2 ≠ e ∧ a % 2 = e) ∨ (x % 2 ≠ e ∧ a % 2 ≠ e ∧ x < a) ∨ (x % 2 = e ∧ a % 2 = e ∧ a < x)
def sox (P : pl_T) (e h s j : Nat) : Nat := so P e (1 - h) (pl_nx P s j) + 1
def som (P : pl_T) (e h s k : Nat) : Nat := soR (soA P e h s k)
def fsm (P : pl_T) (e h s k : Nat) : Option Nat := (mlk P h s k).find? (fun j => sox P e h s j == som P e h s k)
theorem lc_c (e x : Nat) : x % 2 = e ∧ lc e x = x ∨ x % 2 ≠ e ∧ lc e x = 100 + x := by
  unfold lc; split <;> simp [*]
def SOI (e : Nat) (a : Option Nat × Nat) (emp : Prop) : Prop := (emp → a = (none, 0)) ∧ (∀ w, a.1 = some w → w % 2 ≠ e) ∧ (¬ emp → a.1 = none → a.2 % 2 = e)
theorem SOI.step {e : Nat} {a : Option Nat × Nat} {emp : Prop} (h : SOI e a emp) (j y : Nat) : SOI e (soS e a (j, y)) False ∧ ((emp ∨ sob e (y + 1) (soR a)) → soR (soS e a (j, y)) = y + 1) ∧ (¬ emp → ¬ sob e (y + 1) (soR a) → soR (soS e a (j, y)) = soR a) := by
  obtain ⟨h1, h2, h3⟩ := h
  obtain ⟨o, m⟩ := a
  by_cases c : (y + 1) % 2 = e
  · have e1 : soS e (o, m) (j, y) = (o, max m (y + 1)) := by unfold soS; rw [if_pos c]
    rw [e1]
    cases o with
    | some w =>
      have h2' := h2 w rfl
      refine ⟨⟨fun q => q.elim, h2, fun _ q => by simp at q⟩, fun q => ?_, fun _ _ => rfl⟩
      rcases q with q | q
      · have := h1 q; simp at this
      · exfalso
        show False
        have : sob e (y + 1) w := q
        unfold sob at this; omega
    | none =>
      by_cases ce : emp
      · have := h1 ce
        simp at this
        subst this
        refine ⟨⟨fun q => q.elim, fun w q => by simp at q, fun _ _ => by show max 0 (y + 1) % 2 = e; rw [Nat.max_eq_right (by omega)]; exact c⟩, fun _ => by show max 0 (y + 1) = y + 1; omega, fun q => absurd ce q⟩
      · have h3' : m % 2 = e := h3 ce rfl
        refine ⟨⟨fun q => q.elim, fun w q => by simp at q, fun _ _ => ?_⟩, fun q => ?_, fun _ q => ?_⟩
        · show max m (y + 1) % 2 = e
          rcases Nat.le_total m (y + 1) with g | g
          · rw [Nat.max_eq_right g]; exact c
          · rw [Nat.max_eq_left g]; exact h3'
        · have q := q.resolve_left ce
          have : sob e (y + 1) m := q
          unfold sob at this
          show max m (y + 1) = y + 1
          omega
        · have : ¬ sob e (y + 1) m := q
          unfold sob at this
          show max m (y + 1) = m
          omega
  · have e1 : soS e (o, m) (j, y) = (some (soM o (y + 1)), m) := by unfold soS; rw [if_neg c]
    rw [e1]
    cases o with
    | some w =>
      have h2' := h2 w rfl
      have hm : soM (some w) (y + 1) = if y + 1 < w then y + 1 else w := rfl
      refine ⟨⟨fun q => q.elim, fun x q => ?_, fun _ q => by simp at q⟩, fun q => ?_, fun _ q => ?_⟩
      · have q : soM (some w) (y + 1) = x := by simpa using q
        rw [hm] at q
        split at q <;> omega
      · rcases q with q | q
        · have := h1 q; simp at this
        · have : sob e (y + 1) w := q
          unfold sob at this
          show soM (some w) (y + 1) = y + 1
          rw [hm]; split <;> omega
      · have : ¬ sob e (y + 1) w := q
        unfold sob at this
        show soM (some w) (y + 1) = w
        rw [hm]; split <;> omega
    | none =>
      refine ⟨⟨fun q => q.elim, fun x q => ?_, fun _ q => by simp at q⟩, fun q => rfl, fun ce q => ?_⟩
      · have q : y + 1 = x := by simpa [soM] using q
        omega
      · have h3' : m % 2 = e := h3 ce rfl
        exact absurd (Or.inl ⟨c, h3'⟩) q
section
variable {P : pl_T}
theorem som_inv (e h s : Nat) : ∀ k, SOI e (soA P e h s k) (mlk P h s k = []) ∧ (∀ j, j ∈ mlk P h s k → ¬ sob e (sox P e h s j) (som P e h s k)) ∧ (mlk P h s k ≠ [] → ∃ j, j ∈ mlk P h s k ∧ sox P e h s j = som P e h s k)
  | 0 => ⟨⟨fun _ => rfl, fun w q => by simp [soA, mlk] at q, fun q => absurd rfl q⟩, fun j hj => absurd hj List.not_mem_nil, fun q => absurd rfl q⟩
  | k + 1 => by
    obtain ⟨i1, i2, i3⟩ := som_inv e h s k
    cases hl : pl_lg P h s k with
    | false =>
      rw [mlk_f hl, soA_f hl, som, soA_f hl]; exact ⟨i1, i2, i3⟩
    | true =>
      obtain ⟨s1, s2, s3⟩ := i1.step k (so P e (1 - h) (pl_nx P s k))
      rw [← soA_t hl] at s1 s2 s3
      have ne : ¬ mlk P h s (k + 1) = [] := by rw [mlk_t hl]; simp
      refine ⟨⟨fun q => absurd q ne, s1.2.1, fun _ => s1.2.2 id⟩, fun j hj => ?_, fun _ => ?_⟩
      · rw [mlk_t hl] at hj
        by_cases c : mlk P h s k = [] ∨ sob e (sox P e h s k) (som P e h s k)
        · have e1 : som P e h s (k + 1) = sox P e h s k := s2 c
          rw [e1]
          rcases List.mem_append.mp hj with h1 | h1
          · have := i2 j h1
            have c := c.resolve_left (fun q => by rw [q] at h1; exact absurd h1 List.not_mem_nil)
            unfold sob at this c ⊢; omega
          · simp at h1; subst h1; unfold sob; omega
        · have e1 : som P e h s (k + 1) = som P e h s k := s3 (fun q => c (Or.inl q)) (fun q => c (Or.inr q))
          rw [e1]
          rcases List.mem_append.mp hj with h1 | h1
          · exact i2 j h1
          · simp at h1; subst h1; exact fun q => c (Or.inr q)
      · rw [mlk_t hl]
        by_cases c : mlk P h s k = [] ∨ sob e (sox P e h s k) (som P e h s k)
        · have e1 : som P e h s (k + 1) = sox P e h s k := s2 c
          exact ⟨k, by simp, e1.symm⟩
        · have e1 : som P e h s (k + 1) = som P e h s k := s3 (fun q => c (Or.inl q)) (fun q => c (Or.inr q))
          obtain ⟨j, a, b⟩ := i3 (fun q => c (Or.inl q))
          exact ⟨j, List.mem_append_left _ a, by rw [e1]; exact b⟩
theorem fsm_new {e h s k : Nat} (hl : pl_lg P h s k = true) (c : mlk P h s k = [] ∨ sob e (sox P e h s k) (som P e h s k)) : som P e h s (k + 1) = sox P e h s k ∧ fsm P e h s (k + 1) = some k := by
  obtain ⟨i1, i2, i3⟩ := som_inv (P := P) e h s k
  obtain ⟨s1, s2, s3⟩ := i1.step k (so P e (1 - h) (pl_nx P s k))
  rw [← soA_t hl] at s1 s2 s3
  have e1 : som P e h s (k + 1) = sox P e h s k := s2 c
  refine ⟨e1, ?_⟩
  rw [fsm, e1, mlk_t hl, List.find?_append]
  have : (mlk P h s k).find? (fun j => sox P e h s j == sox P e h s k) = none := by
    rw [List.find?_eq_none]
    intro j hj
    have c := c.resolve_left (fun q => by rw [q] at hj; exact absurd hj List.not_mem_nil)
    have := i2 j hj
    simp
    intro q
    rw [q] at this
    exact this c
  rw [this]; simp
theorem fsm_old {e h s k : Nat} (hl : pl_lg P h s k = true) (c : mlk P h s k ≠ []) (c2 : ¬ sob e (sox P e h s k) (som P e h s k)) : som P e h s (k + 1) = som P e h s k ∧ fsm P e h s (k + 1) = fsm P e h s k := by
  obtain ⟨i1, i2, i3⟩ := som_inv (P := P) e h s k
  obtain ⟨s1, s2, s3⟩ := i1.step k (so P e (1 - h) (pl_nx P s k))
  rw [← soA_t hl] at s1 s2 s3
  have e1 : som P e h s (k + 1) = som P e h s k := s3 c c2
  refine ⟨e1, ?_⟩
  rw [fsm, fsm, e1, mlk_t hl, List.find?_append]
  obtain ⟨j, h3, h4⟩ := i3 c
  cases q : (mlk P h s k).find? (fun j => sox P e h s j == som P e h s k) with
  | some x => rfl
  | none =>
    rw [List.find?_eq_none] at q
    have := q j h3
    simp at this
    exact absurd h4 this
theorem som_all (ok : pl_ok P) (e h s : Nat) : som P e h s (pl_n P + pl_b P) = so P e h s := (so_eq ok e h s).symm
theorem fsm_all (ok : pl_ok P) (e h s : Nat) : fsm P e h s (pl_n P + pl_b P) = fsk P e h s (pl_n P + pl_b P) := by
  rw [fsm, fsk, som_all ok]
  congr 1
  funext j
  rw [sox, Nat.add_comm]
theorem fsm_lt {e h s k j : Nat} (h1 : fsm P e h s k = some j) : j < pl_n P + pl_b P := mlk_lt (List.mem_of_find?_eq_some h1)
theorem som_le (ok : pl_ok P) {e : Nat} (he : e ≤ 1) (h s k : Nat) : som P e h s k ≤ 19 := by
  obtain ⟨i1, i2⟩ := soA_bd ok he h s k
  unfold som soR
  split
  · next w hw => exact i1 w hw
  · exact i2
end
