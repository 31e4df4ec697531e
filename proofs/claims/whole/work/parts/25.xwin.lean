/-- how soon: won as soon as can be, lost as late as can be -/
def soM (o : Option Nat) (x : Nat) : Nat := match o with
  | none => x
  | some w => if x < w then x else w
def soS (e : Nat) (a : Option Nat × Nat) (x : Nat × Nat) : Option Nat × Nat := if (x.2 + 1) % 2 = e then (a.1, max a.2 (x.2 + 1)) else (some (soM a.1 (x.2 + 1)), a.2)
def soR (a : Option Nat × Nat) : Nat := match a.1 with
  | some w => w
  | none => a.2
def soG (e : Nat) (_ _ : Nat) (l : List (Nat × Nat)) : Nat := soR (l.foldl (soS e) (none, 0))
def so (P : pl_T) (e h s : Nat) : Nat := gv P (soG e) (fun h => 1 - h) 0 h s
def soA (P : pl_T) (e h s k : Nat) : Option Nat × Nat := ((mlk P h s k).map (fun j => (j, so P e (1 - h) (pl_nx P s j)))).foldl (soS e) (none, 0)
theorem so_eq {P : pl_T} (ok : pl_ok P) (e h s : Nat) : so P e h s = soR (soA P e h s (pl_n P + pl_b P)) := by
  rw [so, gv_eq ok]; rfl
theorem soA_t {P : pl_T} {e h s k : Nat} (hl : pl_lg P h s k = true) : soA P e h s (k + 1) = soS e (soA P e h s k) (k, so P e (1 - h) (pl_nx P s k)) := by
  rw [soA, mlk_t hl, List.map_append, List.foldl_append]; rfl
theorem soA_f {P : pl_T} {e h s k : Nat} (hl : pl_lg P h s k = false) : soA P e h s (k + 1) = soA P e h s k := by
  rw [soA, mlk_f hl]; rfl
/-- who wins so far, of the steps below k -/
def wiA (P : pl_T) (e h s k : Nat) : Bool := (mlk P h s k).any (fun j => !wi P e (1 - h) (pl_nx P s j))
theorem wiA_t {P : pl_T} {e h s k : Nat} (hl : pl_lg P h s k = true) : wiA P e h s (k + 1) = (wiA P e h s k || !wi P e (1 - h) (pl_nx P s k)) := by
  rw [wiA, mlk_t hl, List.any_append]; simp [wiA]
theorem wiA_f {P : pl_T} {e h s k : Nat} (hl : pl_lg P h s k = false) : wiA P e h s (k + 1) = wiA P e h s k := by
  rw [wiA, mlk_f hl]; rfl
theorem wi_of {P : pl_T} (ok : pl_ok P) {e h s : Nat} : wi P e h s = if pl_mv P h s = 0 then e == 1 else wiA P e h s (pl_n P + pl_b P) := by
  rw [wi_eq ok]
  by_cases h1 : pl_mv P h s = 0
  · rw [if_pos h1, mv_0.mp h1]; rfl
  · rw [if_neg h1]
    have h2 : (pl_ML P h s).isEmpty = false := by
      cases h3 : pl_ML P h s with
      | nil => exact absurd (mv_0.mpr h3) h1
      | cons a l => rfl
    rw [h2]; rfl
theorem wiA_mono {P : pl_T} {e h s k k' : Nat} (hk : k ≤ k') (h1 : wiA P e h s k = true) : wiA P e h s k' = true := by
  induction k' with
  | zero => rw [show k = 0 by omega] at h1; exact h1
  | succ q ih =>
    by_cases e1 : k = q + 1
    · rw [← e1]; exact h1
    · have ih := ih (by omega)
      cases hl : pl_lg P h s q with
      | true => rw [wiA_t hl, ih]; rfl
      | false => rw [wiA_f hl]; exact ih
/-- what stands of the fold: a length that is won is odd for end 0, even for end 1 -/
theorem so_par {P : pl_T} (ok : pl_ok P) {e : Nat} (he : e ≤ 1) : ∀ m h s, pl_mu P s ≤ m → wi P e h s = decide (so P e h s % 2 ≠ e) ∧ so P e h s ≤ pl_mu P s := by
  intro m
  induction m with
  | zero =>
    intro h s hm
    have e1 : pl_ML P h s = [] := by
      rw [List.eq_nil_iff_forall_not_mem]
      intro j hj
      have := pl_mu_lt ok (pl_ML_mem.mp hj)
      omega
    rw [so_eq ok, wi_of ok, if_pos (mv_0.mpr e1), soA, mlk_all, e1]
    refine ⟨?_, Nat.zero_le _⟩
    rcases (show e = 0 ∨ e = 1 by omega) with rfl | rfl <;> rfl
  | succ m ih =>
    intro h s hm
    have inv : ∀ k, k ≤ pl_n P + pl_b P → (wiA P e h s k = (soA P e h s k).1.isSome) ∧ (∀ w, (soA P e h s k).1 = some w → w % 2 ≠ e ∧ w ≤ pl_mu P s) ∧ (soA P e h s k).2 ≤ pl_mu P s ∧ ((soA P e h s k).1 = none → mlk P h s k ≠ [] → (soA P e h s k).2 % 2 = e ∧ 1 ≤ (soA P e h s k).2) ∧ (mlk P h s k = [] → soA P e h s k = (none, 0)) ∧ ((soA P e h s k).2 = 0 ∨ (soA P e h s k).2 % 2 = e) := by
      intro k
      induction k with
      | zero => intro _; exact ⟨rfl, fun w hw => by simp [soA, mlk_0] at hw, Nat.zero_le _, fun _ q => absurd rfl q, fun _ => rfl, Or.inl rfl⟩
      | succ k ihk =>
        intro hk
        obtain ⟨i1, i2, i3, i4, i5, i6⟩ := ihk (by omega)
        cases hl : pl_lg P h s k with
        | false => rw [wiA_f hl, soA_f hl, mlk_f hl]; exact ⟨i1, i2, i3, i4, i5, i6⟩
        | true =>
          have hmu := pl_mu_lt ok hl
          obtain ⟨j1, j2⟩ := ih (1 - h) (pl_nx P s k) (by omega)
          rw [wiA_t hl, soA_t hl, mlk_t hl, j1]
          generalize hv : so P e (1 - h) (pl_nx P s k) = v at *
          generalize soA P e h s k = A at *
          obtain ⟨A1, A2⟩ := A
          simp only at i1 i2 i3 i4 i5 i6
          unfold soS
          by_cases hc : (v + 1) % 2 = e
          · have hc2 : v % 2 ≠ e := by omega
            simp only [if_pos hc]
            refine ⟨by rw [i1]; simp [hc2], i2, by omega, fun h1 _ => ?_, fun h1 => by simp at h1, ?_⟩
            · rcases Nat.le_total A2 (v + 1) with h2 | h2
              · rw [Nat.max_eq_right h2]; omega
              · rw [Nat.max_eq_left h2]; omega
            · right
              rcases Nat.le_total A2 (v + 1) with h2 | h2
              · rw [Nat.max_eq_right h2]; omega
              · rw [Nat.max_eq_left h2]; omega
          · have hc2 : v % 2 = e := by omega
            simp only [if_neg hc]
            refine ⟨by simp [hc2], fun w hw => ?_, i3, fun h1 => by simp at h1, fun h1 => by simp at h1, i6⟩
            simp only [Option.some.injEq] at hw
            cases A1 with
            | none => simp only [soM] at hw; omega
            | some w0 =>
              have := i2 w0 rfl
              simp only [soM] at hw
              split at hw <;> omega
    obtain ⟨i1, i2, i3, i4, i5, -⟩ := inv (pl_n P + pl_b P) (Nat.le_refl _)
    rw [so_eq ok, wi_of ok]
    rw [mlk_all] at i4 i5
    by_cases h1 : pl_mv P h s = 0
    · rw [if_pos h1, i5 (mv_0.mp h1)]
      refine ⟨?_, Nat.zero_le _⟩
      rcases (show e = 0 ∨ e = 1 by omega) with rfl | rfl <;> rfl
    · rw [if_neg h1, i1]
      have h2 : pl_ML P h s ≠ [] := fun q => h1 (mv_0.mpr q)
      cases hA : (soA P e h s (pl_n P + pl_b P)).1 with
      | none =>
        have := i4 hA h2
        simp only [soR, hA]
        refine ⟨?_, i3⟩
        simp [this.1]
      | some w =>
        have := i2 w hA
        simp only [soR, hA]
        refine ⟨?_, this.2⟩
        simp [this.1]
theorem so_wi {P : pl_T} (ok : pl_ok P) {e : Nat} (he : e ≤ 1) (h s : Nat) : wi P e h s = decide (so P e h s % 2 ≠ e) := (so_par ok he _ h s (Nat.le_refl _)).1
theorem so_le {P : pl_T} (ok : pl_ok P) {e : Nat} (he : e ≤ 1) (h s : Nat) : so P e h s ≤ 18 := Nat.le_trans (so_par ok he _ h s (Nat.le_refl _)).2 (pl_mu_le ok s)
/-! fields of numbers -/
def fd (v q w : Nat) : Nat := v >>> q % 2 ^ w
theorem fd_bit (v q w i : Nat) : (fd v q w).testBit i = (decide (i < w) && v.testBit (q + i)) := by
  rw [fd, Nat.testBit_mod_two_pow, Nat.testBit_shiftRight]
theorem fd_or {v c p wc q w : Nat} (hc : c < 2 ^ wc) (h : p + wc ≤ q ∨ q + w ≤ p) : fd (v ||| c <<< p) q w = fd v q w := by
  apply bb_ext
  intro i
  rw [fd_bit, fd_bit, Nat.testBit_or, Nat.testBit_shiftLeft]
  by_cases hi : i < w
  · by_cases h2 : q + i ≥ p
    · rw [bb_hi hc (by omega : wc ≤ q + i - p)]; simp
    · simp [h2]
  · simp [hi]
theorem fd_self {v c p w : Nat} (hc : c < 2 ^ w) : fd (v ||| c <<< p) p w = fd v p w ||| c := by
  apply bb_ext
  intro i
  rw [fd_bit, Nat.testBit_or, Nat.testBit_or, Nat.testBit_shiftLeft, fd_bit]
  by_cases hi : i < w
  · simp [hi]
  · simp [hi, bb_hi hc (by omega : w ≤ i)]
theorem fd_lt (v q w : Nat) : fd v q w < 2 ^ w := Nat.mod_lt _ (Nat.two_pow_pos w)
theorem shl_lt {c wc p k : Nat} (hc : c < 2 ^ wc) (h : wc + p ≤ k) : c <<< p < 2 ^ k := by
  apply bb_lt
  intro i hi
  rw [Nat.testBit_shiftLeft]
  by_cases h2 : i ≥ p
  · rw [bb_hi hc (by omega)]; simp
  · simp [h2]
/-- what is known of states: who wins, how soon -/
def KIs (P : pl_T) (s : Nat) (x : Int64) : Prop := ∃ v, x = lN v ∧ v < 2 ^ 28 ∧ ∀ h e, h ≤ 1 → e ≤ 1 → (fd v (4 * h + 2 * e) 2 = 0 ∨ fd v (4 * h + 2 * e) 2 = (if wi P e h s then 2 else 1)) ∧ (fd v (8 + 10 * h + 5 * e) 5 = 0 ∨ fd v (8 + 10 * h + 5 * e) 5 = so P e h s + 1)
def KI (P : pl_T) (f : Nat → Int64) : Prop := ∀ s, s < 2 ^ (pl_n P + pl_b P) → KIs P s (f s)
theorem KIs_w {P : pl_T} {s v h e : Nat} (hh : h ≤ 1) (he : e ≤ 1) (hv : v < 2 ^ 28) (hK : ∀ h e, h ≤ 1 → e ≤ 1 → (fd v (4 * h + 2 * e) 2 = 0 ∨ fd v (4 * h + 2 * e) 2 = (if wi P e h s then 2 else 1)) ∧ (fd v (8 + 10 * h + 5 * e) 5 = 0 ∨ fd v (8 + 10 * h + 5 * e) 5 = so P e h s + 1)) : KIs P s (lN (v ||| (if wi P e h s then 2 else 1) <<< (4 * h + 2 * e))) := by
  have c4 : (if wi P e h s then 2 else 1) < 2 ^ 2 := by split <;> decide
  refine ⟨_, rfl, bb_or hv (shl_lt c4 (by omega)), fun h' e' hh' he' => ?_⟩
  obtain ⟨k1, k2⟩ := hK h' e' hh' he'
  refine ⟨?_, by rw [fd_or c4 (by omega)]; exact k2⟩
  by_cases e1 : h' = h ∧ e' = e
  · obtain ⟨rfl, rfl⟩ := e1
    rw [fd_self c4]
    right
    rcases k1 with k1 | k1
    · rw [k1, Nat.zero_or]
    · rw [k1, Nat.or_self]
  · rw [fd_or c4 (by omega)]; exact k1
theorem KIs_s {P : pl_T} (ok : pl_ok P) {s v h e : Nat} (hh : h ≤ 1) (he : e ≤ 1) (hK : KIs P s (lN v)) (hv : v < 2 ^ 28) : KIs P s (lN (v ||| (so P e h s + 1) <<< (8 + 10 * h + 5 * e))) := by
  obtain ⟨v', e0, hv', hK⟩ := hK
  have e1 : v = v' := by
    have h1 := (lN_eq' (by omega) (by omega)).mp e0
    exact h1
  subst e1
  have c5 : so P e h s + 1 < 2 ^ 5 := by have := so_le ok he h s; omega
  refine ⟨_, rfl, bb_or hv (shl_lt c5 (by omega)), fun h' e' hh' he' => ?_⟩
  obtain ⟨k1, k2⟩ := hK h' e' hh' he'
  refine ⟨by rw [fd_or c5 (by omega)]; exact k1, ?_⟩
  by_cases e1 : h' = h ∧ e' = e
  · obtain ⟨rfl, rfl⟩ := e1
    rw [fd_self c5]
    right
    rcases k2 with k2 | k2
    · rw [k2, Nat.zero_or]
    · rw [k2, Nat.or_self]
  · rw [fd_or c5 (by omega)]; exact k2
/-- only one row of longs is another -/
def FrL (q : Nat) (σ σ' : aa_St) : Prop := σ'.1 = σ.1 ∧ σ'.2.2 = σ.2.2 ∧ ∀ a, a ≠ q → σ'.2.1 a = σ.2.1 a
theorem FrL.rf {q : Nat} {σ : aa_St} : FrL q σ σ := ⟨rfl, rfl, fun _ _ => rfl⟩
theorem FrL.tr {q : Nat} {σ σ1 σ2 : aa_St} (h : FrL q σ σ1) (h2 : FrL q σ1 σ2) : FrL q σ σ2 := ⟨h2.1.trans h.1, h2.2.1.trans h.2.1, fun a ha => (h2.2.2 a ha).trans (h.2.2 a ha)⟩
theorem FrL.sL {q : Nat} {σ σ1 : aa_St} (h : FrL q σ σ1) (k : Nat) (x : Int64) : FrL q σ (aa_sL σ1 q k x) := ⟨h.1, h.2.1, fun a ha => (aa_u2_ne ha).trans (h.2.2 a ha)⟩
theorem KI.set {P : pl_T} {σ : aa_St} {q s : Nat} {x : Int64} (h : KI P (σ.2.1 q)) (hx : KIs P s x) : KI P ((aa_sL σ q s x).2.1 q) := by
  intro t ht
  show KIs P t (aa_u2 σ.2.1 q s x q t)
  rw [aa_u2_eq]
  show KIs P t (if t = s then x else σ.2.1 q t)
  by_cases e : t = s
  · subst e; rw [if_pos rfl]; exact hx
  · rw [if_neg e]; exact h t ht
