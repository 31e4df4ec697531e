/-! THE GAME, as numbers: every game ends; values by what a state leads to -/
theorem cn_mono {a b : Nat} : ∀ k, (∀ i, i < k → a.testBit i = true → b.testBit i = true) → pl_cn a k ≤ pl_cn b k
  | 0, _ => Nat.le_refl _
  | k + 1, h => by
    have ih := cn_mono k (fun i hi => h i (by omega))
    have hk := h k (by omega)
    rw [pl_cn, pl_cn]
    cases ha : a.testBit k with
    | false => simp; omega
    | true => rw [hk ha]; omega
theorem cn_lt {a b : Nat} : ∀ k, (∀ i, i < k → a.testBit i = true → b.testBit i = true) → (∃ i, i < k ∧ b.testBit i = true ∧ a.testBit i = false) → pl_cn a k < pl_cn b k
  | 0, _, ⟨i, hi, _⟩ => by omega
  | k + 1, h, ⟨i, hi, h1, h2⟩ => by
    rw [pl_cn, pl_cn]
    by_cases e : i = k
    · subst e
      have ih := cn_mono i (fun q hq => h q (by omega))
      rw [h1, h2]; simp; omega
    · have ih := cn_lt k (fun q hq => h q (by omega)) ⟨i, by omega, h1, h2⟩
      have hk := h k (by omega)
      cases ha : a.testBit k with
      | false => simp; omega
      | true => rw [hk ha]; omega
theorem cn_or {a i : Nat} : ∀ k, i < k → a.testBit i = false → pl_cn (a ||| 2 ^ i) k = pl_cn a k + 1
  | 0, h, _ => by omega
  | k + 1, h, h1 => by
    rw [pl_cn, pl_cn, Nat.testBit_or, bb_tp]
    by_cases e : i = k
    · subst e
      have e2 : pl_cn (a ||| 2 ^ i) i = pl_cn a i := by
        have : ∀ q, q ≤ i → pl_cn (a ||| 2 ^ i) q = pl_cn a q := by
          intro q
          induction q with
          | zero => intro _; rfl
          | succ q ih => intro hq; rw [pl_cn, pl_cn, ih (by omega), Nat.testBit_or, bb_tp]; simp [show i ≠ q by omega]
        exact this i (Nat.le_refl _)
      rw [e2, h1]; simp
    · rw [cn_or k (by omega) h1]
      simp [e]; omega
theorem cn_le (a : Nat) : ∀ k, pl_cn a k ≤ k
  | 0 => Nat.le_refl _
  | k + 1 => by
    have := cn_le a k
    rw [pl_cn]
    cases a.testBit k <;> simp <;> omega
theorem cn_congr {a b : Nat} : ∀ k, (∀ i, i < k → a.testBit i = b.testBit i) → pl_cn a k = pl_cn b k
  | 0, _ => rfl
  | k + 1, h => by rw [pl_cn, pl_cn, cn_congr k (fun i hi => h i (by omega)), h k (by omega)]
theorem pl_lg_lt {P : pl_T} {h s j : Nat} (hl : pl_lg P h s j = true) : j < pl_n P + pl_b P := by
  rw [pl_lg] at hl
  split at hl
  · omega
  · simp at hl; exact hl.1
theorem pl_nx_lt {P : pl_T} (ok : pl_ok P) {s j : Nat} (hs : s < 2 ^ (pl_n P + pl_b P)) (hj : j < pl_n P + pl_b P) : pl_nx P s j < 2 ^ (pl_n P + pl_b P) := by
  rw [pl_nx]
  split
  · exact bb_bd hs
  · refine bb_or hs (bb_or (bb_p2 ?_) (bb_p2 hj))
    have := ok.2.2.2.2.1 (j - pl_n P) (by omega)
    omega
theorem pl_mu_lt {P : pl_T} (ok : pl_ok P) {h s j : Nat} (hl : pl_lg P h s j = true) : pl_mu P (pl_nx P s j) < pl_mu P s := by
  have hj := pl_lg_lt hl
  rw [pl_lg] at hl
  by_cases h1 : j < pl_n P
  · rw [if_pos h1, Bool.and_eq_true] at hl
    rw [pl_mu, pl_mu, pl_nx, if_pos h1]
    have cl14 : pl_cl P j < 2 ^ pl_n P := bb_or (pl_ab_lt P j) (bb_p2 h1)
    have e1 : pl_cn (bd s (pl_cl P j)) (pl_n P) < pl_cn s (pl_n P) := by
      refine cn_lt _ (fun i _ hi => ?_) ⟨j, h1, hl.1, ?_⟩
      · rw [bd_bit, Bool.and_eq_true] at hi; exact hi.1
      · rw [bd_bit, pl_cl, Nat.testBit_or, bb_tp]; simp
    have e2 : pl_cn (bd s (pl_cl P j) >>> pl_n P) (pl_b P) = pl_cn (s >>> pl_n P) (pl_b P) := by
      refine cn_congr _ (fun i hi => ?_)
      rw [Nat.testBit_shiftRight, Nat.testBit_shiftRight, bd_bit, bb_hi cl14 (by omega)]; simp
    rw [e2]; omega
  · rw [if_neg h1] at hl
    simp only [Bool.and_eq_true, Bool.not_eq_true', decide_eq_true_eq] at hl
    obtain ⟨h2, ⟨h3, h4⟩, h5⟩ := hl
    have hk := ok.2.2.2.2.1 (j - pl_n P) (by omega)
    rw [pl_mu, pl_mu, pl_nx, if_neg h1, pl_st]
    have e1 : pl_cn (s ||| (2 ^ pl_k P (j - pl_n P) ||| 2 ^ j)) (pl_n P) = pl_cn s (pl_n P) + 1 := by
      rw [← cn_or _ hk h3]
      refine cn_congr _ (fun i hi => ?_)
      rw [Nat.testBit_or, Nat.testBit_or, Nat.testBit_or, bb_tp, bb_tp]
      simp [show j ≠ i by omega]
    have e2 : pl_cn ((s ||| (2 ^ pl_k P (j - pl_n P) ||| 2 ^ j)) >>> pl_n P) (pl_b P) = pl_cn (s >>> pl_n P) (pl_b P) + 1 := by
      have h6 : (s >>> pl_n P).testBit (j - pl_n P) = false := by rw [Nat.testBit_shiftRight, show pl_n P + (j - pl_n P) = j by omega]; exact h4
      rw [← cn_or _ (by omega) h6]
      refine cn_congr _ (fun i hi => ?_)
      rw [Nat.testBit_shiftRight, Nat.testBit_or, Nat.testBit_or, Nat.testBit_or, bb_tp, bb_tp, bb_tp, Nat.testBit_shiftRight]
      have : (j = pl_n P + i) = (j - pl_n P = i) := by apply propext; omega
      simp [show pl_k P (j - pl_n P) ≠ pl_n P + i by omega, this]
    have e3 := cn_le ((s ||| (2 ^ pl_k P (j - pl_n P) ||| 2 ^ j)) >>> pl_n P) (pl_b P)
    rw [e1, e2]
    rw [e2] at e3
    omega
theorem pl_mu_le {P : pl_T} (ok : pl_ok P) (s : Nat) : pl_mu P s ≤ 18 := by
  have h1 := cn_le s (pl_n P)
  have h2 := ok.1
  have h3 := ok.2.1
  rw [pl_mu]; omega
theorem pl_ML_mem {P : pl_T} {h s j : Nat} : j ∈ pl_ML P h s ↔ pl_lg P h s j = true := by
  rw [pl_ML, List.mem_filter, List.mem_range]
  exact ⟨fun q => q.2, fun q => ⟨pl_lg_lt q, q⟩⟩
/-- a value of each state, out of the values of those to which it leads -/
def gs {α : Type} (P : pl_T) (G : Nat → Nat → List (Nat × α) → α) (nh : Nat → Nat) (d : α) : Nat → Nat → Nat → α
  | 0, h, s => G h s ((pl_ML P h s).map (fun j => (j, d)))
  | f + 1, h, s => G h s ((pl_ML P h s).map (fun j => (j, gs P G nh d f (nh h) (pl_nx P s j))))
def gv {α : Type} (P : pl_T) (G : Nat → Nat → List (Nat × α) → α) (nh : Nat → Nat) (d : α) (h s : Nat) : α := gs P G nh d (pl_mu P s) h s
theorem gs_eq {α : Type} {P : pl_T} (ok : pl_ok P) (G : Nat → Nat → List (Nat × α) → α) (nh : Nat → Nat) (d : α) : ∀ f g h s, pl_mu P s ≤ f → pl_mu P s ≤ g → gs P G nh d f h s = gs P G nh d g h s := by
  intro f
  induction f with
  | zero =>
    intro g h s h1 h2
    have e : pl_ML P h s = [] := by
      rw [List.eq_nil_iff_forall_not_mem]
      intro j hj
      have := pl_mu_lt ok (pl_ML_mem.mp hj)
      omega
    cases g <;> simp [gs, e]
  | succ f ih =>
    intro g h s h1 h2
    cases g with
    | zero =>
      have e : pl_ML P h s = [] := by
        rw [List.eq_nil_iff_forall_not_mem]
        intro j hj
        have := pl_mu_lt ok (pl_ML_mem.mp hj)
        omega
      simp [gs, e]
    | succ g =>
      rw [gs, gs]
      congr 1
      apply List.map_congr_left
      intro j hj
      have := pl_mu_lt ok (pl_ML_mem.mp hj)
      rw [ih g (nh h) (pl_nx P s j) (by omega) (by omega)]
theorem gv_eq {α : Type} {P : pl_T} (ok : pl_ok P) (G : Nat → Nat → List (Nat × α) → α) (nh : Nat → Nat) (d : α) (h s : Nat) : gv P G nh d h s = G h s ((pl_ML P h s).map (fun j => (j, gv P G nh d (nh h) (pl_nx P s j)))) := by
  rw [gv, gs_eq ok G nh d (pl_mu P s) (pl_mu P s + 1) h s (Nat.le_refl _) (by omega), gs]
  congr 1
  apply List.map_congr_left
  intro j hj
  have := pl_mu_lt ok (pl_ML_mem.mp hj)
  rw [gv, gs_eq ok G nh d (pl_mu P s) (pl_mu P (pl_nx P s j)) (nh h) (pl_nx P s j) (by omega) (Nat.le_refl _)]
/-- the legal steps below k, in order -/
def mlk (P : pl_T) (h s k : Nat) : List Nat := (List.range k).filter (pl_lg P h s)
theorem mlk_0 (P : pl_T) (h s : Nat) : mlk P h s 0 = [] := rfl
theorem mlk_t {P : pl_T} {h s k : Nat} (hl : pl_lg P h s k = true) : mlk P h s (k + 1) = mlk P h s k ++ [k] := by
  rw [mlk, List.range_succ, List.filter_append, mlk]; simp [hl]
theorem mlk_f {P : pl_T} {h s k : Nat} (hl : pl_lg P h s k = false) : mlk P h s (k + 1) = mlk P h s k := by
  rw [mlk, List.range_succ, List.filter_append, mlk]; simp [hl]
theorem mlk_all (P : pl_T) (h s : Nat) : mlk P h s (pl_n P + pl_b P) = pl_ML P h s := rfl
theorem mv_bit {P : pl_T} {h s k : Nat} (hk : k < pl_n P + pl_b P) : (pl_mv P h s).testBit k = pl_lg P h s k := by rw [pl_mv, bm_bit]; simp [hk]
theorem mv_0 {P : pl_T} {h s : Nat} : pl_mv P h s = 0 ↔ pl_ML P h s = [] := by
  rw [List.eq_nil_iff_forall_not_mem]
  constructor
  · intro e j hj
    have h1 := pl_ML_mem.mp hj
    rw [← mv_bit (pl_lg_lt h1), e] at h1
    simp at h1
  · intro e
    apply bb_ext
    intro k
    rw [pl_mv, bm_bit]
    simp only [Nat.zero_testBit, Bool.and_eq_false_iff]
    cases h1 : pl_lg P h s k with
    | false => exact Or.inr rfl
    | true => exact absurd (pl_ML_mem.mpr h1) (e k)
/-- who wins: 1 if whoever is on turn has no step wins -/
def wiG (e : Nat) (_ _ : Nat) (l : List (Nat × Bool)) : Bool := if l.isEmpty then e == 1 else l.any (fun x => !x.2)
def wi (P : pl_T) (e h s : Nat) : Bool := gv P (wiG e) (fun h => 1 - h) false h s
theorem wi_eq {P : pl_T} (ok : pl_ok P) (e h s : Nat) : wi P e h s = if (pl_ML P h s).isEmpty then e == 1 else (pl_ML P h s).any (fun j => !wi P e (1 - h) (pl_nx P s j)) := by
  rw [wi, gv_eq ok, wiG, List.any_map]
  cases pl_ML P h s <;> rfl
