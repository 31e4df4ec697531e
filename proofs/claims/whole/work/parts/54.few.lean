/-! FEW THINGS, numbered anew -/
def flk (T k : Nat) : List Nat := (List.range k).filter (fun i => T.testBit i)
def fk (T k : Nat) : Nat := (flk T 14).getD k 0
theorem flk_t {T k : Nat} (h : T.testBit k = true) : flk T (k + 1) = flk T k ++ [k] := by
  rw [flk, List.range_succ, List.filter_append, flk]; simp [h]
theorem flk_f {T k : Nat} (h : T.testBit k = false) : flk T (k + 1) = flk T k := by
  rw [flk, List.range_succ, List.filter_append, flk]; simp [h]
theorem flk_len (T : Nat) : ∀ k, (flk T k).length = pl_cn T k
  | 0 => rfl
  | k + 1 => by
    have ih := flk_len T k
    rw [pl_cn]
    cases h : T.testBit k with
    | false => rw [flk_f h]; simpa using ih
    | true => rw [flk_t h, List.length_append]; simpa using ih
theorem cn_mo (T : Nat) : ∀ {k j : Nat}, k ≤ j → pl_cn T k ≤ pl_cn T j := by
  intro k j h
  obtain ⟨d, rfl⟩ : ∃ d, j = k + d := ⟨j - k, by omega⟩
  induction d with
  | zero => exact Nat.le_refl _
  | succ d ih => rw [show k + (d + 1) = k + d + 1 by omega, pl_cn]; have := ih (by omega); omega
theorem flk_pre (T : Nat) {k j i : Nat} (hk : k ≤ j) (hi : i < pl_cn T k) : (flk T j)[i]? = (flk T k)[i]? := by
  obtain ⟨d, rfl⟩ : ∃ d, j = k + d := ⟨j - k, by omega⟩
  induction d with
  | zero => rfl
  | succ d ih =>
    have ih := ih (by omega)
    have hm : pl_cn T k ≤ (flk T (k + d)).length := by
      rw [flk_len]
      exact cn_mo T (by omega)
    rw [show k + (d + 1) = k + d + 1 by omega]
    cases h : T.testBit (k + d) with
    | false => rw [flk_f h]; exact ih
    | true => rw [flk_t h, List.getElem?_append_left (by omega)]; exact ih
theorem cn_lt14 {T i j : Nat} (hij : i < j) (h : T.testBit i = true) : pl_cn T i < pl_cn T j := by
  have := cn_mo T (show i + 1 ≤ j by omega)
  rw [pl_cn, h] at this
  simp at this; omega
theorem fk_cn {T i : Nat} (hi : i < 14) (h : T.testBit i = true) : fk T (pl_cn T i) = i := by
  rw [fk, List.getD_eq_getElem?_getD]
  have e := flk_pre T (k := i + 1) (j := 14) (i := pl_cn T i) (by omega) (by rw [pl_cn, h]; simp)
  rw [e, flk_t h, List.getElem?_append_right (by rw [flk_len]; omega), flk_len, Nat.sub_self]
  rfl
theorem fk_mem {T k : Nat} (hk : k < pl_cn T 14) : fk T k < 14 ∧ T.testBit (fk T k) = true ∧ pl_cn T (fk T k) = k := by
  have key : ∀ j, j ≤ 14 → k < pl_cn T j → ∃ i, i < j ∧ T.testBit i = true ∧ pl_cn T i = k := by
    intro j
    induction j with
    | zero => intro _ h; simp [pl_cn] at h
    | succ j ih =>
      intro hj h
      by_cases c : k < pl_cn T j
      · obtain ⟨i, h1, h2, h3⟩ := ih (by omega) c
        exact ⟨i, by omega, h2, h3⟩
      · rw [pl_cn] at h
        cases hb : T.testBit j with
        | false => rw [hb] at h; simp at h; omega
        | true => rw [hb] at h; simp at h; exact ⟨j, by omega, hb, by omega⟩
  obtain ⟨i, h1, h2, h3⟩ := key 14 (Nat.le_refl _) hk
  have e := fk_cn h1 h2
  rw [h3] at e
  rw [e]
  exact ⟨h1, h2, h3⟩
theorem fk_lt {T j k : Nat} (hk : k < pl_cn T 14) (hj : j < k) : fk T j < fk T k := by
  obtain ⟨a1, a2, a3⟩ := fk_mem hk
  obtain ⟨b1, b2, b3⟩ := fk_mem (T := T) (k := j) (by omega)
  rcases Nat.lt_or_ge (fk T j) (fk T k) with h | h
  · exact h
  · have := cn_mo T h
    omega
theorem fk_n {T n k : Nat} (hT : T < 2 ^ n) (hk : k < pl_cn T 14) : fk T k < n := by
  obtain ⟨a1, a2, a3⟩ := fk_mem hk
  rcases Nat.lt_or_ge (fk T k) n with h | h
  · exact h
  · rw [bb_hi hT h] at a2; exact absurd a2 (by decide)
/-- things numbered anew, and back -/
def rn (T x : Nat) : Nat := bm (pl_cn T 14) (fun k => x.testBit (fk T k))
def ex (T p : Nat) : Nat := bm 14 (fun i => T.testBit i && p.testBit (pl_cn T i))
theorem rn_bit (T x k : Nat) : (rn T x).testBit k = (decide (k < pl_cn T 14) && x.testBit (fk T k)) := bm_bit _ _ _
theorem exT_bit (T p i : Nat) : (ex T p).testBit i = (decide (i < 14) && (T.testBit i && p.testBit (pl_cn T i))) := bm_bit _ _ _
theorem rn_lt (T x : Nat) : rn T x < 2 ^ pl_cn T 14 := bm_lt _ _
theorem ex_lt {T p n : Nat} (hT : T < 2 ^ n) : ex T p < 2 ^ n := by
  apply bb_lt
  intro i hi
  rw [exT_bit, bb_hi hT hi]; simp
theorem ex_fk {T p k : Nat} (hk : k < pl_cn T 14) : (ex T p).testBit (fk T k) = p.testBit k := by
  obtain ⟨a1, a2, a3⟩ := fk_mem hk
  rw [exT_bit, a2, a3]; simp [a1]
theorem ex_bd {T p x : Nat} : ex T (bd p (rn T x)) = bd (ex T p) x := by
  apply bb_ext
  intro i
  rw [exT_bit, bd_bit, bd_bit, exT_bit, rn_bit]
  by_cases hi : i < 14
  · cases h : T.testBit i with
    | false => simp
    | true =>
      rw [fk_cn hi h]
      have := cn_lt14 hi h
      simp [hi, this]
  · simp [hi]
theorem ex_all {T : Nat} (hT : T < 2 ^ 14) : ex T (2 ^ pl_cn T 14 - 1) = T := by
  apply bb_ext
  intro i
  rw [exT_bit, Nat.testBit_two_pow_sub_one]
  by_cases hi : i < 14
  · cases h : T.testBit i with
    | false => simp
    | true => simp [hi, cn_lt14 hi h]
  · simp [hi, bb_hi hT (by omega : 14 ≤ i)]
theorem ex_cn {T p : Nat} (hp : p < 2 ^ pl_cn T 14) : pl_cn (ex T p) 14 = pl_cn p (pl_cn T 14) := by
  have key : ∀ i, i ≤ 14 → pl_cn (ex T p) i = pl_cn p (pl_cn T i) := by
    intro i
    induction i with
    | zero => intro _; rfl
    | succ i ih =>
      intro hi
      rw [pl_cn, ih (by omega), exT_bit, pl_cn]
      cases h : T.testBit i with
      | false => simp
      | true => simp [show i < 14 by omega, pl_cn]
  exact key 14 (Nat.le_refl _)
/-- who may take what of a part -/
def ft (P : pl_T) (T p h : Nat) : Nat := p &&& rn T (T &&& pl_al P h)
def fb (P : pl_T) (T p k : Nat) : Nat := bd p (rn T (pl_cl P (fk T k)))
theorem ft_bit {P : pl_T} {T p h k : Nat} (hT : T < 2 ^ pl_n P) (hk : k < pl_cn T 14) : (ft P T p h).testBit k = pl_lg P h (ex T p) (fk T k) := by
  have hn := fk_n hT hk
  obtain ⟨a1, a2, a3⟩ := fk_mem hk
  rw [ft, Nat.testBit_and, rn_bit, Nat.testBit_and, pl_al, bm_bit, pl_lg, if_pos hn, ex_fk hk, a2]
  simp [hk, hn]
theorem ft_lt {P : pl_T} {T p h : Nat} : ft P T p h < 2 ^ pl_cn T 14 := Nat.lt_of_le_of_lt Nat.and_le_right (rn_lt _ _)
theorem fb_ex {P : pl_T} {T p k : Nat} (hT : T < 2 ^ pl_n P) (hk : k < pl_cn T 14) : ex T (fb P T p k) = pl_nx P (ex T p) (fk T k) := by
  rw [fb, ex_bd, pl_nx, if_pos (fk_n hT hk)]
theorem fb_lt {P : pl_T} {T p k N : Nat} (hp : p < N) : fb P T p k < N := bb_bd hp
theorem bd_le (a b : Nat) : bd a b ≤ a := by
  have : bd a b < a + 1 := bb_bd (Nat.lt_succ_self a)
  omega
theorem fb_less {P : pl_T} {T p h k : Nat} (hk : k < pl_cn T 14) (hb : (ft P T p h).testBit k = true) : fb P T p k < p := by
  have h1 := bd_le p (rn T (pl_cl P (fk T k)))
  have h2 : fb P T p k ≠ p := by
    intro e
    have h3 : p.testBit k = true := by
      rw [ft, Nat.testBit_and, Bool.and_eq_true] at hb; exact hb.1
    have h4 : (fb P T p k).testBit k = false := by
      rw [fb, bd_bit, rn_bit, pl_cl, Nat.testBit_or, bb_tp]; simp [hk]
    rw [e, h3] at h4
    exact absurd h4 (by decide)
  have h3 : fb P T p k ≤ p := h1
  omega
/-- the legal steps below a place, in either numbering -/
def ftl (P : pl_T) (T p h k : Nat) : List Nat := ((List.range k).filter (fun i => (ft P T p h).testBit i)).map (fk T)
theorem ftl_t {P : pl_T} {T p h k : Nat} (hl : (ft P T p h).testBit k = true) : ftl P T p h (k + 1) = ftl P T p h k ++ [fk T k] := by
  rw [ftl, List.range_succ, List.filter_append, ftl]; simp [hl]
theorem ftl_f {P : pl_T} {T p h k : Nat} (hl : (ft P T p h).testBit k = false) : ftl P T p h (k + 1) = ftl P T p h k := by
  rw [ftl, List.range_succ, List.filter_append, ftl]; simp [hl]
theorem ftl_eq {P : pl_T} {T p h : Nat} (hT : T < 2 ^ pl_n P) (hn : pl_n P ≤ 14) : ∀ i, i ≤ pl_n P → ftl P T p h (pl_cn T i) = mlk P h (ex T p) i := by
  intro i
  induction i with
  | zero => intro _; rfl
  | succ i ih =>
    intro hi
    have ih := ih (by omega)
    have lg : pl_lg P h (ex T p) i = ((ex T p).testBit i && (h == 3 || (pl_h P i).testBit h)) := by rw [pl_lg, if_pos (by omega)]
    cases hT2 : T.testBit i with
    | false =>
      rw [pl_cn, hT2]
      rw [exT_bit, hT2] at lg
      rw [mlk_f (by rw [lg]; simp)]
      simpa using ih
    | true =>
      have hk : pl_cn T i < pl_cn T 14 := cn_lt14 (by omega) hT2
      have e := ft_bit (p := p) (h := h) hT hk
      rw [fk_cn (by omega) hT2] at e
      rw [pl_cn, hT2, show Bool.toNat true = 1 from rfl]
      cases hl : pl_lg P h (ex T p) i with
      | false => rw [ftl_f (by rw [e, hl]), mlk_f hl]; exact ih
      | true => rw [ftl_t (by rw [e, hl]), mlk_t hl, ih, fk_cn (by omega) hT2]
theorem cn_stay {T n : Nat} (hT : T < 2 ^ n) (hn : n ≤ 14) : pl_cn T n = pl_cn T 14 := by
  obtain ⟨d, e⟩ : ∃ d, 14 = n + d := ⟨14 - n, by omega⟩
  rw [e]
  clear e hn
  induction d with
  | zero => rfl
  | succ d ih => rw [show n + (d + 1) = n + d + 1 by omega, pl_cn, ← ih, bb_hi hT (by omega)]; simp
theorem ftl_all {P : pl_T} {T p h : Nat} (hT : T < 2 ^ pl_n P) (hn : pl_n P ≤ 14) (hb : pl_b P = 0) : ftl P T p h (pl_cn T 14) = pl_ML P h (ex T p) := by
  rw [← cn_stay hT hn, ftl_eq hT hn _ (Nat.le_refl _), ← mlk_all, hb]; rfl
theorem ftl_len {P : pl_T} {T p h : Nat} : ∀ k, (ftl P T p h k).length = pl_cn (ft P T p h) k
  | 0 => rfl
  | k + 1 => by
    have ih := ftl_len (P := P) (T := T) (p := p) (h := h) k
    rw [pl_cn]
    cases hl : (ft P T p h).testBit k with
    | false => rw [ftl_f hl]; simpa using ih
    | true => rw [ftl_t hl, List.length_append]; simpa using ih
/-- worths of a part -/
def fw (P : pl_T) (T p : Nat) : Nat → Nat
  | 0 => 0
  | k + 1 => fw P T p k + (p.testBit k).toNat * pl_w P (fk T k)
theorem fw_eq {P : pl_T} {T p : Nat} : ∀ i, i ≤ 14 → fw P T p (pl_cn T i) = pl_sm P (ex T p) i := by
  intro i
  induction i with
  | zero => intro _; rfl
  | succ i ih =>
    intro hi
    have ih := ih (by omega)
    rw [pl_sm, pl_cn, exT_bit, ← ih]
    cases h : T.testBit i with
    | false => simp
    | true =>
      rw [show Bool.toNat true = 1 from rfl, fw, fk_cn (by omega) h]
      cases p.testBit (pl_cn T i) <;> simp [show i < 14 by omega]
theorem fw_wo {P : pl_T} {T p : Nat} (hT : T < 2 ^ pl_n P) (hn : pl_n P ≤ 14) : fw P T p (pl_cn T 14) = pl_wo P (ex T p) := by
  rw [← cn_stay hT hn, fw_eq _ hn]; rfl
theorem fw_le {P : pl_T} {T p : Nat} (ok : pl_ok P) (hT : T < 2 ^ pl_n P) : ∀ k, k ≤ pl_cn T 14 → fw P T p k ≤ 9 * k
  | 0, _ => Nat.le_refl _
  | k + 1, hk => by
    have ih := fw_le (p := p) ok hT k (by omega)
    have := (ok.2.2.1 _ (fk_n hT (by omega : k < pl_cn T 14))).1
    rw [fw]
    cases p.testBit k <;> simp <;> omega
