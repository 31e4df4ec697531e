/-! WORTHS: how much more whoever is on turn gets -/
def meS (P : pl_T) (s : Nat) (a : Int) (x : Nat × Int) : Int := max a ((pl_wo P (bd s (pl_nx P s x.1)) : Int) - x.2)
def meG (P : pl_T) (_ s : Nat) (l : List (Nat × Int)) : Int := if l.isEmpty then 0 else l.foldl (meS P s) (-1000)
def me (P : pl_T) (h s : Nat) : Int := gv P (meG P) (fun h => 1 - h) 0 h s
def meA (P : pl_T) (h s k : Nat) : Int := ((mlk P h s k).map (fun j => (j, me P (1 - h) (pl_nx P s j)))).foldl (meS P s) (-1000)
section
variable {P : pl_T}
theorem meA_t {h s k : Nat} (hl : pl_lg P h s k = true) : meA P h s (k + 1) = max (meA P h s k) ((pl_wo P (bd s (pl_nx P s k)) : Int) - me P (1 - h) (pl_nx P s k)) := by
  rw [meA, mlk_t hl, List.map_append, List.foldl_append]; rfl
theorem meA_f {h s k : Nat} (hl : pl_lg P h s k = false) : meA P h s (k + 1) = meA P h s k := by
  rw [meA, mlk_f hl]; rfl
theorem me_eq (ok : pl_ok P) (h s : Nat) : me P h s = if pl_mv P h s = 0 then 0 else meA P h s (pl_n P + pl_b P) := by
  rw [me, gv_eq ok, meG]
  by_cases c : pl_mv P h s = 0
  · rw [if_pos c, mv_0.mp c]; rfl
  · rw [if_neg c]
    have : ((pl_ML P h s).map (fun j => (j, gv P (meG P) (fun h => 1 - h) 0 (1 - h) (pl_nx P s j)))).isEmpty = false := by
      cases e : pl_ML P h s with
      | nil => exact absurd (mv_0.mpr e) c
      | cons a l => rfl
    rw [this]; rfl
theorem sm_split (s c : Nat) : ∀ k, pl_sm P (bd s c) k + pl_sm P (bd s (bd s c)) k = pl_sm P s k
  | 0 => rfl
  | k + 1 => by
    have := sm_split s c k
    rw [pl_sm, pl_sm, pl_sm, bd_bit, bd_bit, bd_bit]
    cases s.testBit k <;> cases c.testBit k <;> simp <;> omega
def pt (P : pl_T) (s : Nat) : Nat := pl_wo P s + 9 * (pl_b P - pl_cn (s >>> pl_n P) (pl_b P))
theorem pt_le (ok : pl_ok P) (s : Nat) : pt P s ≤ 144 := by
  have h1 := pl_wo_le ok s
  have h2 := ok.2.1
  rw [pt]; omega
theorem sm_0 : ∀ k, pl_sm P 0 k = 0
  | 0 => rfl
  | k + 1 => by rw [pl_sm, sm_0 k]; simp
theorem sm_congr {a b : Nat} : ∀ k, (∀ i, i < k → a.testBit i = b.testBit i) → pl_sm P a k = pl_sm P b k
  | 0, _ => rfl
  | k + 1, h => by rw [pl_sm, pl_sm, sm_congr k (fun i hi => h i (by omega)), h k (by omega)]
theorem pt_step (ok : pl_ok P) {h s j : Nat} (hl : pl_lg P h s j = true) : pl_wo P (bd s (pl_nx P s j)) + pt P (pl_nx P s j) ≤ pt P s := by
  have hj := pl_lg_lt hl
  rw [pl_lg] at hl
  by_cases h1 : j < pl_n P
  · rw [pt, pt, pl_nx, if_pos h1]
    have cl14 : pl_cl P j < 2 ^ pl_n P := bb_or (pl_ab_lt P j) (bb_p2 h1)
    have e2 : pl_cn (bd s (pl_cl P j) >>> pl_n P) (pl_b P) = pl_cn (s >>> pl_n P) (pl_b P) := by
      refine cn_congr _ (fun i hi => ?_)
      rw [Nat.testBit_shiftRight, Nat.testBit_shiftRight, bd_bit, bb_hi cl14 (by omega)]; simp
    have e3 := sm_split (P := P) s (pl_cl P j) (pl_n P)
    rw [e2]
    unfold pl_wo
    omega
  · rw [if_neg h1] at hl
    simp only [Bool.and_eq_true, Bool.not_eq_true', decide_eq_true_eq] at hl
    obtain ⟨h2, ⟨h3, h4⟩, h5⟩ := hl
    have hk := ok.2.2.2.2.1 (j - pl_n P) (by omega)
    have hw := (ok.2.2.1 _ hk).1
    rw [pt, pt, pl_nx, if_neg h1, pl_st]
    have e0 : bd s (s ||| (2 ^ pl_k P (j - pl_n P) ||| 2 ^ j)) = 0 := by
      apply bb_ext
      intro i
      rw [bd_bit, Nat.testBit_or, Nat.zero_testBit]
      cases s.testBit i <;> simp
    have e1 : pl_sm P (s ||| (2 ^ pl_k P (j - pl_n P) ||| 2 ^ j)) (pl_n P) = pl_sm P s (pl_n P) + pl_w P (pl_k P (j - pl_n P)) := by
      have := pl_sm_or (P := P) h3 (pl_n P)
      rw [if_pos hk] at this
      rw [← this]
      refine sm_congr _ (fun i hi => ?_)
      rw [Nat.testBit_or, Nat.testBit_or, Nat.testBit_or, bb_tp, bb_tp]
      simp [show j ≠ i by omega]
    have e2 : pl_cn ((s ||| (2 ^ pl_k P (j - pl_n P) ||| 2 ^ j)) >>> pl_n P) (pl_b P) = pl_cn (s >>> pl_n P) (pl_b P) + 1 := by
      have h6 : (s >>> pl_n P).testBit (j - pl_n P) = false := by rw [Nat.testBit_shiftRight, show pl_n P + (j - pl_n P) = j by omega]; exact h4
      rw [← cn_or _ (by omega) h6]
      refine cn_congr _ (fun i hi => ?_)
      rw [Nat.testBit_shiftRight, Nat.testBit_or, Nat.testBit_or, Nat.testBit_or, bb_tp, bb_tp, bb_tp, Nat.testBit_shiftRight]
      have : (j = pl_n P + i) = (j - pl_n P = i) := by apply propext; omega
      simp [show pl_k P (j - pl_n P) ≠ pl_n P + i by omega, this]
    have e3 := cn_le ((s ||| (2 ^ pl_k P (j - pl_n P) ||| 2 ^ j)) >>> pl_n P) (pl_b P)
    rw [e0, e2]
    rw [e2] at e3
    unfold pl_wo
    rw [e1, sm_0]
    omega
theorem me_bd (ok : pl_ok P) : ∀ m h s, pl_mu P s ≤ m → -(pt P s : Int) ≤ me P h s ∧ me P h s ≤ pt P s := by
  intro m
  induction m using Nat.strongRecOn with
  | ind m ih =>
    intro h s hm
    rw [me_eq ok]
    by_cases c : pl_mv P h s = 0
    · rw [if_pos c]; omega
    · rw [if_neg c]
      have p144 := pt_le ok s
      have inv : ∀ k, k ≤ pl_n P + pl_b P → (mlk P h s k = [] → meA P h s k = -1000) ∧ meA P h s k ≤ pt P s ∧ (mlk P h s k ≠ [] → -(pt P s : Int) ≤ meA P h s k) := by
        intro k
        induction k with
        | zero => intro _; exact ⟨fun _ => rfl, by show (-1000 : Int) ≤ _; omega, fun q => absurd rfl q⟩
        | succ k ihk =>
          intro hk
          obtain ⟨i1, i2, i3⟩ := ihk (by omega)
          cases hl : pl_lg P h s k with
          | false => rw [meA_f hl, mlk_f hl]; exact ⟨i1, i2, i3⟩
          | true =>
            have mu := pl_mu_lt ok hl
            have st := pt_step ok hl
            have := ih (pl_mu P (pl_nx P s k)) (by omega) (1 - h) (pl_nx P s k) (Nat.le_refl _)
            rw [meA_t hl, mlk_t hl]
            refine ⟨fun q => by simp at q, by omega, fun _ => by omega⟩
      obtain ⟨-, i2, i3⟩ := inv (pl_n P + pl_b P) (Nat.le_refl _)
      exact ⟨i3 (fun q => c (mv_0.mpr q)), i2⟩
theorem me_le (ok : pl_ok P) (h s : Nat) : -144 ≤ me P h s ∧ me P h s ≤ 144 := by
  have h1 := me_bd ok _ h s (Nat.le_refl _)
  have h2 := pt_le ok s
  omega
theorem meA_le (ok : pl_ok P) (h s : Nat) : ∀ k, -1000 ≤ meA P h s k ∧ meA P h s k ≤ 270
  | 0 => by show (-1000 : Int) ≤ -1000 ∧ (-1000 : Int) ≤ 270; decide
  | k + 1 => by
    have ih := meA_le ok h s k
    cases hl : pl_lg P h s k with
    | false => rw [meA_f hl]; exact ih
    | true =>
      have h1 := me_le ok (1 - h) (pl_nx P s k)
      have h2 := pl_wo_le ok (bd s (pl_nx P s k))
      rw [meA_t hl]
      omega
end
/-! whole numbers, also below 0 -/
def iZ (z : Int) : Int32 := Int32.ofInt z
theorem iZ_N (n : Nat) : nI n = iZ n := rfl
theorem iZ_sub (a b : Int) : iZ a - iZ b = iZ (a - b) := (Int32.ofInt_sub a b).symm
theorem iZ_add (a b : Int) : iZ a + iZ b = iZ (a + b) := (Int32.ofInt_add a b).symm
theorem iZ_le {a b : Int} (ha : -2147483648 ≤ a) (ha2 : a < 2147483648) (hb : -2147483648 ≤ b) (hb2 : b < 2147483648) : iZ a ≤ iZ b ↔ a ≤ b := by
  rw [Int32.le_iff_toInt_le, iZ, iZ, Int32.toInt_ofInt_of_le ha ha2, Int32.toInt_ofInt_of_le hb hb2]
theorem iZ_eq {a b : Int} (ha : -2147483648 ≤ a) (ha2 : a < 2147483648) (hb : -2147483648 ≤ b) (hb2 : b < 2147483648) : iZ a = iZ b ↔ a = b := by
  rw [← Int32.toInt_inj, iZ, iZ, Int32.toInt_ofInt_of_le ha ha2, Int32.toInt_ofInt_of_le hb hb2]
