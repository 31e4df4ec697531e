/-! THE REFERENCE: the class's states as the reference has them -/
def cv (P : pl_T) (s : Nat) : Nat := bm 16 (fun i => if i < 14 then decide (i < pl_n P) && s.testBit i else decide (i - 14 < pl_b P) && s.testBit (pl_n P + (i - 14)))
section
variable {P : pl_T}
theorem cv_lt (s : Nat) : cv P s < 65536 := bm_lt 16 _
theorem cv_lo {s i : Nat} (ok : pl_ok P) (hi : i < pl_n P) : (cv P s).testBit i = s.testBit i := by
  have h1 := ok.1
  rw [cv, bm_bit, if_pos (by omega), decide_eq_true (by omega : i < 16), decide_eq_true hi]; simp
theorem cv_mid {s i : Nat} (hi : ¬ i < pl_n P) (h14 : i < 14) : (cv P s).testBit i = false := by
  rw [cv, bm_bit, if_pos h14, decide_eq_false hi]; simp
theorem cv_hi {s q : Nat} (ok : pl_ok P) (hq : q < pl_b P) : (cv P s).testBit (14 + q) = s.testBit (pl_n P + q) := by
  have h2 := ok.2.1
  rw [cv, bm_bit, if_neg (by omega), show 14 + q - 14 = q by omega, decide_eq_true (by omega : 14 + q < 16), decide_eq_true hq]; simp
theorem cv_hi2 {s q : Nat} (hq : ¬ q < pl_b P) : (cv P s).testBit (14 + q) = false := by
  rw [cv, bm_bit, if_neg (by omega), show 14 + q - 14 = q by omega, decide_eq_false hq]; simp
theorem dv_cv (ok : pl_ok P) {s : Nat} (hs : s < 2 ^ (pl_n P + pl_b P)) : dv P (cv P s) = s := by
  apply bb_ext
  intro i
  by_cases c : i < pl_n P
  · rw [dv_lo c, cv_lo ok c]
  · by_cases c2 : i < pl_n P + pl_b P
    · obtain ⟨q, rfl⟩ : ∃ q, i = pl_n P + q := ⟨i - pl_n P, by omega⟩
      rw [dv_hi (by omega), cv_hi ok (by omega)]
    · rw [bb_hi (dv_lt P _) (by omega), bb_hi hs (by omega)]
theorem cv_ext {a b : Nat} (h1 : ∀ i, i < 14 → a.testBit i = b.testBit i) (h2 : ∀ q, a.testBit (14 + q) = b.testBit (14 + q)) : a = b := by
  apply bb_ext
  intro i
  by_cases c : i < 14
  · exact h1 i c
  · have := h2 (i - 14)
    rw [show 14 + (i - 14) = i by omega] at this
    exact this
theorem cv_af (ok : pl_ok P) {s m j : Nat} (hj : pl_sp P m = some j) : af P (cv P s) m = cv P (pl_nx P s j) := by
  have h1 := ok.1
  have h2 := ok.2.1
  have h5 := ok.2.2.2.2.1
  have jl := pl_sp_lt hj
  by_cases c : m < pl_n P
  · rw [sp_lo c] at hj; cases hj
    have cl14 : pl_cl P m < 2 ^ pl_n P := bb_or (pl_ab_lt P m) (bb_p2 c)
    rw [af_lo (show m < 14 by omega)]
    apply cv_ext
    · intro i hi
      rw [bd_bit]
      by_cases ci : i < pl_n P
      · rw [cv_lo ok ci, cv_lo ok ci, pl_nx, if_pos c, bd_bit]
      · rw [cv_mid ci hi, cv_mid ci hi]; rfl
    · intro q
      rw [bd_bit, bb_hi cl14 (by omega : pl_n P ≤ 14 + q)]
      by_cases cq : q < pl_b P
      · rw [cv_hi ok cq, cv_hi ok cq, pl_nx, if_pos c, bd_bit, bb_hi cl14 (by omega : pl_n P ≤ pl_n P + q)]
      · rw [cv_hi2 cq, cv_hi2 cq]; rfl
  · have c14 : ¬ m < 14 := fun x => by rw [sp_mid ok c x] at hj; simp at hj
    obtain ⟨q, rfl⟩ : ∃ q, m = 14 + q := ⟨m - 14, by omega⟩
    rw [sp_hi ok] at hj
    cases e : bkO P q with
    | none => rw [e] at hj; simp at hj
    | some q0 =>
      rw [e] at hj
      simp at hj
      obtain ⟨q1, q2⟩ := bkO_some e
      have kq := h5 q0 q1
      subst hj
      have nx : pl_nx P s (pl_n P + q0) = s ||| (2 ^ q ||| 2 ^ (pl_n P + q0)) := by
        rw [pl_nx, if_neg (show ¬ pl_n P + q0 < pl_n P by omega), pl_st, Nat.add_sub_cancel_left, q2]
      rw [af_hi, e, nx]
      apply cv_ext
      · intro i hi
        rw [Nat.testBit_or, Nat.testBit_or, bb_tp, bb_tp, Option.getD_some]
        by_cases ci : i < pl_n P
        · rw [cv_lo ok ci, cv_lo ok ci, Nat.testBit_or, Nat.testBit_or, bb_tp, bb_tp]
          simp [show ¬ (14 + q0 = i) by omega, show ¬ (pl_n P + q0 = i) by omega]
        · rw [cv_mid ci hi, cv_mid ci hi]
          simp [show ¬ (14 + q0 = i) by omega, show ¬ (q = i) by omega]
      · intro x
        rw [Nat.testBit_or, Nat.testBit_or, bb_tp, bb_tp, Option.getD_some]
        by_cases cx : x < pl_b P
        · rw [cv_hi ok cx, cv_hi ok cx, Nat.testBit_or, Nat.testBit_or, bb_tp, bb_tp]
          have x1 : (14 + q0 = 14 + x) = (pl_n P + q0 = pl_n P + x) := by apply propext; omega
          simp [show ¬ (q = 14 + x) by omega, show ¬ (q = pl_n P + x) by omega]
        · rw [cv_hi2 cx, cv_hi2 cx]
          simp [show ¬ (q = 14 + x) by omega, show ¬ (q0 = x) by omega]
theorem cv_th (ok : pl_ok P) (s : Nat) : cv P s &&& 16383 = s &&& (2 ^ pl_n P - 1) := by
  have h1 := ok.1
  apply bb_ext
  intro i
  rw [Nat.testBit_and, Nat.testBit_and, Nat.testBit_two_pow_sub_one, show (16383 : Nat) = 2 ^ 14 - 1 from rfl, Nat.testBit_two_pow_sub_one]
  by_cases c : i < pl_n P
  · rw [cv_lo ok c, decide_eq_true c, decide_eq_true (by omega)]
  · by_cases c2 : i < 14
    · rw [cv_mid c c2, decide_eq_false c]; simp
    · rw [decide_eq_false c, decide_eq_false c2]; simp
theorem cv_full (ok : pl_ok P) : cv P (2 ^ pl_n P - 1) = 2 ^ pl_n P - 1 := by
  have h1 := ok.1
  apply cv_ext
  · intro i hi
    by_cases c : i < pl_n P
    · rw [cv_lo ok c]
    · rw [cv_mid c hi, Nat.testBit_two_pow_sub_one, decide_eq_false c]
  · intro q
    rw [Nat.testBit_two_pow_sub_one, decide_eq_false (by omega)]
    by_cases cq : q < pl_b P
    · rw [cv_hi ok cq, Nat.testBit_two_pow_sub_one, decide_eq_false (by omega)]
    · exact cv_hi2 cq
theorem dv_done (ok : pl_ok P) {a : Nat} (ha : a < 16384) : dv P (a ||| 49152) = jtP P a := by
  have h1 := ok.1
  have h2 := ok.2.1
  apply bb_ext
  intro i
  rw [jtP, Nat.testBit_or, Nat.testBit_and, Nat.testBit_two_pow_sub_one, Nat.testBit_shiftLeft, Nat.testBit_two_pow_sub_one]
  have hb : ∀ k, (49152 : Nat).testBit k = (decide (14 ≤ k) && decide (k < 16)) := by
    intro k
    by_cases c : k < 16
    · have : ∀ x : Fin 16, (49152 : Nat).testBit x.val = (decide (14 ≤ x.val) && decide (x.val < 16)) := by decide
      exact this ⟨k, c⟩
    · rw [bb_hi (k := 16) (by decide) (by omega), decide_eq_false c, Bool.and_false]
  by_cases c : i < pl_n P
  · rw [dv_lo c, Nat.testBit_or, hb, decide_eq_true c, decide_eq_false (show ¬ 14 ≤ i by omega), decide_eq_false (show ¬ pl_n P ≤ i by omega)]; simp
  · by_cases c2 : i < pl_n P + pl_b P
    · obtain ⟨q, rfl⟩ : ∃ q, i = pl_n P + q := ⟨i - pl_n P, by omega⟩
      rw [dv_hi (by omega), Nat.testBit_or, hb, decide_eq_true (show 14 ≤ 14 + q by omega), decide_eq_true (show 14 + q < 16 by omega), decide_eq_true (show pl_n P ≤ pl_n P + q by omega), Nat.add_sub_cancel_left, decide_eq_true (show q < pl_b P by omega)]; simp
    · rw [bb_hi (dv_lt P _) (by omega), decide_eq_false c, decide_eq_false (show ¬ i - pl_n P < pl_b P by omega)]; simp
end
