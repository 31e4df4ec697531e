/-! THE REFERENCE: states as bits of 14 things and 2 put back; moves by their numbers -/
def dv (P : pl_T) (t : Nat) : Nat := bm (pl_n P + pl_b P) (fun j => if j < pl_n P then t.testBit j else t.testBit (14 + (j - pl_n P)))
def bkO (P : pl_T) (i : Nat) : Option Nat := (List.range (pl_b P)).find? (fun j => pl_k P j == i)
def cnM (P : pl_T) (h t m : Nat) : Bool := decide (m < 28) && (match pl_sp P m with
  | some j => pl_lg P h (dv P t) j
  | none => false)
def af (P : pl_T) (t m : Nat) : Nat := if m < 14 then bd t (pl_cl P m) else t ||| 2 ^ (m - 14) ||| 2 ^ (14 + (bkO P (m - 14)).getD 0)
def msT (P : pl_T) (m : Nat) : Nat := if m ≤ pl_n P then m else if m ≤ 14 then pl_n P else pl_n P + (if 0 < pl_b P ∧ pl_k P 0 < m - 14 then 1 else 0) + (if 1 < pl_b P ∧ pl_k P 1 < m - 14 then 1 else 0)
theorem dv_bit (P : pl_T) (t j : Nat) : (dv P t).testBit j = (decide (j < pl_n P + pl_b P) && (if j < pl_n P then t.testBit j else t.testBit (14 + (j - pl_n P)))) := bm_bit _ _ _
theorem dv_lt (P : pl_T) (t : Nat) : dv P t < 2 ^ (pl_n P + pl_b P) := bm_lt _ _
theorem dv_lo {P : pl_T} {t j : Nat} (h : j < pl_n P) : (dv P t).testBit j = t.testBit j := by rw [dv_bit]; simp [h, show j < pl_n P + pl_b P by omega]
theorem dv_hi {P : pl_T} {t q : Nat} (h : q < pl_b P) : (dv P t).testBit (pl_n P + q) = t.testBit (14 + q) := by rw [dv_bit, if_neg (by omega), decide_eq_true (by omega), Nat.add_sub_cancel_left]; rfl
theorem af_lo {P : pl_T} {t m : Nat} (h : m < 14) : af P t m = bd t (pl_cl P m) := if_pos h
theorem af_hi {P : pl_T} {t q : Nat} : af P t (14 + q) = t ||| 2 ^ q ||| 2 ^ (14 + (bkO P q).getD 0) := by
  rw [af, if_neg (by omega), show 14 + q - 14 = q by omega]
section
variable {P : pl_T}
theorem bkO_0 (hb : pl_b P = 0) (i : Nat) : bkO P i = none := by rw [bkO, hb]; rfl
theorem bkO_1 (hb : pl_b P = 1) (i : Nat) : bkO P i = if pl_k P 0 = i then some 0 else none := by
  rw [bkO, hb]
  by_cases c : pl_k P 0 = i
  · rw [if_pos c]; simp [List.range_succ, c]
  · rw [if_neg c]; simp [List.range_succ, c]
theorem bkO_2 (hb : pl_b P = 2) (i : Nat) : bkO P i = if pl_k P 0 = i then some 0 else if pl_k P 1 = i then some 1 else none := by
  rw [bkO, hb]
  by_cases c : pl_k P 0 = i
  · rw [if_pos c]; simp [List.range_succ, c]
  · rw [if_neg c]
    by_cases c1 : pl_k P 1 = i
    · rw [if_pos c1]; simp [List.range_succ, c, c1]
    · rw [if_neg c1]; simp [List.range_succ, c, c1]
theorem sp_lo {m : Nat} (h : m < pl_n P) : pl_sp P m = some m := by rw [pl_sp, if_pos h]
theorem sp_mid {m : Nat} (ok : pl_ok P) (h : ¬ m < pl_n P) (h14 : m < 14) : pl_sp P m = none := by
  rw [pl_sp, if_neg h, if_neg (by omega), if_neg (by omega)]
theorem sp_hi (ok : pl_ok P) {i : Nat} : pl_sp P (14 + i) = (bkO P i).map (fun q => pl_n P + q) := by
  have h1 := ok.1
  have h2 := ok.2.1
  rw [pl_sp, if_neg (by omega)]
  rcases (show pl_b P = 0 ∨ pl_b P = 1 ∨ pl_b P = 2 by omega) with hb | hb | hb
  · rw [bkO_0 hb, hb, if_neg (by omega), if_neg (by omega)]; rfl
  · rw [bkO_1 hb, hb]
    by_cases c : pl_k P 0 = i
    · rw [if_pos ⟨by omega, by omega⟩, if_pos c]; rfl
    · rw [if_neg (by omega), if_neg (by omega), if_neg c]; rfl
  · rw [bkO_2 hb, hb]
    by_cases c : pl_k P 0 = i
    · rw [if_pos ⟨by omega, by omega⟩, if_pos c]; rfl
    · rw [if_neg (by omega), if_neg c]
      by_cases c1 : pl_k P 1 = i
      · rw [if_pos ⟨by omega, by omega⟩, if_pos c1]; rfl
      · rw [if_neg (by omega), if_neg c1]; rfl
theorem bkO_some {i q : Nat} (h : bkO P i = some q) : q < pl_b P ∧ pl_k P q = i := by
  have h1 := List.mem_range.mp (List.mem_of_find?_eq_some h)
  have h2 := List.find?_some h
  rw [beq_iff_eq] at h2
  exact ⟨h1, h2⟩
theorem ms_some (ok : pl_ok P) {m j : Nat} (hm : m < 28) (h : pl_sp P m = some j) : msT P m = j ∧ msT P (m + 1) = j + 1 := by
  have h1 := ok.1
  have h2 := ok.2.1
  have h5 := ok.2.2.2.2.1
  have h6 := ok.2.2.2.2.2
  by_cases c : m < pl_n P
  · rw [sp_lo c] at h; cases h
    rw [msT, if_pos (by omega), msT, if_pos (by omega)]; exact ⟨rfl, rfl⟩
  · by_cases c14 : m < 14
    · rw [sp_mid ok c c14] at h; simp at h
    · obtain ⟨i, rfl⟩ : ∃ i, m = 14 + i := ⟨m - 14, by omega⟩
      rw [sp_hi ok] at h
      cases q : bkO P i with
      | none => rw [q] at h; simp at h
      | some q0 =>
        rw [q] at h
        simp at h
        obtain ⟨q1, q2⟩ := bkO_some q
        have k0 := h5 0
        have k1 := h5 1
        have kq := h5 q0 q1
        subst h
        rcases (show q0 = 0 ∨ q0 = 1 by omega) with rfl | rfl
        · have e1 : msT P (14 + i) = pl_n P := by
            rw [msT]
            by_cases cc : 14 + i ≤ pl_n P
            · rw [if_pos cc]; omega
            · rw [if_neg cc]
              by_cases cd : 14 + i ≤ 14
              · rw [if_pos cd]
              · rw [if_neg cd, if_neg (by omega), if_neg (by
                  intro x
                  have := h6 (by omega)
                  omega)]
                rfl
          have e2 : msT P (14 + i + 1) = pl_n P + 1 := by
            rw [msT, if_neg (by omega), if_neg (by omega), if_pos (by omega), if_neg (by
                  intro x
                  have := h6 (by omega)
                  omega)]
          exact ⟨by rw [e1]; rfl, e2⟩
        · have := h6 (by omega)
          have e1 : msT P (14 + i) = pl_n P + 1 := by
            rw [msT, if_neg (by omega), if_neg (by omega), if_pos (by omega), if_neg (by omega)]
          have e2 : msT P (14 + i + 1) = pl_n P + 2 := by
            rw [msT, if_neg (by omega), if_neg (by omega), if_pos (by omega), if_pos (by omega)]
          exact ⟨e1, e2⟩
theorem ms_none (ok : pl_ok P) {m : Nat} (hm : m < 28) (h : pl_sp P m = none) : msT P (m + 1) = msT P m := by
  have h1 := ok.1
  have h2 := ok.2.1
  by_cases c : m < pl_n P
  · rw [sp_lo c] at h; simp at h
  · by_cases c14 : m < 14
    · rw [msT, if_neg (by omega), if_pos (by omega), msT]
      by_cases cc : m ≤ pl_n P
      · rw [if_pos cc]; omega
      · rw [if_neg cc, if_pos (by omega)]
    · obtain ⟨i, rfl⟩ : ∃ i, m = 14 + i := ⟨m - 14, by omega⟩
      rw [sp_hi ok] at h
      have hn : bkO P i = none := by
        cases q : bkO P i with
        | none => rfl
        | some q0 => rw [q] at h; simp at h
      have n0 : 0 < pl_b P → pl_k P 0 ≠ i := by
        intro hb
        rw [bkO, List.find?_eq_none] at hn
        have := hn 0 (List.mem_range.mpr hb)
        simpa using this
      have n1 : 1 < pl_b P → pl_k P 1 ≠ i := by
        intro hb
        rw [bkO, List.find?_eq_none] at hn
        have := hn 1 (List.mem_range.mpr hb)
        simpa using this
      have e0 : (0 < pl_b P ∧ pl_k P 0 < 14 + i + 1 - 14) = (0 < pl_b P ∧ pl_k P 0 < 14 + i - 14) := by
        apply propext
        constructor
        · rintro ⟨x, y⟩; have := n0 x; exact ⟨x, by omega⟩
        · rintro ⟨x, y⟩; exact ⟨x, by omega⟩
      have e1 : (1 < pl_b P ∧ pl_k P 1 < 14 + i + 1 - 14) = (1 < pl_b P ∧ pl_k P 1 < 14 + i - 14) := by
        apply propext
        constructor
        · rintro ⟨x, y⟩; have := n1 x; exact ⟨x, by omega⟩
        · rintro ⟨x, y⟩; exact ⟨x, by omega⟩
      rw [msT, if_neg (by omega), if_neg (by omega)]
      simp only [e0, e1]
      rw [msT]
      by_cases cc : 14 + i ≤ pl_n P
      · have i0 : i = 0 := by omega
        rw [if_pos cc, if_neg (by omega), if_neg (by omega)]; omega
      · rw [if_neg cc]
        by_cases cd : 14 + i ≤ 14
        · rw [if_pos cd, if_neg (by omega), if_neg (by omega)]; rfl
        · rw [if_neg cd]
theorem ms_0 : msT P 0 = 0 := by rw [msT, if_pos (Nat.zero_le _)]
theorem ms_28 (ok : pl_ok P) : msT P 28 = pl_n P + pl_b P := by
  have h1 := ok.1
  have h2 := ok.2.1
  have h5 := ok.2.2.2.2.1
  have k0 := h5 0
  have k1 := h5 1
  rw [msT, if_neg (by omega), if_neg (by omega)]
  by_cases c0 : 0 < pl_b P
  · have := k0 c0
    rw [if_pos ⟨c0, by omega⟩]
    by_cases c1 : 1 < pl_b P
    · have := k1 c1
      rw [if_pos ⟨c1, by omega⟩]; omega
    · rw [if_neg (fun x => c1 x.1)]; omega
  · rw [if_neg (fun x => c0 x.1), if_neg (by omega)]; omega
/-- the legal moves below m are the legal steps below msT m -/
theorem cn_t (ok : pl_ok P) {h t m : Nat} (hc : cnM P h t m = true) : ∃ j, pl_sp P m = some j ∧ j < pl_n P + pl_b P ∧ m < 28 ∧ pl_lg P h (dv P t) j = true ∧ msT P m = j ∧ msT P (m + 1) = j + 1 := by
  rw [cnM, Bool.and_eq_true, decide_eq_true_eq] at hc
  cases q : pl_sp P m with
  | none => rw [q] at hc; simp at hc
  | some j =>
    rw [q] at hc
    have := ms_some ok hc.1 q
    exact ⟨j, rfl, pl_sp_lt q, hc.1, hc.2, this.1, this.2⟩
theorem mlk_cn_t (ok : pl_ok P) {h t m j : Nat} (hc : cnM P h t m = true) (hj : pl_sp P m = some j) : mlk P h (dv P t) (msT P (m + 1)) = mlk P h (dv P t) (msT P m) ++ [j] := by
  obtain ⟨j', e1, -, -, lg, e2, e3⟩ := cn_t ok hc
  rw [hj] at e1
  cases e1
  rw [e3, e2, mlk_t lg]
theorem mlk_cn_f (ok : pl_ok P) {h t m : Nat} (hm : m < 28) (hc : cnM P h t m = false) : mlk P h (dv P t) (msT P (m + 1)) = mlk P h (dv P t) (msT P m) := by
  cases q : pl_sp P m with
  | none => rw [ms_none ok hm q]
  | some j =>
    obtain ⟨e1, e2⟩ := ms_some ok hm q
    rw [cnM, q, decide_eq_true hm] at hc
    rw [e2, e1, mlk_f hc]
theorem mo_sp {m j : Nat} (ok : pl_ok P) (h : pl_sp P m = some j) : pl_mo P j = m := by
  have h1 := ok.1
  rw [pl_sp] at h
  split at h
  · cases h; rw [pl_mo, if_pos (by assumption)]
  · split at h
    · cases h; rw [pl_mo, if_neg (by omega), Nat.sub_self]; omega
    · split at h
      · cases h; rw [pl_mo, if_neg (by omega), Nat.add_sub_cancel_left]; omega
      · simp at h
theorem af_lt {t m : Nat} (ok : pl_ok P) (ht : t < 65536) (hm : m < 28) : af P t m < 65536 := by
  have h2 := ok.2.1
  unfold af
  split
  · exact bb_bd ht
  · refine bb_or (k := 16) (bb_or ht (bb_p2 (by omega))) (bb_p2 ?_)
    cases q : bkO P (m - 14) with
    | none => simp
    | some q0 => have := (bkO_some q).1; simp; omega
theorem dv_af (ok : pl_ok P) {t m j : Nat} (hj : pl_sp P m = some j) : dv P (af P t m) = pl_nx P (dv P t) j := by
  have h1 := ok.1
  have h2 := ok.2.1
  have h5 := ok.2.2.2.2.1
  have jl := pl_sp_lt hj
  apply bb_ext
  intro i
  by_cases c : m < pl_n P
  · rw [sp_lo c] at hj; cases hj
    have cl14 : pl_cl P m < 2 ^ pl_n P := bb_or (pl_ab_lt P m) (bb_p2 c)
    rw [dv_bit, af_lo (show m < 14 by omega), pl_nx, if_pos c, bd_bit, bd_bit, bd_bit, dv_bit]
    by_cases ci : i < pl_n P
    · simp [ci, show i < pl_n P + pl_b P by omega]
    · simp only [ci, if_false]
      rw [bb_hi cl14 (by omega : pl_n P ≤ 14 + (i - pl_n P)), bb_hi cl14 (by omega : pl_n P ≤ i)]
      simp
  · have c14 : ¬ m < 14 := fun x => by rw [sp_mid ok c x] at hj; simp at hj
    obtain ⟨q, rfl⟩ : ∃ q, m = 14 + q := ⟨m - 14, by omega⟩
    rw [sp_hi ok] at hj
    cases e : bkO P q with
    | none => rw [e] at hj; simp at hj
    | some q0 =>
      rw [e] at hj
      simp at hj
      obtain ⟨q1, q2⟩ := bkO_some e
      have kq := h5 q0 q1
      subst hj
      rw [dv_bit, af_hi, e, pl_nx, if_neg (show ¬ pl_n P + q0 < pl_n P by omega), pl_st, Nat.add_sub_cancel_left, q2]
      simp only [Nat.testBit_or, dv_bit, bb_tp, Option.getD_some]
      by_cases ci : i < pl_n P
      · simp [ci, show i < pl_n P + pl_b P by omega, show ¬ (14 + q0 = i) by omega, show ¬ (pl_n P + q0 = i) by omega]
      · by_cases cn : i < pl_n P + pl_b P
        · simp only [ci, cn, if_false, decide_true, Bool.true_and]
          have x1 : (q = 14 + (i - pl_n P)) = False := by apply eq_false; omega
          have x2 : (q0 = i - pl_n P) = (pl_n P + q0 = i) := by apply propext; omega
          have x3 : (q = i) = False := by apply eq_false; omega
          simp [x1, x2, x3]
        · have x2 : (pl_n P + q0 = i) = False := by apply eq_false; omega
          have x3 : (q = i) = False := by apply eq_false; omega
          simp [cn, x2, x3]
end
