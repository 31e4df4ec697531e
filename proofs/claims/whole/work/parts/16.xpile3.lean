theorem pl_sm_congr {P : pl_T} {a b : Nat} : ∀ k, (∀ i, i < k → a.testBit i = b.testBit i) → pl_sm P a k = pl_sm P b k
  | 0, _ => rfl
  | k + 1, h => by rw [pl_sm, pl_sm, pl_sm_congr k (fun i hi => h i (by omega)), h k (by omega)]
theorem pl_sm_ge {P : pl_T} (h0 : ∀ k, pl_n P ≤ k → pl_w P k = 0) (s : Nat) : ∀ d, pl_sm P s (pl_n P + d) = pl_wo P s
  | 0 => rfl
  | d + 1 => by
    rw [show pl_n P + (d + 1) = pl_n P + d + 1 by omega, pl_sm, pl_sm_ge h0 s d, h0 _ (by omega)]
    simp
theorem pl_sm14 {P : pl_T} (h : pl_ok P) (s : Nat) : pl_sm P s 14 = pl_wo P s := by
  have h1 := h.1
  rw [show 14 = pl_n P + (14 - pl_n P) by omega]
  exact pl_sm_ge h.2.2.2.1 s _
theorem pl_sm_le {P : pl_T} (h : pl_ok P) (s : Nat) : ∀ k, pl_sm P s k ≤ 9 * k
  | 0 => by simp [pl_sm]
  | k + 1 => by
    have ih := pl_sm_le h s k
    have hw : pl_w P k ≤ 9 := by
      by_cases hk : k < pl_n P
      · exact (h.2.2.1 k hk).1
      · rw [h.2.2.2.1 k (by omega)]; omega
    rw [pl_sm]
    split <;> omega
theorem pl_wo_le {P : pl_T} (h : pl_ok P) (s : Nat) : pl_wo P s ≤ 126 := by
  have h1 := pl_sm_le h s (pl_n P)
  have h2 := h.1
  rw [pl_wo]; omega
theorem pl_sm7 {P : pl_T} (s : Nat) : pl_sm P (s &&& 127) 7 + pl_sm P ((s >>> 7 &&& 127) <<< 7) 14 = pl_sm P s 14 := by
  have e1 : ∀ i, i < 7 → (s &&& 127).testBit i = s.testBit i := by
    intro i hi
    rw [Nat.testBit_and, show (127 : Nat) = 2 ^ 7 - 1 from rfl, Nat.testBit_two_pow_sub_one]
    simp [hi]
  have e2 : ∀ i, ((s >>> 7 &&& 127) <<< 7).testBit i = (decide (7 ≤ i) && (s.testBit i && decide (i < 14))) := by
    intro i
    rw [Nat.testBit_shiftLeft, Nat.testBit_and, Nat.testBit_shiftRight, show (127 : Nat) = 2 ^ 7 - 1 from rfl, Nat.testBit_two_pow_sub_one]
    by_cases h : 7 ≤ i
    · rw [show 7 + (i - 7) = i by omega]
      have : (i - 7 < 7) = (i < 14) := by apply propext; omega
      simp [h, this]
    · simp [h]
  have e3 : pl_sm P ((s >>> 7 &&& 127) <<< 7) 7 = 0 := by
    have : ∀ k, k ≤ 7 → pl_sm P ((s >>> 7 &&& 127) <<< 7) k = 0 := by
      intro k
      induction k with
      | zero => intro _; rfl
      | succ k ih => intro hk; rw [pl_sm, ih (by omega), e2]; simp [show ¬ 7 ≤ k by omega]
    exact this 7 (by omega)
  have e4 : ∀ d, d ≤ 7 → pl_sm P s (7 + d) = pl_sm P s 7 + pl_sm P ((s >>> 7 &&& 127) <<< 7) (7 + d) := by
    intro d
    induction d with
    | zero => intro _; rw [e3]; rfl
    | succ d ih =>
      intro hd
      rw [show 7 + (d + 1) = 7 + d + 1 by omega, pl_sm, ih (by omega)]
      rw [show pl_sm P ((s >>> 7 &&& 127) <<< 7) (7 + d + 1) = pl_sm P ((s >>> 7 &&& 127) <<< 7) (7 + d) + (if ((s >>> 7 &&& 127) <<< 7).testBit (7 + d) then pl_w P (7 + d) else 0) from rfl, e2]
      simp [show 7 ≤ 7 + d by omega, show 7 + d < 14 by omega]
      omega
  rw [pl_sm_congr 7 e1]
  exact (e4 7 (by omega)).symm
section
variable {r : Nat → Nat} {dy : List aa_Shp} {σ : aa_St} {P : pl_T} {hs : List Nat}
theorem c_X6_worthOf (hW : aa_W r dy σ) (hX : XP P hs σ.1) {s : Nat} (hs2 : s < 2147483648) : aa_SX mX6_worthOf 1 [.ref 7, .int (nI s)] σ (some (.int (nI (pl_wo P s)))) σ := by
  have l1 : s &&& 127 < 128 := bb_and_r (by omega)
  have l2 : s >>> 7 &&& 127 < 128 := bb_and_r (by omega)
  refine aa_E_of (by decide) 0 [some (.ref 7), some (.int (nI s))] rfl rfl ?_
  refine aa_go (aa_aload0 iX6_worthOf_0) (aa_go (aa_getR iX6_worthOf_1 fl_X6_39 (sh_7 hW) rfl) (aa_go (aa_iload1 iX6_worthOf_4) (aa_go (aa_bipush iX6_worthOf_5 kb_127) (aa_go (aa_iandN iX6_worthOf_7 ) (aa_go (aa_ialE iX6_worthOf_8 (sh_17 hW) (by omega) (by omega) ((hX.u l1).1)) (aa_go (aa_aload0 iX6_worthOf_9) (aa_go (aa_getR iX6_worthOf_10 fl_X6_42 (sh_7 hW) rfl) ?_)))))))
  refine aa_go (aa_iload1 iX6_worthOf_13) (aa_go (aa_bipush iX6_worthOf_14 kb_7) (aa_go (aa_ishrN iX6_worthOf_16 (by omega) (by omega)) (aa_go (aa_bipush iX6_worthOf_17 kb_127) (aa_go (aa_iandN iX6_worthOf_19 ) (aa_go (aa_ialE iX6_worthOf_20 (sh_18 hW) (by omega) (by omega) ((hX.u l2).2)) (aa_go (aa_iaddN iX6_worthOf_21 ) ?_))))))
  refine aa_go (aa_top (y := nI (pl_wo P s)) (by rw [pl_sm7, pl_sm14 hX.ok])) ?_
  refine aa_iret iX6_worthOf_22 rfl ?_
  exact ⟨rfl, rfl⟩
theorem c_X6_putBack (hW : aa_W r dy σ) (hX : XP P hs σ.1) {s : Nat} (hs2 : s < 2147483648) : aa_SX mX6_putBack 1 [.ref 7, .int (nI s)] σ (some (.int (nI (pl_pbk P s (pl_b P))))) σ := by
  have hn := hX.n14
  have hb := hX.b2
  have loop : ∀ f k acc, pl_b P - k < f → k ≤ pl_b P → acc = pl_pbk P s k → aa_V mX6_putBack 1 4 [some (.ref 7), some (.int (nI s)), some (.int (nI acc)), some (.int (nI k))] [] σ (fun r1 σ1 => r1 = some (.int (nI (pl_pbk P s (pl_b P)))) ∧ σ1 = σ) := by
    intro f
    induction f with
    | zero => intro k acc h1; omega
    | succ f ih =>
      intro k acc h1 h2 h3
      refine aa_go (aa_iload3 iX6_putBack_4) (aa_go (aa_aload0 iX6_putBack_5) (aa_go (aa_getE iX6_putBack_6 fl_X6_55 (sh_7 hW) rfl hX.b) ?_))
      refine aa_ic_geN iX6_putBack_9 (by omega) (by omega) (fun h4 => ?_) (fun h4 => ?_)
      · skip
        have e : k = pl_b P := by omega
        subst e
        refine aa_go (aa_iload2 iX6_putBack_38) ?_
        refine aa_iret iX6_putBack_39 rfl ?_
        exact ⟨by rw [h3], rfl⟩
      · skip
        have hk : pl_k P k < pl_n P := hX.kn h4
        refine aa_go (aa_iload2 iX6_putBack_12) (aa_go (aa_iload1 iX6_putBack_13) (aa_go (aa_aload0 iX6_putBack_14) (aa_go (aa_getE iX6_putBack_15 fl_X6_52 (sh_7 hW) rfl hX.n) (aa_go (aa_iload3 iX6_putBack_18) (aa_go (aa_iaddN iX6_putBack_19 ) (aa_go (aa_ishrN iX6_putBack_20 (by omega) (by omega)) (aa_go (aa_iconst iX6_putBack_21 ki_1) ?_)))))))
        refine aa_go (aa_ibit iX6_putBack_22) (aa_go (aa_aload0 iX6_putBack_23) (aa_go (aa_getR iX6_putBack_24 fl_X6_27 (sh_7 hW) rfl) (aa_go (aa_iload3 iX6_putBack_27) (aa_go (aa_ialE iX6_putBack_28 (sh_13 hW) (by omega) (by omega) (hX.bk h4)) (aa_go (aa_ishlN iX6_putBack_29 (by omega)) (aa_go (aa_iorN iX6_putBack_30 ) (aa_go (aa_istore2 iX6_putBack_31 rfl (by decide)) ?_)))))))
        refine aa_go (aa_iincN3 (k := 1) iX6_putBack_32 rfl (by decide)) (aa_go (aa_goto iX6_putBack_35) ?_)
        refine ih (k + 1) _ (by omega) (by omega) ?_
        rw [h3, pl_pbk]
  refine aa_E_of (by decide) 2 [some (.ref 7), some (.int (nI s)), none, none] rfl rfl ?_
  refine aa_go (aa_iconst iX6_putBack_0 ki_0) (aa_go (aa_istore2 iX6_putBack_1 rfl (by decide)) (aa_go (aa_iconst iX6_putBack_2 ki_0) (aa_go (aa_istore3 iX6_putBack_3 rfl (by decide)) ?_)))
  exact loop (pl_b P + 1) 0 _ (by omega) (by omega) rfl
theorem c_X6_named (hW : aa_W r dy σ) (hX : XP P hs σ.1) {v : Nat} (hv : v < 2147483648) : aa_SX mX6_named 2 [.ref 7, .int (nI v)] σ (some (.int (nI (pl_nmk P v (pl_b P))))) σ := by
  have hn := hX.n14
  have hb := hX.b2
  have loop : ∀ f k acc, pl_b P - k < f → k ≤ pl_b P → acc = pl_nmk P v k → aa_V mX6_named 2 9 [some (.ref 7), some (.int (nI v)), some (.int (nI acc)), some (.int (nI k))] [] σ (fun r1 σ1 => r1 = some (.int (nI (pl_nmk P v (pl_b P)))) ∧ σ1 = σ) := by
    intro f
    induction f with
    | zero => intro k acc h1; omega
    | succ f ih =>
      intro k acc h1 h2 h3
      refine aa_go (aa_iload3 iX6_named_9) (aa_go (aa_aload0 iX6_named_10) (aa_go (aa_getE iX6_named_11 fl_X6_55 (sh_7 hW) rfl hX.b) ?_))
      refine aa_ic_geN iX6_named_14 (by omega) (by omega) (fun h4 => ?_) (fun h4 => ?_)
      · skip
        have e : k = pl_b P := by omega
        subst e
        refine aa_go (aa_iload2 iX6_named_46) ?_
        refine aa_iret iX6_named_47 rfl ?_
        exact ⟨by rw [h3], rfl⟩
      · skip
        have hk : pl_k P k < pl_n P := hX.kn h4
        refine aa_go (aa_iload2 iX6_named_17) (aa_go (aa_iload1 iX6_named_18) (aa_go (aa_aload0 iX6_named_19) (aa_go (aa_getE iX6_named_20 fl_X6_52 (sh_7 hW) rfl hX.n) (aa_go (aa_iload3 iX6_named_23) (aa_go (aa_iaddN iX6_named_24 ) (aa_go (aa_ishrN iX6_named_25 (by omega) (by omega)) (aa_go (aa_iconst iX6_named_26 ki_1) ?_)))))))
        refine aa_go (aa_ibit iX6_named_27) (aa_go (aa_bipush iX6_named_28 kb_14) (aa_go (aa_aload0 iX6_named_30) (aa_go (aa_getR iX6_named_31 fl_X6_27 (sh_7 hW) rfl) (aa_go (aa_iload3 iX6_named_34) (aa_go (aa_ialE iX6_named_35 (sh_13 hW) (by omega) (by omega) (hX.bk h4)) (aa_go (aa_iaddN iX6_named_36 ) (aa_go (aa_ishlN iX6_named_37 (by omega)) ?_)))))))
        refine aa_go (aa_iorN iX6_named_38 ) (aa_go (aa_istore2 iX6_named_39 rfl (by decide)) (aa_go (aa_iincN3 (k := 1) iX6_named_40 rfl (by decide)) (aa_go (aa_goto iX6_named_43) ?_)))
        refine ih (k + 1) _ (by omega) (by omega) ?_
        rw [h3, pl_nmk]
  refine aa_E_of (by decide) 2 [some (.ref 7), some (.int (nI v)), none, none] rfl rfl ?_
  refine aa_go (aa_iload1 iX6_named_0) (aa_go (aa_aload0 iX6_named_1) (aa_go (aa_cVi iX6_named_2 (c_X6_full hW hX) (by decide) lc_X6_full lk_X6_73 (sh_7 hW) rfl rfl (Nat.le_of_ble_eq_true rfl)) (aa_go (aa_iandN iX6_named_5 ) (aa_go (aa_istore2 iX6_named_6 rfl (by decide)) (aa_go (aa_iconst iX6_named_7 ki_0) (aa_go (aa_istore3 iX6_named_8 rfl (by decide)) ?_))))))
  exact loop (pl_b P + 1) 0 _ (by omega) (by omega) rfl
theorem c_X6_moveOf (hW : aa_W r dy σ) (hX : XP P hs σ.1) {j : Nat} (hj : j < pl_n P + pl_b P) : aa_SX mX6_moveOf 2 [.ref 7, .int (nI j)] σ (some (.int (nI (pl_mo P j)))) σ := by
  have hn := hX.n14
  have hb := hX.b2
  refine aa_E_of (by decide) 0 [some (.ref 7), some (.int (nI j))] rfl rfl ?_
  refine aa_go (aa_iload1 iX6_moveOf_0) (aa_go (aa_aload0 iX6_moveOf_1) (aa_go (aa_getE iX6_moveOf_2 fl_X6_52 (sh_7 hW) rfl hX.n) ?_))
  refine aa_ic_ltN iX6_moveOf_5 (by omega) (by omega) (fun h1 => ?_) (fun h1 => ?_)
  · skip
    refine aa_go (aa_iload1 iX6_moveOf_33) ?_
    refine aa_iret iX6_moveOf_34 rfl ?_
    exact ⟨by rw [pl_mo, if_pos h1], rfl⟩
  · skip
    refine aa_go (aa_iload1 iX6_moveOf_8) (aa_go (aa_aload0 iX6_moveOf_9) (aa_go (aa_cVi iX6_moveOf_10 (c_X6_steps hW hX) (by decide) lc_X6_steps lk_X6_91 (sh_7 hW) rfl rfl (Nat.le_of_ble_eq_true rfl)) ?_))
    refine aa_ic_geN iX6_moveOf_13 (by omega) (by omega) (fun h2 => ?_) (fun h2 => ?_)
    · skip
      omega
    · skip
      have hk := hX.kn (k := j - pl_n P) (by omega)
      refine aa_go (aa_bipush iX6_moveOf_16 kb_14) (aa_go (aa_aload0 iX6_moveOf_18) (aa_go (aa_getR iX6_moveOf_19 fl_X6_27 (sh_7 hW) rfl) (aa_go (aa_iload1 iX6_moveOf_22) (aa_go (aa_aload0 iX6_moveOf_23) (aa_go (aa_getE iX6_moveOf_24 fl_X6_52 (sh_7 hW) rfl hX.n) (aa_go (aa_isubN iX6_moveOf_27 (by omega)) (aa_go (aa_ialE iX6_moveOf_28 (sh_13 hW) (by omega) (by omega) (hX.bk (by omega))) ?_)))))))
      refine aa_go (aa_iaddN iX6_moveOf_29 ) (aa_go (aa_goto iX6_moveOf_30) ?_)
      refine aa_iret iX6_moveOf_34 rfl ?_
      exact ⟨by rw [pl_mo, if_neg (by omega)], rfl⟩
theorem c_X6_moveOfM (hW : aa_W r dy σ) (hX : XP P hs σ.1) : aa_SX mX6_moveOf 2 [.ref 7, .int (-1)] σ (some (.int (-1))) σ := by
  have hn := hX.n14
  refine aa_E_of (by decide) 0 [some (.ref 7), some (.int (-1))] rfl rfl ?_
  refine aa_go (aa_iload1 iX6_moveOf_0) (aa_go (aa_aload0 iX6_moveOf_1) (aa_go (aa_getE iX6_moveOf_2 fl_X6_52 (sh_7 hW) rfl hX.n) ?_))
  refine aa_go (aa_ic_ltT iX6_moveOf_5 (by rw [Int32.lt_iff_toInt_lt, nI_toInt (by omega)]; exact Int.lt_of_lt_of_le (by decide) (Int.natCast_nonneg _))) ?_
  refine aa_go (aa_iload1 iX6_moveOf_33) ?_
  refine aa_iret iX6_moveOf_34 rfl ?_
  exact ⟨rfl, rfl⟩
/-- the step that a move is -/
def pl_sp (P : pl_T) (m : Nat) : Option Nat := if m < pl_n P then some m else if 0 < pl_b P ∧ m = 14 + pl_k P 0 then some (pl_n P) else if 1 < pl_b P ∧ m = 14 + pl_k P 1 then some (pl_n P + 1) else none
def oI (o : Option Nat) : Int32 := match o with
  | some k => nI k
  | none => -1
theorem c_X6_step (hW : aa_W r dy σ) (hX : XP P hs σ.1) {m : Nat} (hm : m < 64) : aa_SX mX6_step 2 [.ref 7, .int (nI m)] σ (some (.int (oI (pl_sp P m)))) σ := by
  have hn := hX.n14
  have hb := hX.b2
  have loop : ∀ f k, pl_b P - k < f → k ≤ pl_b P → ¬ m < pl_n P → (∀ q, q < k → m ≠ 14 + pl_k P q) → aa_V mX6_step 2 12 [some (.ref 7), some (.int (nI m)), some (.int (nI k))] [] σ (fun r1 σ1 => r1 = some (.int (oI (pl_sp P m))) ∧ σ1 = σ) := by
    intro f
    induction f with
    | zero => intro k h1; omega
    | succ f ih =>
      intro k h1 h2 h0 h3
      refine aa_go (aa_iload2 iX6_step_12) (aa_go (aa_aload0 iX6_step_13) (aa_go (aa_getE iX6_step_14 fl_X6_55 (sh_7 hW) rfl hX.b) ?_))
      refine aa_ic_geN iX6_step_17 (by omega) (by omega) (fun h4 => ?_) (fun h4 => ?_)
      · skip
        have e : k = pl_b P := by omega
        subst e
        refine aa_go (aa_iconst iX6_step_46 ki_m1) ?_
        refine aa_iret iX6_step_47 rfl ?_
        refine ⟨?_, rfl⟩
        rw [pl_sp, if_neg h0, if_neg (fun q => h3 0 q.1 q.2), if_neg (fun q => h3 1 q.1 q.2)]
        rfl
      · skip
        have hk : pl_k P k < pl_n P := hX.kn h4
        refine aa_go (aa_iload1 iX6_step_20) (aa_go (aa_bipush iX6_step_21 kb_14) (aa_go (aa_aload0 iX6_step_23) (aa_go (aa_getR iX6_step_24 fl_X6_27 (sh_7 hW) rfl) (aa_go (aa_iload2 iX6_step_27) (aa_go (aa_ialE iX6_step_28 (sh_13 hW) (by omega) (by omega) (hX.bk h4)) (aa_go (aa_iaddN iX6_step_29 ) ?_))))))
        refine aa_ic_neN iX6_step_30 (by omega) (by omega) (fun h5 => ?_) (fun h5 => ?_)
        · skip
          refine aa_go (aa_iincN2 (k := 1) iX6_step_40 rfl (by decide)) (aa_go (aa_goto iX6_step_43) ?_)
          refine ih (k + 1) (by omega) (by omega) h0 (fun q hq => ?_)
          rcases (show q < k ∨ q = k by omega) with h6 | h6
          · exact h3 q h6
          · subst h6; exact h5
        · skip
          refine aa_go (aa_aload0 iX6_step_33) (aa_go (aa_getE iX6_step_34 fl_X6_52 (sh_7 hW) rfl hX.n) (aa_go (aa_iload2 iX6_step_37) (aa_go (aa_iaddN iX6_step_38 ) ?_)))
          refine aa_iret iX6_step_39 rfl ?_
          refine ⟨?_, rfl⟩
          rcases (show k = 0 ∨ k = 1 by omega) with rfl | rfl
          · rw [pl_sp, if_neg h0, if_pos ⟨h4, h5⟩]; rfl
          · rw [pl_sp, if_neg h0, if_neg (fun q => h3 0 (by omega) q.2), if_pos ⟨h4, h5⟩]; rfl
  refine aa_E_of (by decide) 1 [some (.ref 7), some (.int (nI m)), none] rfl rfl ?_
  refine aa_go (aa_aload0 iX6_step_0) (aa_go (aa_iload1 iX6_step_1) (aa_go (aa_cVi iX6_step_2 (c_X6_hasN hW hX (by omega)) (by decide) lc_X6_has lk_X6_81 (sh_7 hW) rfl rfl (Nat.le_of_ble_eq_true rfl)) ?_))
  refine aa_if_eqB iX6_step_5 (fun h1 => ?_) (fun h1 => ?_)
  · skip
    have h1 := of_decide_eq_false h1
    refine aa_go (aa_iconst iX6_step_10 ki_0) (aa_go (aa_istore2 iX6_step_11 rfl (by decide)) ?_)
    exact loop (pl_b P + 1) 0 (by omega) (by omega) h1 (fun q hq => by omega)
  · skip
    have h1 := of_decide_eq_true h1
    refine aa_go (aa_iload1 iX6_step_8) ?_
    refine aa_iret iX6_step_9 rfl ?_
    exact ⟨by rw [pl_sp, if_pos h1]; rfl, rfl⟩
theorem c_X6_lowestOf (hW : aa_W r dy σ) (hX : XP P hs σ.1) {s : Nat} (hs2 : s < 2147483648) : aa_SX mX6_lowestOf 1 [.ref 7, .int (nI s)] σ (some (.int (nI (bd s (pl_orA (pl_ab P) s (pl_n P)))))) σ := by
  have hn := hX.n14
  have loop : ∀ f k acc, pl_n P - k < f → k ≤ pl_n P → acc = pl_orA (pl_ab P) s k → aa_V mX6_lowestOf 1 4 [some (.ref 7), some (.int (nI s)), some (.int (nI acc)), some (.int (nI k))] [] σ (fun r1 σ1 => r1 = some (.int (nI (bd s (pl_orA (pl_ab P) s (pl_n P))))) ∧ σ1 = σ) := by
    intro f
    induction f with
    | zero => intro k acc h1; omega
    | succ f ih =>
      intro k acc h1 h2 h3
      refine aa_go (aa_iload3 iX6_lowestOf_4) (aa_go (aa_aload0 iX6_lowestOf_5) (aa_go (aa_getE iX6_lowestOf_6 fl_X6_52 (sh_7 hW) rfl hX.n) ?_))
      refine aa_ic_geN iX6_lowestOf_9 (by omega) (by omega) (fun h4 => ?_) (fun h4 => ?_)
      · skip
        have e : k = pl_n P := by omega
        subst e
        refine aa_go (aa_iload1 iX6_lowestOf_35) (aa_go (aa_iload2 iX6_lowestOf_36) (aa_go (aa_iconst iX6_lowestOf_37 ki_m1) (aa_go (aa_ixor iX6_lowestOf_38) (aa_go (aa_iandC iX6_lowestOf_39) ?_))))
        refine aa_iret iX6_lowestOf_40 rfl ?_
        exact ⟨by rw [h3], rfl⟩
      · skip
        refine aa_go (aa_iload1 iX6_lowestOf_12) (aa_go (aa_iload3 iX6_lowestOf_13) (aa_go (aa_ishrN iX6_lowestOf_14 (by omega) (by omega)) (aa_go (aa_iconst iX6_lowestOf_15 ki_1) (aa_go (aa_ibit iX6_lowestOf_16) ?_))))
        refine aa_if_eqB iX6_lowestOf_17 (fun h5 => ?_) (fun h5 => ?_)
        · skip
          refine aa_go (aa_iincN3 (k := 1) iX6_lowestOf_29 rfl (by decide)) (aa_go (aa_goto iX6_lowestOf_32) ?_)
          exact ih (k + 1) acc (by omega) (by omega) (by rw [pl_orA, h5, h3]; rfl)
        · skip
          refine aa_go (aa_iload2 iX6_lowestOf_20) (aa_go (aa_aload0 iX6_lowestOf_21) (aa_go (aa_getR iX6_lowestOf_22 fl_X6_21 (sh_7 hW) rfl) (aa_go (aa_iload3 iX6_lowestOf_25) (aa_go (aa_ialE iX6_lowestOf_26 (sh_11 hW) (by omega) (by omega) ((hX.it h4).2.2.2.1)) (aa_go (aa_iorN iX6_lowestOf_27 ) (aa_go (aa_istore2 iX6_lowestOf_28 rfl (by decide)) (aa_go (aa_iincN3 (k := 1) iX6_lowestOf_29 rfl (by decide)) ?_)))))))
          refine aa_go (aa_goto iX6_lowestOf_32) ?_
          exact ih (k + 1) _ (by omega) (by omega) (by rw [pl_orA, h5, h3]; rfl)
  refine aa_E_of (by decide) 2 [some (.ref 7), some (.int (nI s)), none, none] rfl rfl ?_
  refine aa_go (aa_iconst iX6_lowestOf_0 ki_0) (aa_go (aa_istore2 iX6_lowestOf_1 rfl (by decide)) (aa_go (aa_iconst iX6_lowestOf_2 ki_0) (aa_go (aa_istore3 iX6_lowestOf_3 rfl (by decide)) ?_)))
  exact loop (pl_n P + 1) 0 _ (by omega) (by omega) rfl
theorem c_X6_withAbove (hW : aa_W r dy σ) (hX : XP P hs σ.1) {s t : Nat} (hs2 : s < 2147483648) : aa_SX mX6_withAbove 1 [.ref 7, .int (nI s), .int (nI t)] σ (some (.int (nI (pl_orA (pl_cl P) s (pl_n P) &&& t)))) σ := by
  have hn := hX.n14
  have loop : ∀ f k acc, pl_n P - k < f → k ≤ pl_n P → acc = pl_orA (pl_cl P) s k → aa_V mX6_withAbove 1 5 [some (.ref 7), some (.int (nI s)), some (.int (nI t)), some (.int (nI acc)), some (.int (nI k))] [] σ (fun r1 σ1 => r1 = some (.int (nI (pl_orA (pl_cl P) s (pl_n P) &&& t))) ∧ σ1 = σ) := by
    intro f
    induction f with
    | zero => intro k acc h1; omega
    | succ f ih =>
      intro k acc h1 h2 h3
      refine aa_go (aa_iload4 iX6_withAbove_5) (aa_go (aa_aload0 iX6_withAbove_7) (aa_go (aa_getE iX6_withAbove_8 fl_X6_52 (sh_7 hW) rfl hX.n) ?_))
      refine aa_ic_geN iX6_withAbove_11 (by omega) (by omega) (fun h4 => ?_) (fun h4 => ?_)
      · skip
        have e : k = pl_n P := by omega
        subst e
        refine aa_go (aa_iload3 iX6_withAbove_39) (aa_go (aa_iload2 iX6_withAbove_40) (aa_go (aa_iandN iX6_withAbove_41 ) ?_))
        refine aa_iret iX6_withAbove_42 rfl ?_
        exact ⟨by rw [h3], rfl⟩
      · skip
        refine aa_go (aa_iload1 iX6_withAbove_14) (aa_go (aa_iload4 iX6_withAbove_15) (aa_go (aa_ishrN iX6_withAbove_17 (by omega) (by omega)) (aa_go (aa_iconst iX6_withAbove_18 ki_1) (aa_go (aa_ibit iX6_withAbove_19) ?_))))
        refine aa_if_eqB iX6_withAbove_20 (fun h5 => ?_) (fun h5 => ?_)
        · skip
          refine aa_go (aa_iincN4 (k := 1) iX6_withAbove_33 rfl (by decide)) (aa_go (aa_goto iX6_withAbove_36) ?_)
          exact ih (k + 1) acc (by omega) (by omega) (by rw [pl_orA, h5, h3]; rfl)
        · skip
          refine aa_go (aa_iload3 iX6_withAbove_23) (aa_go (aa_aload0 iX6_withAbove_24) (aa_go (aa_getR iX6_withAbove_25 fl_X6_33 (sh_7 hW) rfl) (aa_go (aa_iload4 iX6_withAbove_28) (aa_go (aa_ialE iX6_withAbove_30 (sh_15 hW) (by omega) (by omega) ((hX.c1 h4).1)) (aa_go (aa_iorN iX6_withAbove_31 ) (aa_go (aa_istore3 iX6_withAbove_32 rfl (by decide)) (aa_go (aa_iincN4 (k := 1) iX6_withAbove_33 rfl (by decide)) ?_)))))))
          refine aa_go (aa_goto iX6_withAbove_36) ?_
          exact ih (k + 1) _ (by omega) (by omega) (by rw [pl_orA, h5, h3]; rfl)
  refine aa_E_of (by decide) 2 [some (.ref 7), some (.int (nI s)), some (.int (nI t)), none, none] rfl rfl ?_
  refine aa_go (aa_iconst iX6_withAbove_0 ki_0) (aa_go (aa_istore3 iX6_withAbove_1 rfl (by decide)) (aa_go (aa_iconst iX6_withAbove_2 ki_0) (aa_go (aa_istore4 iX6_withAbove_3 rfl (by decide)) ?_)))
  exact loop (pl_n P + 1) 0 _ (by omega) (by omega) rfl
end
