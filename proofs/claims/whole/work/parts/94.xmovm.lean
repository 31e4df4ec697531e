/-! THE REFERENCE: the moves as bits; what is there -/
section
variable {P : pl_T}
theorem nmk_bit {v : Nat} (m : Nat) : ∀ k, (pl_nmk P v k).testBit m = true ↔ (m < pl_n P ∧ v.testBit m = true) ∨ ∃ q, q < k ∧ 14 + pl_k P q = m ∧ v.testBit (pl_n P + q) = true
  | 0 => by
    rw [pl_nmk, Nat.testBit_and, Nat.testBit_two_pow_sub_one]
    simp
    exact And.comm
  | k + 1 => by
    have ih := nmk_bit (v := v) m k
    rw [pl_nmk, Nat.testBit_or, Bool.or_eq_true, ih]
    have e : ((v.testBit (pl_n P + k)).toNat <<< (14 + pl_k P k)).testBit m = true ↔ (14 + pl_k P k = m ∧ v.testBit (pl_n P + k) = true) := by
      cases q : v.testBit (pl_n P + k) with
      | false => simp
      | true =>
        rw [show (true.toNat <<< (14 + pl_k P k) : Nat) = 2 ^ (14 + pl_k P k) by rw [Nat.shiftLeft_eq]; simp, bb_tp]
        simp
    rw [e]
    constructor
    · rintro ((h | ⟨q, a, b⟩) | h)
      · exact Or.inl h
      · exact Or.inr ⟨q, by omega, b⟩
      · exact Or.inr ⟨k, by omega, h⟩
    · rintro (h | ⟨q, a, b, c⟩)
      · exact Or.inl (Or.inl h)
      · by_cases e2 : q = k
        · subst e2; exact Or.inr ⟨b, c⟩
        · exact Or.inl (Or.inr ⟨q, by omega, b, c⟩)
theorem mvb2 (h s j : Nat) : (pl_mv P h s).testBit j = (decide (j < pl_n P + pl_b P) && pl_lg P h s j) := bm_bit _ _ _
theorem bkO_k (ok : pl_ok P) {q : Nat} (hq : q < pl_b P) : bkO P (pl_k P q) = some q := by
  have h2 := ok.2.1
  have h6 := ok.2.2.2.2.2
  rcases (show pl_b P = 1 ∨ pl_b P = 2 by omega) with hb | hb
  · have : q = 0 := by omega
    subst this
    rw [bkO_1 hb, if_pos rfl]
  · rw [bkO_2 hb]
    rcases (show q = 0 ∨ q = 1 by omega) with rfl | rfl
    · rw [if_pos rfl]
    · have := h6 (by omega)
      rw [if_neg (by omega), if_pos rfl]
theorem nmk_cn (ok : pl_ok P) (h t : Nat) : bm 28 (cnM P h t) = pl_nmk P (pl_mv P h (dv P t)) (pl_b P) := by
  have h1 := ok.1
  have h5 := ok.2.2.2.2.1
  apply bb_ext
  intro m
  rw [bm_bit, Bool.eq_iff_iff, nmk_bit]
  simp only [mvb2, Bool.and_eq_true, decide_eq_true_eq]
  constructor
  · rintro ⟨hm, hc⟩
    obtain ⟨j, a, b, -, lg, -, -⟩ := cn_t ok hc
    by_cases c : m < pl_n P
    · rw [sp_lo c] at a; cases a
      exact Or.inl ⟨c, by omega, lg⟩
    · have c14 : ¬ m < 14 := fun x => by rw [sp_mid ok c x] at a; simp at a
      obtain ⟨i, rfl⟩ : ∃ i, m = 14 + i := ⟨m - 14, by omega⟩
      rw [sp_hi ok] at a
      cases e : bkO P i with
      | none => rw [e] at a; simp at a
      | some q0 =>
        rw [e] at a
        simp at a
        obtain ⟨q1, q2⟩ := bkO_some e
        subst a
        exact Or.inr ⟨q0, q1, by rw [q2], by omega, lg⟩
  · rintro (⟨a, b, c⟩ | ⟨q, a, b, c, d⟩)
    · refine ⟨by omega, ?_⟩
      rw [cnM, sp_lo a, decide_eq_true (show m < 28 by omega)]; exact c
    · have := h5 q a
      subst b
      refine ⟨by omega, ?_⟩
      rw [cnM, sp_hi ok, bkO_k ok a, decide_eq_true (by omega)]; exact d
end
section
variable {r : Nat → Nat} {dy : List aa_Shp} {P : pl_T} {σ : aa_St}
theorem m_movesOf (hW : aa_W r dy σ) (hM : MP P σ.1) {t h : Nat} (ht : t < 65536) (hh : h ≤ 3) : aa_SX mX12_movesOf 4 [.ref 63, .int (nI t), .int (nI h)] σ (some (.int (nI (pl_nmk P (pl_mv P h (dv P t)) (pl_b P))))) σ := by
  have ok := hM.1
  rw [← nmk_cn ok]
  have loop : ∀ f m, 28 - m < f → m ≤ 28 → aa_V mX12_movesOf 4 5 [some (.ref 63), some (.int (nI t)), some (.int (nI h)), some (.int (nI (bm m (cnM P h t)))), some (.int (nI m))] [] σ (fun ra σ' => ra = some (.int (nI (bm 28 (cnM P h t)))) ∧ σ' = σ) := by
    intro f
    induction f with
    | zero => intro m g1; omega
    | succ f ih =>
      intro m g1 g2
      have bl : bm m (cnM P h t) < 2147483648 := by
        have := bm_lt m (cnM P h t)
        have := Nat.pow_le_pow_right (by decide : 0 < 2) g2
        omega
      refine aa_go (aa_iload4 iX12_movesOf_5) (aa_go (aa_bipush iX12_movesOf_7 kb_28) ?_)
      refine aa_ic_geN iX12_movesOf_9 (by omega) (by omega) (fun g3 => ?_) (fun g3 => ?_)
      · skip
        have e : m = 28 := by omega
        subst e
        refine aa_go (aa_iload3 iX12_movesOf_40) ?_
        refine aa_iret iX12_movesOf_41 rfl ?_
        exact ⟨rfl, rfl⟩
      · skip
        refine aa_go (aa_iload3 iX12_movesOf_12) (aa_go (aa_aload0 iX12_movesOf_13) (aa_go (aa_iload1 iX12_movesOf_14) (aa_go (aa_iload2 iX12_movesOf_15) (aa_go (aa_iload4 iX12_movesOf_16) (aa_go (aa_cVi iX12_movesOf_18 (m_can hW hM ht hh (by omega)) (by decide) lc_X12_can lk_X12_140 (sh_63 hW) rfl rfl (Nat.le_of_ble_eq_true rfl)) ?_)))))
        refine aa_if_eqB iX12_movesOf_21 (fun g4 => ?_) (fun g4 => ?_)
        · skip
          refine aa_go (aa_iconst iX12_movesOf_31 ki_0) (aa_go (aa_iorN iX12_movesOf_32 ) ?_)
          refine aa_go (aa_top (y := nI (bm (m + 1) (cnM P h t))) (by rw [bm, if_neg (by rw [g4]; simp)])) ?_
          refine aa_go (aa_istore3 iX12_movesOf_33 rfl (by decide)) (aa_go (aa_iincN4 (k := 1) iX12_movesOf_34 rfl (by decide)) (aa_go (aa_goto iX12_movesOf_37) ?_))
          exact ih (m + 1) (by omega) (by omega)
        · skip
          refine aa_go (aa_iconst iX12_movesOf_24 ki_1) (aa_go (aa_iload4 iX12_movesOf_25) (aa_go (aa_ishlN iX12_movesOf_27 (by omega)) (aa_go (aa_goto iX12_movesOf_28) (aa_go (aa_iorN iX12_movesOf_32 ) ?_))))
          refine aa_go (aa_top (y := nI (bm (m + 1) (cnM P h t))) (by rw [bm, if_pos g4, Nat.shiftLeft_eq, Nat.one_mul])) ?_
          refine aa_go (aa_istore3 iX12_movesOf_33 rfl (by decide)) (aa_go (aa_iincN4 (k := 1) iX12_movesOf_34 rfl (by decide)) (aa_go (aa_goto iX12_movesOf_37) ?_))
          exact ih (m + 1) (by omega) (by omega)
  have key : aa_V mX12_movesOf 4 0 [some (.ref 63), some (.int (nI t)), some (.int (nI h)), none, none] [] σ (fun ra σ' => ra = some (.int (nI (bm 28 (cnM P h t)))) ∧ σ' = σ) := by
    refine aa_go (aa_iconst iX12_movesOf_0 ki_0) (aa_go (aa_istore3 iX12_movesOf_1 rfl (by decide)) (aa_go (aa_iconst iX12_movesOf_2 ki_0) (aa_go (aa_istore4 iX12_movesOf_3 rfl (by decide)) ?_)))
    exact loop 29 0 (by omega) (by omega)
  obtain ⟨ra, σ', ⟨rfl, rfl⟩, hS9⟩ := aa_S_of (avs := [.ref 63, .int (nI t), .int (nI h)]) (by decide) 2 [some (.ref 63), some (.int (nI t)), some (.int (nI h)), none, none] rfl rfl key
  exact hS9
theorem m_isThere (hW : aa_W r dy σ) {t k : Nat} (ht : t < 65536) (hk : k < 32) (he : σ.1 63 10 = nI t) : aa_SX mX12_isThere 2 [.ref 63, .int (nI k)] σ (some (.int (nI (t.testBit k).toNat))) σ := by
  refine aa_E_of (by decide) 0 [some (.ref 63), some (.int (nI k))] rfl rfl ?_
  refine aa_go (aa_aload0 iX12_isThere_0) (aa_go (aa_getE iX12_isThere_1 fl_X12_99 (sh_63 hW) rfl he) (aa_go (aa_iload1 iX12_isThere_4) (aa_go (aa_cSi iX12_isThere_5 (m_has (by omega) hk) (by decide) lc_X12_has lk_X12_95 rfl (Nat.le_of_ble_eq_true rfl)) ?_)))
  refine aa_zretB iX12_isThere_8 rfl ?_
  exact ⟨rfl, rfl⟩
end
