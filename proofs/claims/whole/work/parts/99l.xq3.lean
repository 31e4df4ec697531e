/-! THE REFERENCE, PUBLIC METHODS: counts, rows, things, likes, kept games, what was taken -/
section
variable {P P' : pl_T} {tx tx' : Nat → Nat} {n n' : Nat} {g g' : gm_T} {kp kp' : Nat → Option gm_T} {lk lk' tl tl' : Nat} {rw rw' : Nat → Int} {Q Q' : Nat} {r : Nat → Nat} {dy : List aa_Shp} {σ σ' : aa_St}
theorem pbk_lt (ok : pl_ok P) (s : Nat) : ∀ k, k ≤ pl_b P → pl_pbk P s k < 16384
  | 0, _ => by rw [pl_pbk]; decide
  | k + 1, hk => by
    have ih := pbk_lt ok s k (by omega)
    have kn := ok.2.2.2.2.1 k (by omega)
    have n14 := ok.1
    rw [pl_pbk]
    refine bb_or (k := 14) ih ?_
    cases s.testBit (pl_n P + k)
    · rw [Bool.toNat_false, Nat.zero_shiftLeft]; decide
    · rw [Bool.toNat_true, Nat.one_shiftLeft]; exact bb_p2 (by omega)
theorem m_putBack (hW : aa_W r dy σ) (hM : MP P σ.1) {s : Nat} (he : σ.1 63 10 = nI (cv P s)) : aa_SX mX12_putBack 2 [.ref 63] σ (some (.int (nI (pl_pbk P s (pl_b P))))) σ := by
  obtain ⟨ok, a1, a2, a3, a4⟩ := id hM
  have n14 := ok.1
  have b2 := ok.2.1
  have cl := cv_lt (P := P) s
  have loop : ∀ f k, pl_b P - k < f → k ≤ pl_b P → aa_V mX12_putBack 2 4 [some (.ref 63), some (.int (nI (pl_pbk P s k))), some (.int (nI k))] [] σ (fun ra σ' => ra = some (.int (nI (pl_pbk P s (pl_b P)))) ∧ σ' = σ) := by
    intro f
    induction f with
    | zero => intro k g1; omega
    | succ f ih =>
      intro k g1 g2
      refine aa_go (aa_iload2 iX12_putBack_4) (aa_go (aa_aload0 iX12_putBack_5) (aa_go (aa_getE iX12_putBack_6 fl_X12_63 (sh_63 hW) rfl a2) ?_))
      refine aa_ic_geN iX12_putBack_9 (by omega) (by omega) (fun g3 => ?_) (fun g3 => ?_)
      · skip
        have e : k = pl_b P := by omega
        subst e
        refine aa_go (aa_iload1 iX12_putBack_47) ?_
        refine aa_iret iX12_putBack_48 rfl ?_
        exact ⟨rfl, rfl⟩
      · skip
        have kn := ok.2.2.2.2.1 k g3
        have nxt := ih (k + 1) (by omega) (by omega)
        rw [pl_pbk, ← cv_hi ok g3] at nxt
        refine aa_go (aa_iload1 iX12_putBack_12) (aa_go (aa_aload0 iX12_putBack_13) (aa_go (aa_getE iX12_putBack_14 fl_X12_99 (sh_63 hW) rfl he) (aa_go (aa_bipush iX12_putBack_17 kb_14) (aa_go (aa_iload2 iX12_putBack_19) (aa_go (aa_iaddN iX12_putBack_20 ) (aa_go (aa_cSi iX12_putBack_21 (m_has (by omega) (by omega)) (by decide) lc_X12_has lk_X12_95 rfl (Nat.le_of_ble_eq_true rfl)) ?_))))))
        refine aa_if_eqB iX12_putBack_24 (fun g4 => ?_) (fun g4 => ?_)
        · skip
          rw [g4] at nxt
          rw [show false.toNat <<< pl_k P k = 0 from Nat.zero_shiftLeft _] at nxt
          refine aa_go (aa_iconst iX12_putBack_38 ki_0) (aa_go (aa_iorN iX12_putBack_39 ) (aa_go (aa_istore1 iX12_putBack_40 rfl (by decide)) (aa_go (aa_iincN2 (k := 1) iX12_putBack_41 rfl (by decide)) (aa_go (aa_goto iX12_putBack_44) ?_))))
          exact nxt
        · skip
          rw [g4] at nxt
          refine aa_go (aa_iconst iX12_putBack_27 ki_1) (aa_go (aa_aload0 iX12_putBack_28) (aa_go (aa_getR iX12_putBack_29 fl_X12_69 (sh_63 hW) rfl) (aa_go (aa_iload2 iX12_putBack_32) (aa_go (aa_ialE iX12_putBack_33 (sh_69 hW) (by omega) (by omega) (a4 k g3)) (aa_go (aa_ishlN iX12_putBack_34 (by omega)) (aa_go (aa_goto iX12_putBack_35) (aa_go (aa_iorN iX12_putBack_39 ) ?_)))))))
          refine aa_go (aa_istore1 iX12_putBack_40 rfl (by decide)) (aa_go (aa_iincN2 (k := 1) iX12_putBack_41 rfl (by decide)) (aa_go (aa_goto iX12_putBack_44) ?_))
          exact nxt
  have key : aa_V mX12_putBack 2 0 [some (.ref 63), none, none] [] σ (fun ra σ' => ra = some (.int (nI (pl_pbk P s (pl_b P)))) ∧ σ' = σ) := by
    refine aa_go (aa_iconst iX12_putBack_0 ki_0) (aa_go (aa_istore1 iX12_putBack_1 rfl (by decide)) (aa_go (aa_iconst iX12_putBack_2 ki_0) (aa_go (aa_istore2 iX12_putBack_3 rfl (by decide)) ?_)))
    exact loop (pl_b P + 1) 0 (by omega) (by omega)
  obtain ⟨ra, σ', ⟨rfl, rfl⟩, hS9⟩ := aa_S_of (avs := [.ref 63]) (by decide) 2 [some (.ref 63), none, none] rfl rfl key
  exact hS9
theorem q_count (h : MI P tx n g kp lk tl rw Q r dy σ) {k : Nat} (hk : k ≤ 7) : ∃ σ', MJ P tx n g kp lk tl rw Q r dy σ σ' ∧ aa_SX mX12_count 100 [.ref 63, .int (nI k)] σ (some (.int (nI (cnt P n g tl k)))) σ' := by
  have h1 := h.thr (nI 0)
  refine ⟨_, h.JB, ?_⟩
  rcases (show k = 0 ∨ k = 1 ∨ k = 2 ∨ k = 3 ∨ k = 4 ∨ k = 5 ∨ k = 6 ∨ k = 7 by omega) with rfl | rfl | rfl | rfl | rfl | rfl | rfl | rfl
  · skip
    refine aa_E_of (by decide) 0 [some (.ref 63), some (.int (nI 0))] rfl rfl ?_
    refine aa_go (aa_aload0 iX12_count_0) (aa_go (aa_iconst iX12_count_1 ki_0) (aa_go (aa_putI iX12_count_2 fl_X12_3 (fun h => nomatch h) (sh_63 h.W) rfl ⟨rfl, rfl⟩) ?_))
    refine aa_go (aa_iload1 iX12_count_5) ?_
    refine aa_go (aa_tsIn (x := nI 0) (off := 46) (tgt := 52) iX12_count_6 (by decide) (by decide) (by decide) (by decide)) ?_
    refine aa_go (aa_aload0 iX12_count_52) (aa_go (aa_getE iX12_count_53 fl_X12_78 (sh_63 h1.W) rfl h1.M.2.1) ?_)
    refine aa_iret iX12_count_56 rfl ?_
    exact ⟨rfl, rfl⟩
  · skip
    refine aa_E_of (by decide) 0 [some (.ref 63), some (.int (nI 1))] rfl rfl ?_
    refine aa_go (aa_aload0 iX12_count_0) (aa_go (aa_iconst iX12_count_1 ki_0) (aa_go (aa_putI iX12_count_2 fl_X12_3 (fun h => nomatch h) (sh_63 h.W) rfl ⟨rfl, rfl⟩) ?_))
    refine aa_go (aa_iload1 iX12_count_5) ?_
    refine aa_go (aa_tsIn (x := nI 1) (off := 51) (tgt := 57) iX12_count_6 (by decide) (by decide) (by decide) (by decide)) ?_
    refine aa_go (aa_aload0 iX12_count_57) (aa_go (aa_getE iX12_count_58 fl_X12_99 (sh_63 h1.W) rfl h1.G.1) (aa_go (aa_sipush iX12_count_61 ks_16383) (aa_go (aa_iandN iX12_count_64 ) ?_)))
    refine aa_iret iX12_count_65 rfl ?_
    exact ⟨by rw [cv_th h.ok]; rfl, rfl⟩
  · skip
    refine aa_E_of (by decide) 0 [some (.ref 63), some (.int (nI 2))] rfl rfl ?_
    refine aa_go (aa_aload0 iX12_count_0) (aa_go (aa_iconst iX12_count_1 ki_0) (aa_go (aa_putI iX12_count_2 fl_X12_3 (fun h => nomatch h) (sh_63 h.W) rfl ⟨rfl, rfl⟩) ?_))
    refine aa_go (aa_iload1 iX12_count_5) ?_
    refine aa_go (aa_tsIn (x := nI 2) (off := 60) (tgt := 66) iX12_count_6 (by decide) (by decide) (by decide) (by decide)) ?_
    refine aa_go (aa_aload0 iX12_count_66) (aa_go (aa_getE iX12_count_67 fl_X12_105 (sh_63 h1.W) rfl h1.G.2.2.2.1) ?_)
    refine aa_iret iX12_count_70 rfl ?_
    exact ⟨rfl, rfl⟩
  · skip
    refine aa_E_of (by decide) 0 [some (.ref 63), some (.int (nI 3))] rfl rfl ?_
    refine aa_go (aa_aload0 iX12_count_0) (aa_go (aa_iconst iX12_count_1 ki_0) (aa_go (aa_putI iX12_count_2 fl_X12_3 (fun h => nomatch h) (sh_63 h.W) rfl ⟨rfl, rfl⟩) ?_))
    refine aa_go (aa_iload1 iX12_count_5) ?_
    refine aa_go (aa_tsIn (x := nI 3) (off := 65) (tgt := 71) iX12_count_6 (by decide) (by decide) (by decide) (by decide)) ?_
    refine aa_go (aa_aload0 iX12_count_71) (aa_go (aa_getE iX12_count_72 fl_X12_102 (sh_63 h1.W) rfl h1.G.2.1) ?_)
    refine aa_iret iX12_count_75 rfl ?_
    exact ⟨rfl, rfl⟩
  · skip
    refine aa_E_of (by decide) 0 [some (.ref 63), some (.int (nI 4))] rfl rfl ?_
    refine aa_go (aa_aload0 iX12_count_0) (aa_go (aa_iconst iX12_count_1 ki_0) (aa_go (aa_putI iX12_count_2 fl_X12_3 (fun h => nomatch h) (sh_63 h.W) rfl ⟨rfl, rfl⟩) ?_))
    refine aa_go (aa_iload1 iX12_count_5) ?_
    refine aa_go (aa_tsIn (x := nI 4) (off := 70) (tgt := 76) iX12_count_6 (by decide) (by decide) (by decide) (by decide)) ?_
    refine aa_go (aa_aload0 iX12_count_76) (aa_go (aa_cVi iX12_count_77 (m_putBack h1.W h1.M h1.G.1) (by decide) lc_X12_putBack lk_X12_364 (sh_63 h1.W) rfl rfl (Nat.le_of_ble_eq_true rfl)) ?_)
    refine aa_iret iX12_count_80 rfl ?_
    exact ⟨rfl, rfl⟩
  · skip
    refine aa_E_of (by decide) 0 [some (.ref 63), some (.int (nI 5))] rfl rfl ?_
    refine aa_go (aa_aload0 iX12_count_0) (aa_go (aa_iconst iX12_count_1 ki_0) (aa_go (aa_putI iX12_count_2 fl_X12_3 (fun h => nomatch h) (sh_63 h.W) rfl ⟨rfl, rfl⟩) ?_))
    refine aa_go (aa_iload1 iX12_count_5) ?_
    refine aa_go (aa_tsIn (x := nI 5) (off := 75) (tgt := 81) iX12_count_6 (by decide) (by decide) (by decide) (by decide)) ?_
    refine aa_go (aa_aload0 iX12_count_81) (aa_go (aa_getE iX12_count_82 fl_X12_124 (sh_63 h1.W) rfl h1.G.2.2.1) ?_)
    refine aa_iret iX12_count_85 rfl ?_
    exact ⟨rfl, rfl⟩
  · skip
    refine aa_E_of (by decide) 0 [some (.ref 63), some (.int (nI 6))] rfl rfl ?_
    refine aa_go (aa_aload0 iX12_count_0) (aa_go (aa_iconst iX12_count_1 ki_0) (aa_go (aa_putI iX12_count_2 fl_X12_3 (fun h => nomatch h) (sh_63 h.W) rfl ⟨rfl, rfl⟩) ?_))
    refine aa_go (aa_iload1 iX12_count_5) ?_
    refine aa_go (aa_tsIn (x := nI 6) (off := 80) (tgt := 86) iX12_count_6 (by decide) (by decide) (by decide) (by decide)) ?_
    refine aa_go (aa_aload0 iX12_count_86) (aa_go (aa_getE iX12_count_87 fl_X12_11 (sh_63 h1.W) rfl h1.T.1) ?_)
    refine aa_iret iX12_count_90 rfl ?_
    exact ⟨rfl, rfl⟩
  · skip
    refine aa_E_of (by decide) 0 [some (.ref 63), some (.int (nI 7))] rfl rfl ?_
    refine aa_go (aa_aload0 iX12_count_0) (aa_go (aa_iconst iX12_count_1 ki_0) (aa_go (aa_putI iX12_count_2 fl_X12_3 (fun h => nomatch h) (sh_63 h.W) rfl ⟨rfl, rfl⟩) ?_))
    refine aa_go (aa_iload1 iX12_count_5) ?_
    refine aa_go (aa_tsIn (x := nI 7) (off := 85) (tgt := 91) iX12_count_6 (by decide) (by decide) (by decide) (by decide)) ?_
    refine aa_go (aa_aload0 iX12_count_91) (aa_go (aa_getE iX12_count_92 fl_X12_14 (sh_63 h1.W) rfl h1.X.1) ?_)
    refine aa_iret iX12_count_95 rfl ?_
    exact ⟨rfl, rfl⟩
theorem q_countB (h : MI P tx n g kp lk tl rw Q r dy σ) {x : Int32} (hx : x < 0 ∨ nI 7 < x) : ∃ σ', MJ P tx n g kp lk tl rw Q r dy σ σ' ∧ aa_SX mX12_count 100 [.ref 63, .int x] σ (some (.int (-1))) σ' := by
  have hx2 : x.toInt < 0 ∨ 7 < x.toInt := by
    rcases hx with q | q
    · rw [Int32.lt_iff_toInt_lt] at q; exact Or.inl q
    · rw [Int32.lt_iff_toInt_lt] at q; exact Or.inr q
  have h1 := h.thr (nI 0)
  refine ⟨_, h.JB, ?_⟩
  refine aa_E_of (by decide) 0 [some (.ref 63), some (.int (x))] rfl rfl ?_
  refine aa_go (aa_aload0 iX12_count_0) (aa_go (aa_iconst iX12_count_1 ki_0) (aa_go (aa_putI iX12_count_2 fl_X12_3 (fun h => nomatch h) (sh_63 h.W) rfl ⟨rfl, rfl⟩) ?_))
  refine aa_go (aa_iload1 iX12_count_5) ?_
  refine aa_go (aa_tsOut (tgt := 96) iX12_count_6 (hx2) (by decide)) ?_
  refine aa_go (aa_iconst iX12_count_96 ki_m1) ?_
  refine aa_iret iX12_count_97 rfl ?_
  exact ⟨rfl, rfl⟩
theorem q_thrown (hW : aa_W r dy σ) {k : Nat} (he : σ.1 63 0 = nI k) : aa_SX mX12_thrown 100 [.ref 63] σ (some (.int (nI k))) σ := by
  refine aa_E_of (by decide) 0 [some (.ref 63)] rfl rfl ?_
  refine aa_go (aa_aload0 iX12_thrown_0) (aa_go (aa_getE iX12_thrown_1 fl_X12_3 (sh_63 hW) rfl he) ?_)
  refine aa_iret iX12_thrown_4 rfl ?_
  exact ⟨rfl, rfl⟩
theorem m_in1 (x : Int32) {c : Nat} (hc : c < 1000) : aa_SX mX12_in 1 [.long x.toInt64, .long (lN 0), .long (nI c - nI 1).toInt64] σ (some (.int (nI (decide (0 ≤ x.toInt ∧ x.toInt < c)).toNat))) σ := by
  have b1 := Int32.toInt_lt x
  have b2 := Int32.le_toInt x
  have e0 : (nI c - nI 1).toInt64 = lZ ((c : Int) - 1) := by
    rw [i2lZ]
    congr 1
    have : nI c - nI 1 = iZ ((c : Int) - 1) := by rw [iZ_N, show nI 1 = iZ 1 from rfl, iZ_sub]
    rw [this, iZ, Int32.toInt_ofInt_of_le (by omega) (by omega)]
  have hS := m_in (σ := σ) (v := x.toInt) (lo := 0) (hi := (c : Int) - 1) (by omega) (by omega) (by omega)
  rw [i2lZ, e0]
  rw [show decide (0 ≤ x.toInt ∧ x.toInt ≤ (c : Int) - 1) = decide (0 ≤ x.toInt ∧ x.toInt < c) from decide_eq_decide.mpr (by omega)] at hS
  exact hS
theorem q_row (h : MI P tx n g kp lk tl rw Q r dy σ) {k : Nat} (hk : k < tl) : ∃ σ', (MJ P tx n g kp lk tl rw Q r dy σ σ' ∧ σ'.1 63 0 = nI 0) ∧ aa_SX mX12_row 100 [.ref 63, .int (nI k)] σ (some (.long (lZ (rw k)))) σ' := by
  have h1 := h.thr (nI 0)
  have t20 := h.T.2.1
  refine ⟨_, ⟨h.JB, sI_eq⟩, ?_⟩
  have e : (nI k).toInt = k := nI_toInt (by omega)
  refine aa_E_of (by decide) 0 [some (.ref 63), some (.int (nI k))] rfl rfl ?_
  refine aa_go (aa_aload0 iX12_row_0) (aa_go (aa_iconst iX12_row_1 ki_0) (aa_go (aa_putI iX12_row_2 fl_X12_3 (fun h => nomatch h) (sh_63 h.W) rfl ⟨rfl, rfl⟩) ?_))
  refine aa_go (aa_iload1 iX12_row_5) (aa_go (aa_i2l iX12_row_6) (aa_go (aa_lconst iX12_row_7 kl_0) (aa_go (aa_aload0 iX12_row_8) (aa_go (aa_getE iX12_row_9 fl_X12_11 (sh_63 h1.W) rfl h1.T.1) (aa_go (aa_iconst iX12_row_12 ki_1) (aa_go (aa_isub iX12_row_13 ) (aa_go (aa_i2l iX12_row_14) ?_)))))))
  refine aa_go (aa_cSi iX12_row_15 (m_in1 (nI k) (by omega)) (by decide) lc_X12_in lk_X12_21 rfl (Nat.le_of_ble_eq_true rfl)) ?_
  refine aa_if_neB iX12_row_18 (fun g1 => ?_) (fun g1 => ?_)
  · skip
    refine aa_go (aa_aload0 iX12_row_28) (aa_go (aa_getR iX12_row_29 fl_X12_7 (sh_63 h1.W) rfl) (aa_go (aa_iload1 iX12_row_32) (aa_go (aa_lalE iX12_row_33 (sh_64 h1.W) (by omega) (by omega) (h1.T.2.2 k hk)) ?_)))
    refine aa_lret iX12_row_34 rfl ?_
    exact ⟨rfl, rfl⟩
  · skip
    have := of_decide_eq_false g1
    omega
theorem q_rowB (h : MI P tx n g kp lk tl rw Q r dy σ) {x : Int32} (hx : ¬ (0 ≤ x ∧ x < nI tl)) : ∃ σ', (MJ P tx n g kp lk tl rw Q r dy σ σ' ∧ σ'.1 63 0 = nI 1) ∧ aa_SX mX12_row 100 [.ref 63, .int x] σ (some (.long (lN 0))) σ' := by
  have h1 := h.thr (nI 0)
  have t20 := h.T.2.1
  have e : (nI tl).toInt = tl := nI_toInt (by omega)
  rw [Int32.le_iff_toInt_le, Int32.lt_iff_toInt_lt, e, Int32.toInt_zero] at hx
  refine ⟨_, ⟨(h1.thr (nI 1)).J (by omega) ((MF.rf.s (by decide) _ _).s (by decide) _ _), sI_eq⟩, ?_⟩
  refine aa_E_of (by decide) 0 [some (.ref 63), some (.int (x))] rfl rfl ?_
  refine aa_go (aa_aload0 iX12_row_0) (aa_go (aa_iconst iX12_row_1 ki_0) (aa_go (aa_putI iX12_row_2 fl_X12_3 (fun h => nomatch h) (sh_63 h.W) rfl ⟨rfl, rfl⟩) ?_))
  refine aa_go (aa_iload1 iX12_row_5) (aa_go (aa_i2l iX12_row_6) (aa_go (aa_lconst iX12_row_7 kl_0) (aa_go (aa_aload0 iX12_row_8) (aa_go (aa_getE iX12_row_9 fl_X12_11 (sh_63 h1.W) rfl h1.T.1) (aa_go (aa_iconst iX12_row_12 ki_1) (aa_go (aa_isub iX12_row_13 ) (aa_go (aa_i2l iX12_row_14) ?_)))))))
  refine aa_go (aa_cSi iX12_row_15 (m_in1 x (by omega)) (by decide) lc_X12_in lk_X12_21 rfl (Nat.le_of_ble_eq_true rfl)) ?_
  refine aa_if_neB iX12_row_18 (fun g1 => ?_) (fun g1 => ?_)
  · skip
    exact absurd (of_decide_eq_true g1) hx
  · skip
    refine aa_go (aa_aload0 iX12_row_21) (aa_go (aa_iconst iX12_row_22 ki_1) (aa_go (aa_putI iX12_row_23 fl_X12_3 (fun h => nomatch h) (sh_63 h1.W) rfl ⟨rfl, rfl⟩) (aa_go (aa_lconst iX12_row_26 kl_0) ?_)))
    refine aa_lret iX12_row_27 rfl ?_
    exact ⟨rfl, rfl⟩
theorem bkB_bkO (ok : pl_ok P) (i : Nat) : pl_bkB P i = (bkO P i).isSome := by
  have h2 := ok.2.1
  rcases (show pl_b P = 0 ∨ pl_b P = 1 ∨ pl_b P = 2 by omega) with hb | hb | hb
  · rw [bkO_0 hb, pl_bkB, hb]; rfl
  · rw [bkO_1 hb, pl_bkB, hb]
    by_cases c : pl_k P 0 = i
    · rw [if_pos c, c]; simp
    · rw [if_neg c]; simp [c]
  · rw [bkO_2 hb, pl_bkB, hb]
    by_cases c : pl_k P 0 = i
    · rw [if_pos c, c]; simp
    · rw [if_neg c]
      by_cases d : pl_k P 1 = i
      · rw [if_pos d, d]; simp
      · rw [if_neg d]; simp [c, d]
theorem q_thing (h : MI P tx n g kp lk tl rw Q r dy σ) {i k : Nat} (hi : i < pl_n P) (hk : k ≤ 5) : ∃ σ', (MJ P tx n g kp lk tl rw Q r dy σ σ' ∧ σ'.1 63 0 = nI 0) ∧ aa_SX mX12_thing 100 [.ref 63, .int (nI i), .int (nI k)] σ (some (.int (nI (thg P g i k)))) σ' := by
  have h1 := h.thr (nI 0)
  have n14 := h.n14
  have hM := h1.M
  obtain ⟨ok, a1, a2, a3, a4⟩ := id hM
  have e : (nI i).toInt = i := nI_toInt (by omega)
  refine ⟨_, ⟨h.JB, sI_eq⟩, ?_⟩
  have key : ∀ (K : Option Value → aa_St → Prop), aa_V mX12_thing 100 30 [some (.ref 63), some (.int (nI i)), some (.int (nI k))] [] (aa_sI σ 63 0 (nI 0)) K → aa_V mX12_thing 100 0 [some (.ref 63), some (.int (nI i)), some (.int (nI k))] [] σ K := by
    intro K hK
    refine aa_go (aa_aload0 iX12_thing_0) (aa_go (aa_iconst iX12_thing_1 ki_0) (aa_go (aa_putI iX12_thing_2 fl_X12_3 (fun h => nomatch h) (sh_63 h.W) rfl ⟨rfl, rfl⟩) ?_))
    refine aa_go (aa_aload0 iX12_thing_5) (aa_go (aa_iload1 iX12_thing_6) (aa_go (aa_cVi iX12_thing_7 (m_isThing h1.W h1.M (nI i)) (by decide) lc_X12_isThing lk_X12_108 (sh_63 h1.W) rfl rfl (Nat.le_of_ble_eq_true rfl)) ?_))
    refine aa_if_eqB iX12_thing_10 (fun g1 => ?_) (fun g1 => ?_)
    · skip
      have := of_decide_eq_false g1
      omega
    · skip
      refine aa_go (aa_iload2 iX12_thing_13) (aa_go (aa_i2lN iX12_thing_14 (by omega)) (aa_go (aa_lconst iX12_thing_15 kl_0) (aa_go (aa_ldc2 iX12_thing_16 ld_X12_111) (aa_go (aa_cSi iX12_thing_19 (m_inN (hi := 5) (by omega) (by omega)) (by decide) lc_X12_in lk_X12_21 rfl (Nat.le_of_ble_eq_true rfl)) ?_))))
      refine aa_if_neB iX12_thing_22 (fun g2 => ?_) (fun g2 => ?_)
      · skip
        exact hK
      · skip
        have := of_decide_eq_false g2
        omega
  refine aa_E_of (by decide) 0 [some (.ref 63), some (.int (nI i)), some (.int (nI k))] rfl rfl (key _ ?_)
  rcases (show k = 0 ∨ k = 1 ∨ k = 2 ∨ k = 3 ∨ k = 4 ∨ k = 5 by omega) with rfl | rfl | rfl | rfl | rfl | rfl
  · skip
    refine aa_go (aa_iload2 iX12_thing_30) ?_
    refine aa_go (aa_tsIn (x := nI 0) (off := 33) (tgt := 64) iX12_thing_31 (by decide) (by decide) (by decide) (by decide)) ?_
    refine aa_go (aa_aload0 iX12_thing_64) (aa_go (aa_getR iX12_thing_65 fl_X12_54 (sh_63 h1.W) rfl) (aa_go (aa_iload1 iX12_thing_68) (aa_go (aa_ialE iX12_thing_69 (sh_65 h1.W) (by omega) (by omega) ((a3 i hi).1)) ?_)))
    refine aa_iret iX12_thing_70 rfl ?_
    exact ⟨rfl, rfl⟩
  · skip
    refine aa_go (aa_iload2 iX12_thing_30) ?_
    refine aa_go (aa_tsIn (x := nI 1) (off := 40) (tgt := 71) iX12_thing_31 (by decide) (by decide) (by decide) (by decide)) ?_
    refine aa_go (aa_aload0 iX12_thing_71) (aa_go (aa_getR iX12_thing_72 fl_X12_57 (sh_63 h1.W) rfl) (aa_go (aa_iload1 iX12_thing_75) (aa_go (aa_ialE iX12_thing_76 (sh_66 h1.W) (by omega) (by omega) ((a3 i hi).2.1)) ?_)))
    refine aa_iret iX12_thing_77 rfl ?_
    exact ⟨rfl, rfl⟩
  · skip
    refine aa_go (aa_iload2 iX12_thing_30) ?_
    refine aa_go (aa_tsIn (x := nI 2) (off := 47) (tgt := 78) iX12_thing_31 (by decide) (by decide) (by decide) (by decide)) ?_
    refine aa_go (aa_aload0 iX12_thing_78) (aa_go (aa_getR iX12_thing_79 fl_X12_47 (sh_63 h1.W) rfl) (aa_go (aa_iload1 iX12_thing_82) (aa_go (aa_ialE iX12_thing_83 (sh_67 h1.W) (by omega) (by omega) ((a3 i hi).2.2.1)) ?_)))
    refine aa_iret iX12_thing_84 rfl ?_
    exact ⟨rfl, rfl⟩
  · skip
    refine aa_go (aa_iload2 iX12_thing_30) ?_
    refine aa_go (aa_tsIn (x := nI 3) (off := 54) (tgt := 85) iX12_thing_31 (by decide) (by decide) (by decide) (by decide)) ?_
    refine aa_go (aa_aload0 iX12_thing_85) (aa_go (aa_getR iX12_thing_86 fl_X12_92 (sh_63 h1.W) rfl) (aa_go (aa_iload1 iX12_thing_89) (aa_go (aa_ialE iX12_thing_90 (sh_68 h1.W) (by omega) (by omega) ((a3 i hi).2.2.2)) ?_)))
    refine aa_iret iX12_thing_91 rfl ?_
    exact ⟨rfl, rfl⟩
  · have hS := m_backOf h1.W h1.M (i := i) (by omega)
    have hb := bkB_bkO ok i
    cases q : bkO P i with
    | none =>
      rw [q] at hS hb
      have hS2 : aa_SX mX12_backOf 1 [.ref 63, .int (nI i)] (aa_sI σ 63 0 (nI 0)) (some (.int (-1))) (aa_sI σ 63 0 (nI 0)) := hS
      refine aa_go (aa_iload2 iX12_thing_30) ?_
      refine aa_go (aa_tsIn (x := nI 4) (off := 61) (tgt := 92) iX12_thing_31 (by decide) (by decide) (by decide) (by decide)) ?_
      refine aa_go (aa_aload0 iX12_thing_92) (aa_go (aa_iload1 iX12_thing_93) (aa_go (aa_cVi iX12_thing_94 (hS2) (by decide) lc_X12_backOf lk_X12_117 (sh_63 h1.W) rfl rfl (Nat.le_of_ble_eq_true rfl)) ?_))
      refine aa_if_lt iX12_thing_97 (fun g1 => ?_) (fun g1 => ?_)
      · skip
        refine aa_go (aa_iconst iX12_thing_104 ki_0) (aa_go (aa_cSi iX12_thing_105 (m_flag false) (by decide) lc_X12_flag lk_X12_31 rfl (Nat.le_of_ble_eq_true rfl)) ?_)
        refine aa_iret iX12_thing_108 rfl ?_
        exact ⟨by show _ = some (Value.int (nI (pl_bkB P i).toNat)); rw [hb]; rfl, rfl⟩
      · skip
        exact absurd (by decide : (-1 : Int32) < 0) g1
    | some q0 =>
      rw [q] at hS hb
      have q1 := (bkO_some q).1
      have b2 := ok.2.1
      have hS2 : aa_SX mX12_backOf 1 [.ref 63, .int (nI i)] (aa_sI σ 63 0 (nI 0)) (some (.int (nI q0))) (aa_sI σ 63 0 (nI 0)) := hS
      refine aa_go (aa_iload2 iX12_thing_30) ?_
      refine aa_go (aa_tsIn (x := nI 4) (off := 61) (tgt := 92) iX12_thing_31 (by decide) (by decide) (by decide) (by decide)) ?_
      refine aa_go (aa_aload0 iX12_thing_92) (aa_go (aa_iload1 iX12_thing_93) (aa_go (aa_cVi iX12_thing_94 (hS2) (by decide) lc_X12_backOf lk_X12_117 (sh_63 h1.W) rfl rfl (Nat.le_of_ble_eq_true rfl)) ?_))
      refine aa_go (aa_if_ltN iX12_thing_97 (by omega)) ?_
      refine aa_go (aa_iconst iX12_thing_100 ki_1) (aa_go (aa_goto iX12_thing_101) (aa_go (aa_cSi iX12_thing_105 (m_flag true) (by decide) lc_X12_flag lk_X12_31 rfl (Nat.le_of_ble_eq_true rfl)) ?_))
      refine aa_iret iX12_thing_108 rfl ?_
      exact ⟨by show _ = some (Value.int (nI (pl_bkB P i).toNat)); rw [hb]; rfl, rfl⟩
  · have hx2 : (nI 5).toInt < 0 ∨ 4 < (nI 5).toInt := by decide
    refine aa_go (aa_iload2 iX12_thing_30) ?_
    refine aa_go (aa_tsOut (tgt := 109) iX12_thing_31 (hx2) (by decide)) ?_
    refine aa_go (aa_aload0 iX12_thing_109) (aa_go (aa_iload1 iX12_thing_110) (aa_go (aa_cVi iX12_thing_111 (m_isThere h1.W (cv_lt _) (by omega) h1.G.1) (by decide) lc_X12_isThere lk_X12_121 (sh_63 h1.W) rfl rfl (Nat.le_of_ble_eq_true rfl)) (aa_go (aa_cSi iX12_thing_114 (m_flag _) (by decide) lc_X12_flag lk_X12_31 rfl (Nat.le_of_ble_eq_true rfl)) ?_)))
    refine aa_iret iX12_thing_117 rfl ?_
    exact ⟨by rw [cv_lo ok hi]; rfl, rfl⟩
theorem q_thingB (h : MI P tx n g kp lk tl rw Q r dy σ) {x y : Int32} (hx : ¬ (0 ≤ x ∧ x < nI (pl_n P)) ∨ (y < 0 ∨ nI 5 < y)) : ∃ σ', (MJ P tx n g kp lk tl rw Q r dy σ σ' ∧ σ'.1 63 0 = nI 1) ∧ aa_SX mX12_thing 100 [.ref 63, .int x, .int y] σ (some (.int (nI 0))) σ' := by
  have h1 := h.thr (nI 0)
  have n14 := h.n14
  have e : (nI (pl_n P)).toInt = pl_n P := nI_toInt (by omega)
  rw [Int32.le_iff_toInt_le, Int32.lt_iff_toInt_lt, e, Int32.toInt_zero] at hx
  have hR : aa_SX mX12_refuse 1 [.ref 63] (aa_sI σ 63 0 (nI 0)) (some (.int (nI 0))) (aa_sI (aa_sI σ 63 0 (nI 0)) 63 0 (nI 1)) := by
    refine aa_E_of (by decide) 0 [some (.ref 63)] rfl rfl ?_
    refine aa_go (aa_aload0 iX12_refuse_0) (aa_go (aa_iconst iX12_refuse_1 ki_1) (aa_go (aa_putI iX12_refuse_2 fl_X12_3 (fun h => nomatch h) (sh_63 h1.W) rfl ⟨rfl, rfl⟩) (aa_go (aa_iconst iX12_refuse_5 ki_0) ?_)))
    refine aa_iret iX12_refuse_6 rfl ?_
    exact ⟨rfl, rfl⟩
  refine ⟨_, ⟨(h1.thr (nI 1)).J (by omega) ((MF.rf.s (by decide) _ _).s (by decide) _ _), sI_eq⟩, ?_⟩
  refine aa_E_of (by decide) 0 [some (.ref 63), some (.int (x)), some (.int (y))] rfl rfl ?_
  refine aa_go (aa_aload0 iX12_thing_0) (aa_go (aa_iconst iX12_thing_1 ki_0) (aa_go (aa_putI iX12_thing_2 fl_X12_3 (fun h => nomatch h) (sh_63 h.W) rfl ⟨rfl, rfl⟩) ?_))
  refine aa_go (aa_aload0 iX12_thing_5) (aa_go (aa_iload1 iX12_thing_6) (aa_go (aa_cVi iX12_thing_7 (m_isThing h1.W h1.M x) (by decide) lc_X12_isThing lk_X12_108 (sh_63 h1.W) rfl rfl (Nat.le_of_ble_eq_true rfl)) ?_))
  refine aa_if_eqB iX12_thing_10 (fun g1 => ?_) (fun g1 => ?_)
  · skip
    refine aa_go (aa_aload0 iX12_thing_25) (aa_go (aa_cVi iX12_thing_26 (hR) (by decide) lc_X12_refuse lk_X12_113 (sh_63 h1.W) rfl rfl (Nat.le_of_ble_eq_true rfl)) ?_)
    refine aa_iret iX12_thing_29 rfl ?_
    exact ⟨rfl, rfl⟩
  · skip
    have hy : y < 0 ∨ nI 5 < y := by
      rcases hx with q | q
      · have := of_decide_eq_true g1
        omega
      · exact q
    refine aa_go (aa_iload2 iX12_thing_13) (aa_go (aa_i2l iX12_thing_14) (aa_go (aa_lconst iX12_thing_15 kl_0) (aa_go (aa_ldc2 iX12_thing_16 ld_X12_111) (aa_go (aa_cSi iX12_thing_19 (m_inB (c := 5) (by omega) hy) (by decide) lc_X12_in lk_X12_21 rfl (Nat.le_of_ble_eq_true rfl)) ?_))))
    refine aa_if_neB iX12_thing_22 (fun g2 => ?_) (fun g2 => ?_)
    · skip
      exact absurd g2 (by decide)
    · skip
      refine aa_go (aa_aload0 iX12_thing_25) (aa_go (aa_cVi iX12_thing_26 (hR) (by decide) lc_X12_refuse lk_X12_113 (sh_63 h1.W) rfl rfl (Nat.le_of_ble_eq_true rfl)) ?_)
      refine aa_iret iX12_thing_29 rfl ?_
      exact ⟨rfl, rfl⟩
theorem lks_F {a b : Nat} (ha : a ≤ 2) (hb : b ≤ 2) (hab : a ≠ b) (x : Nat) (hx : x ≤ 2) : lkF (lks lk a b) x = if x = a then b else lkF lk x := by
  unfold lkF lks
  by_cases c : x = a
  · subst c
    rw [if_pos rfl]
    by_cases c1 : b = nx3 x
    · rw [if_pos c1, bd_bit, bb_tp, decide_eq_true rfl, Bool.not_true, Bool.and_false, if_neg (by decide)]
      exact c1.symm
    · rw [if_neg c1, Nat.testBit_or, bb_tp, decide_eq_true rfl, Bool.or_true, if_pos rfl]
      unfold nx3 at c1 ⊢
      repeat' split
      all_goals (revert c1; split <;> omega)
  · rw [if_neg c]
    by_cases c1 : b = nx3 a
    · rw [if_pos c1, bd_bit, bb_tp, decide_eq_false (fun q => c q.symm), Bool.not_false, Bool.and_true]
    · rw [if_neg c1, Nat.testBit_or, bb_tp, decide_eq_false (fun q => c q.symm), Bool.or_false]
theorem q_likes (h : MI P tx n g kp lk tl rw Q r dy σ) {a b : Nat} (ha : a ≤ 2) (hb : b ≤ 2) (hab : a ≠ b) : ∃ σ', MJ P tx n g kp (lks lk a b) tl rw Q r dy σ σ' ∧ aa_SX mX12_likes 100 [.ref 63, .int (nI a), .int (nI b)] σ (some (.int (nI 1))) σ' := by
  have h1 := h.thr (nI 0)
  let σ9 : aa_St := aa_sI (aa_sI σ 63 0 (nI 0)) 80 a (nI b)
  have q : ∀ x, x ≠ 63 → x ≠ 80 → σ9.1 x = σ.1 x := fun x a1 a2 => by
    show (aa_sI _ 80 _ _).1 x = _
    rw [sI_ne a2, sI_ne a1]
  have qk : ∀ k, k ≠ 0 → σ9.1 63 k = σ.1 63 k := fun k a1 => by
    show (aa_sI _ 80 _ _).1 63 k = _
    rw [sI_ne (by decide), sI_nk a1]
  have hU : MI P tx n g kp (lks lk a b) tl rw Q r dy σ9 := by
    refine h.upd rfl (fun k hk => qk k (by omega)) (fun x hx => q x (by omega) (by omega)) (h.X.fr (qk 17 (by decide)) (q 72 (by decide) (by decide))) (h.G.fr (fun k hk => qk k (by omega)) (q 70 (by decide) (by decide)) (q 71 (by decide) (by decide))) (h.K.fr (q 83 (by decide) (by decide)) (q 84 (by decide) (by decide)) (q 85 (by decide) (by decide))) ⟨lks_lt h.L.1 ha, fun x hx => ?_⟩
    show (aa_sI _ 80 _ _).1 80 x = _
    rw [sI_at, lks_F ha hb hab x hx]
    by_cases c : x = a
    · rw [if_pos c, if_pos c]
    · rw [if_neg c, if_neg c, sI_ne (by decide)]; exact h.L.2 x hx
  refine ⟨σ9, hU.J (by omega) ((MF.rf.s (by decide) _ _).s (by decide) _ _), ?_⟩
  refine aa_E_of (by decide) 0 [some (.ref 63), some (.int (nI a)), some (.int (nI b))] rfl rfl ?_
  refine aa_go (aa_aload0 iX12_likes_0) (aa_go (aa_iconst iX12_likes_1 ki_0) (aa_go (aa_putI iX12_likes_2 fl_X12_3 (fun h => nomatch h) (sh_63 h.W) rfl ⟨rfl, rfl⟩) ?_))
  refine aa_go (aa_iload1 iX12_likes_5) (aa_go (aa_i2lN iX12_likes_6 (by omega)) (aa_go (aa_lconst iX12_likes_7 kl_0) (aa_go (aa_ldc2 iX12_likes_8 ld_X12_144) (aa_go (aa_cSi iX12_likes_11 (m_inN (hi := 2) (by omega) (by omega)) (by decide) lc_X12_in lk_X12_21 rfl (Nat.le_of_ble_eq_true rfl)) ?_))))
  refine aa_if_eqB iX12_likes_14 (fun g1 => ?_) (fun g1 => ?_)
  · skip
    exact absurd ha (of_decide_eq_false g1)
  · skip
    refine aa_go (aa_iload2 iX12_likes_17) (aa_go (aa_i2lN iX12_likes_18 (by omega)) (aa_go (aa_lconst iX12_likes_19 kl_0) (aa_go (aa_ldc2 iX12_likes_20 ld_X12_144) (aa_go (aa_cSi iX12_likes_23 (m_inN (hi := 2) (by omega) (by omega)) (by decide) lc_X12_in lk_X12_21 rfl (Nat.le_of_ble_eq_true rfl)) ?_))))
    refine aa_if_eqB iX12_likes_26 (fun g2 => ?_) (fun g2 => ?_)
    · skip
      exact absurd hb (of_decide_eq_false g2)
    · skip
      refine aa_go (aa_iload1 iX12_likes_29) (aa_go (aa_iload2 iX12_likes_30) ?_)
      refine aa_ic_neN iX12_likes_31 (by omega) (by omega) (fun g3 => ?_) (fun g3 => ?_)
      · skip
        refine aa_go (aa_aload0 iX12_likes_36) (aa_go (aa_getR iX12_likes_37 fl_X12_290 (sh_63 h1.W) rfl) (aa_go (aa_iload1 iX12_likes_40) (aa_go (aa_iload2 iX12_likes_41) (aa_go (aa_iasN iX12_likes_42 (sh_80 h1.W) (by omega) (by omega)) (aa_go (aa_iconst iX12_likes_43 ki_1) ?_)))))
        refine aa_zretT iX12_likes_44 rfl ?_
        exact ⟨rfl, rfl⟩
      · skip
        exact absurd g3 hab
theorem q_likesB (h : MI P tx n g kp lk tl rw Q r dy σ) {a b : Int32} (hx : (a < 0 ∨ nI 2 < a) ∨ (b < 0 ∨ nI 2 < b) ∨ a = b) : ∃ σ', MJ P tx n g kp lk tl rw Q r dy σ σ' ∧ aa_SX mX12_likes 100 [.ref 63, .int a, .int b] σ (some (.int (nI 0))) σ' := by
  have h1 := h.thr (nI 0)
  refine ⟨_, h.JB, ?_⟩
  have hI : ∀ (x : Int32), aa_SX mX12_in 1 [.long x.toInt64, .long (lN 0), .long (lN 2)] (aa_sI σ 63 0 (nI 0)) (some (.int (nI (decide (0 ≤ x.toInt ∧ x.toInt ≤ 2)).toNat))) (aa_sI σ 63 0 (nI 0)) := fun x => by
    have b1 := Int32.toInt_lt x
    have b2 := Int32.le_toInt x
    have := m_in (σ := aa_sI σ 63 0 (nI 0)) (v := x.toInt) (lo := 0) (hi := 2) (by omega) (by omega) (by omega)
    rw [i2lZ]; exact this
  refine aa_E_of (by decide) 0 [some (.ref 63), some (.int (a)), some (.int (b))] rfl rfl ?_
  refine aa_go (aa_aload0 iX12_likes_0) (aa_go (aa_iconst iX12_likes_1 ki_0) (aa_go (aa_putI iX12_likes_2 fl_X12_3 (fun h => nomatch h) (sh_63 h.W) rfl ⟨rfl, rfl⟩) ?_))
  refine aa_go (aa_iload1 iX12_likes_5) (aa_go (aa_i2l iX12_likes_6) (aa_go (aa_lconst iX12_likes_7 kl_0) (aa_go (aa_ldc2 iX12_likes_8 ld_X12_144) (aa_go (aa_cSi iX12_likes_11 (hI a) (by decide) lc_X12_in lk_X12_21 rfl (Nat.le_of_ble_eq_true rfl)) ?_))))
  refine aa_if_eqB iX12_likes_14 (fun g1 => ?_) (fun g1 => ?_)
  · skip
    refine aa_go (aa_iconst iX12_likes_34 ki_0) ?_
    refine aa_zretF iX12_likes_35 rfl ?_
    exact ⟨rfl, rfl⟩
  · skip
    refine aa_go (aa_iload2 iX12_likes_17) (aa_go (aa_i2l iX12_likes_18) (aa_go (aa_lconst iX12_likes_19 kl_0) (aa_go (aa_ldc2 iX12_likes_20 ld_X12_144) (aa_go (aa_cSi iX12_likes_23 (hI b) (by decide) lc_X12_in lk_X12_21 rfl (Nat.le_of_ble_eq_true rfl)) ?_))))
    refine aa_if_eqB iX12_likes_26 (fun g2 => ?_) (fun g2 => ?_)
    · skip
      refine aa_go (aa_iconst iX12_likes_34 ki_0) ?_
      refine aa_zretF iX12_likes_35 rfl ?_
      exact ⟨rfl, rfl⟩
    · skip
      have g1 := of_decide_eq_true g1
      have g2 := of_decide_eq_true g2
      refine aa_go (aa_iload1 iX12_likes_29) (aa_go (aa_iload2 iX12_likes_30) ?_)
      refine aa_ic_ne iX12_likes_31 (fun g3 => ?_) (fun g3 => ?_)
      · skip
        rcases hx with q | q | q
        · exact absurd g1 (dB_f (c := 2) (by omega) q)
        · exact absurd g2 (dB_f (c := 2) (by omega) q)
        · exact absurd q g3
      · skip
        refine aa_go (aa_iconst iX12_likes_34 ki_0) ?_
        refine aa_zretF iX12_likes_35 rfl ?_
        exact ⟨rfl, rfl⟩
end
