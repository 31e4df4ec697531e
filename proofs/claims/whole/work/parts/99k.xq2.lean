/-! THE REFERENCE, PUBLIC METHODS: moves, counts, rows, things -/
theorem sp_mo {P : pl_T} (ok : pl_ok P) {j : Nat} (hj : j < pl_n P + pl_b P) : pl_sp P (pl_mo P j) = some j ∧ pl_mo P j < 28 ∧ pl_mo P j % 14 < pl_n P := by
  have h1 := ok.1
  have h2 := ok.2.1
  have h5 := ok.2.2.2.2.1
  by_cases c : j < pl_n P
  · rw [pl_mo, if_pos c]
    exact ⟨sp_lo c, by omega, by omega⟩
  · have k0 := h5 (j - pl_n P) (by omega)
    rw [pl_mo, if_neg c]
    refine ⟨?_, by omega, by omega⟩
    rw [sp_hi ok, bkO_k ok (by omega)]
    show some (pl_n P + (j - pl_n P)) = _
    congr 1
    omega
section
variable {P P' : pl_T} {tx tx' : Nat → Nat} {n n' : Nat} {g g' : gm_T} {kp kp' : Nat → Option gm_T} {lk lk' tl tl' : Nat} {rw rw' : Nat → Int} {Q Q' : Nat} {r : Nat → Nat} {dy : List aa_Shp} {σ σ' : aa_St}
theorem GG.st (hG : GG P g) : gst g < 2 ^ (pl_n P + pl_b P) := hG.1.2.1 g.1
theorem GG.dv (ok : pl_ok P) (hG : GG P g) : dv P (cv P (gst g)) = gst g := dv_cv ok hG.st
theorem gtn_le (g : gm_T) : gtn g ≤ 1 := by unfold gtn; omega
theorem MI.n14 (h : MI P tx n g kp lk tl rw Q r dy σ) : pl_n P ≤ 14 := h.ok.1
theorem MI.b2 (h : MI P tx n g kp lk tl rw Q r dy σ) : pl_b P ≤ 2 := h.ok.2.1
theorem q_may (h : MI P tx n g kp lk tl rw Q r dy σ) (hG : GG P g) {k : Nat} (hk : k ≤ 2) : ∃ σ', MJ P tx n g kp lk tl rw Q r dy σ σ' ∧ aa_SX mX12_may 100 [.ref 63, .int (nI k)] σ (some (.int (nI (pl_nmk P (pl_mv P k (gst g)) (pl_b P))))) σ' := by
  have h1 := h.thr (nI 0)
  have hS := m_movesOf h1.W h1.M (t := cv P (gst g)) (cv_lt _) (show k ≤ 3 by omega)
  rw [hG.dv h.ok] at hS
  refine ⟨_, h.JB, ?_⟩
  refine aa_E_of (by decide) 0 [some (.ref 63), some (.int (nI k))] rfl rfl ?_
  refine aa_go (aa_aload0 iX12_may_0) (aa_go (aa_iconst iX12_may_1 ki_0) (aa_go (aa_putI iX12_may_2 fl_X12_3 (fun h => nomatch h) (sh_63 h.W) rfl ⟨rfl, rfl⟩) ?_))
  refine aa_go (aa_iload1 iX12_may_5) (aa_go (aa_i2lN iX12_may_6 (by omega)) (aa_go (aa_lconst iX12_may_7 kl_0) (aa_go (aa_ldc2 iX12_may_8 ld_X12_144) (aa_go (aa_cSi iX12_may_11 (m_inN (hi := 2) (by omega) (by omega)) (by decide) lc_X12_in lk_X12_21 rfl (Nat.le_of_ble_eq_true rfl)) ?_))))
  refine aa_if_eqB iX12_may_14 (fun g1 => ?_) (fun g1 => ?_)
  · skip
    exact absurd hk (of_decide_eq_false g1)
  · skip
    refine aa_go (aa_aload0 iX12_may_17) (aa_go (aa_aload0 iX12_may_18) (aa_go (aa_getE iX12_may_19 fl_X12_99 (sh_63 h1.W) rfl h1.G.1) (aa_go (aa_iload1 iX12_may_22) (aa_go (aa_cVi iX12_may_23 (hS) (by decide) lc_X12_movesOf lk_X12_146 (sh_63 h1.W) rfl rfl (Nat.le_of_ble_eq_true rfl)) (aa_go (aa_goto iX12_may_26) ?_)))))
    refine aa_iret iX12_may_30 rfl ?_
    exact ⟨rfl, rfl⟩
theorem q_mayB (h : MI P tx n g kp lk tl rw Q r dy σ) {x : Int32} (hx : x < 0 ∨ nI 2 < x) : ∃ σ', MJ P tx n g kp lk tl rw Q r dy σ σ' ∧ aa_SX mX12_may 100 [.ref 63, .int x] σ (some (.int (-1))) σ' := by
  have h1 := h.thr (nI 0)
  refine ⟨_, h.JB, ?_⟩
  refine aa_E_of (by decide) 0 [some (.ref 63), some (.int (x))] rfl rfl ?_
  refine aa_go (aa_aload0 iX12_may_0) (aa_go (aa_iconst iX12_may_1 ki_0) (aa_go (aa_putI iX12_may_2 fl_X12_3 (fun h => nomatch h) (sh_63 h.W) rfl ⟨rfl, rfl⟩) ?_))
  refine aa_go (aa_iload1 iX12_may_5) (aa_go (aa_i2l iX12_may_6) (aa_go (aa_lconst iX12_may_7 kl_0) (aa_go (aa_ldc2 iX12_may_8 ld_X12_144) (aa_go (aa_cSi iX12_may_11 (m_inB (c := 2) (by omega) hx) (by decide) lc_X12_in lk_X12_21 rfl (Nat.le_of_ble_eq_true rfl)) ?_))))
  refine aa_if_eqB iX12_may_14 (fun g1 => ?_) (fun g1 => ?_)
  · skip
    refine aa_go (aa_iconst iX12_may_29 ki_m1) ?_
    refine aa_iret iX12_may_30 rfl ?_
    exact ⟨rfl, rfl⟩
  · skip
    exact absurd g1 (by decide)
theorem q_moveY (h : MI P tx n g kp lk tl rw Q r dy σ) (hG : GG P g) {m j : Nat} (hm : m < 28) (hmn : m % 14 < pl_n P) (hj : pl_sp P m = some j) (hl : pl_lg P (gtn g) (gst g) j = true) (h18 : g.1 < 18) : ∃ σ', MJ P tx n (gGo P g j) kp lk tl rw Q r dy σ σ' ∧ aa_SX mX12_move 100 [.ref 63, .int (nI m)] σ (some (.int (nI (bd (gst g) (pl_nx P (gst g) j))))) σ' := by
  have h1 := h.thr (nI 0)
  have t1 := gtn_le g
  have ok := h.ok
  have n14 := h.n14
  have cl := cv_lt (P := P) (gst g)
  have hc : cnM P (gtn g) (cv P (gst g)) m = true := by
    rw [cnM, decide_eq_true hm, hj, hG.dv ok]; exact hl
  have ea := cv_af (s := gst g) ok hj
  obtain ⟨b1, b2, b3, b4, b5⟩ := h1.G
  have em : bd (cv P (gst g)) (cv P (pl_nx P (gst g) j)) &&& 16383 = bd (gst g) (pl_nx P (gst g) j) := by
    have sl := hG.st
    apply bb_ext
    intro i
    rw [Nat.testBit_and, show (16383 : Nat) = 2 ^ 14 - 1 from rfl, Nat.testBit_two_pow_sub_one, bd_bit, bd_bit]
    by_cases c : i < pl_n P
    · rw [cv_lo ok c, cv_lo ok c, decide_eq_true (by omega)]; simp
    · have hz : ((gst g).testBit i && !(pl_nx P (gst g) j).testBit i) = false := by
        by_cases cj : j < pl_n P
        · have cl14 : pl_cl P j < 2 ^ pl_n P := bb_or (pl_ab_lt P j) (bb_p2 cj)
          rw [pl_nx, if_pos cj, bd_bit, bb_hi cl14 (by omega)]
          cases (gst g).testBit i <;> rfl
        · rw [pl_nx, if_neg cj, Nat.testBit_or]
          cases (gst g).testBit i <;> simp
      rw [hz]
      by_cases c2 : i < 14
      · rw [cv_mid c c2]; rfl
      · rw [decide_eq_false c2, Bool.and_false]
  -- the states on the way
  have W1 : aa_W r dy (aa_sI (aa_sI (aa_sI (aa_sI σ 63 0 (nI 0)) 70 g.1 (nI m)) 71 g.1 (nI (cv P (gst g)))) 63 13 (nI (g.1 + 1))) := h1.W
  have M1 : MP P (aa_sI (aa_sI (aa_sI (aa_sI σ 63 0 (nI 0)) 70 g.1 (nI m)) 71 g.1 (nI (cv P (gst g)))) 63 13 (nI (g.1 + 1))).1 := h1.M.fr (by rw [sI_nk (by decide), sI_ne (by decide), sI_ne (by decide)]) (by rw [sI_nk (by decide), sI_ne (by decide), sI_ne (by decide)]) (fun x hx => by rw [sI_ne (by omega), sI_ne (by omega), sI_ne (by omega)])
  have hA := m_after W1 M1 (t := cv P (gst g)) hm hj
  rw [ea] at hA
  have hg : ∀ k, k = 10 ∨ k = 11 → (aa_sI (aa_sI (aa_sI (aa_sI σ 63 0 (nI 0)) 70 g.1 (nI m)) 71 g.1 (nI (cv P (gst g)))) 63 13 (nI (g.1 + 1))).1 63 k = (aa_sI σ 63 0 (nI 0)).1 63 k := fun k hk => by
    rw [sI_nk (by omega), sI_ne (by decide), sI_ne (by decide)]
  have g10 := hg 10 (by decide)
  rw [b1] at g10
  have g13 : (aa_sI (aa_sI (aa_sI σ 63 0 (nI 0)) 70 g.1 (nI m)) 71 g.1 (nI (cv P (gst g)))).1 63 13 = nI g.1 := by
    rw [sI_ne (by decide), sI_ne (by decide)]; exact b4
  have g13' : (aa_sI (aa_sI σ 63 0 (nI 0)) 70 g.1 (nI m)).1 63 13 = nI g.1 := by
    rw [sI_ne (by decide)]; exact b4
  have g10' : (aa_sI (aa_sI σ 63 0 (nI 0)) 70 g.1 (nI m)).1 63 10 = nI (cv P (gst g)) := by
    rw [sI_ne (by decide)]; exact b1
  have g11 : (aa_sI (aa_sI (aa_sI (aa_sI (aa_sI σ 63 0 (nI 0)) 70 g.1 (nI m)) 71 g.1 (nI (cv P (gst g)))) 63 13 (nI (g.1 + 1))) 63 10 (nI (cv P (pl_nx P (gst g) j)))).1 63 11 = nI (gtn g) := by
    rw [sI_nk (by decide), hg 11 (by decide)]; exact b2
  let σ9 : aa_St := aa_sI (aa_sI (aa_sI (aa_sI (aa_sI (aa_sI σ 63 0 (nI 0)) 70 g.1 (nI m)) 71 g.1 (nI (cv P (gst g)))) 63 13 (nI (g.1 + 1))) 63 10 (nI (cv P (pl_nx P (gst g) j)))) 63 11 (nI (1 - gtn g))
  have q : ∀ x, x ≠ 63 → x ≠ 70 → x ≠ 71 → σ9.1 x = σ.1 x := fun x a1 a2 a3 => by
    show (aa_sI _ 63 11 _).1 x = _
    rw [sI_ne a1, sI_ne a1, sI_ne a1, sI_ne a3, sI_ne a2, sI_ne a1]
  have qk : ∀ k, k ≠ 0 → k ≠ 10 → k ≠ 11 → k ≠ 13 → σ9.1 63 k = σ.1 63 k := fun k a1 a2 a3 a4 => by
    show (aa_sI _ 63 11 _).1 63 k = _
    rw [sI_nk a3, sI_nk a2, sI_nk a4, sI_ne (by decide), sI_ne (by decide), sI_nk a1]
  have hU : MI P tx n (gGo P g j) kp lk tl rw Q r dy σ9 := by
    refine h.upd rfl (fun k hk => qk k (by omega) (by omega) (by omega) (by omega)) (fun x hx => q x (by omega) (by omega) (by omega)) (h.X.fr (qk 17 (by decide) (by decide) (by decide) (by decide)) (q 72 (by decide) (by decide) (by decide))) ⟨?_, ?_, ?_, ?_, fun k hk => ?_⟩ (h.K.fr (q 83 (by decide) (by decide) (by decide)) (q 84 (by decide) (by decide) (by decide)) (q 85 (by decide) (by decide) (by decide))) (h.L.fr (q 80 (by decide) (by decide) (by decide)))
    · show (aa_sI _ 63 11 _).1 63 10 = nI (cv P (nup g.2.1 (g.1 + 1) (pl_nx P (gst g) j) (g.1 + 1)))
      rw [sI_nk (by decide), sI_eq, nup_eq]
    · show (aa_sI _ 63 11 _).1 63 11 = nI ((g.1 + 1) % 2)
      rw [sI_eq]
      congr 1
      unfold gtn; omega
    · show σ9.1 63 12 = nI (gen g)
      rw [qk 12 (by decide) (by decide) (by decide) (by decide)]; exact h.G.2.2.1
    · show (aa_sI _ 63 11 _).1 63 13 = nI (g.1 + 1)
      rw [sI_nk (by decide), sI_nk (by decide), sI_eq]
    · have hk' : k < g.1 + 1 := hk
      show (aa_sI _ 63 11 _).1 70 k = nI (pl_mo P (nup g.2.2.1 g.1 j k)) ∧ (aa_sI _ 63 11 _).1 71 k = nI (cv P (nup g.2.1 (g.1 + 1) (pl_nx P (gst g) j) k))
      have b5' : k < g.1 → σ.1 70 k = nI (pl_mo P (g.2.2.1 k)) ∧ σ.1 71 k = nI (cv P (g.2.1 k)) := fun q9 => h.G.2.2.2.2 k q9
      constructor
      · rw [sI_ne (by decide), sI_ne (by decide), sI_ne (by decide), sI_ne (by decide), sI_at, sI_ne (by decide)]
        by_cases c : k = g.1
        · rw [if_pos c, c, nup_eq, mo_sp ok hj]
        · rw [if_neg c, nup_ne c]; exact (b5' (by omega)).1
      · rw [sI_ne (by decide), sI_ne (by decide), sI_ne (by decide), sI_at, nup_ne (show k ≠ g.1 + 1 by omega), sI_ne (by decide), sI_ne (by decide)]
        by_cases c : k = g.1
        · rw [if_pos c, c]; rfl
        · rw [if_neg c]; exact (b5' (by omega)).2
  refine ⟨σ9, hU.J (by omega) ((((((MF.rf.s (by decide) _ _).s (by decide) _ _).s (by decide) _ _).s (by decide) _ _).s (by decide) _ _).s (by decide) _ _), ?_⟩
  refine aa_E_of (by decide) 1 [some (.ref 63), some (.int (nI m)), none] rfl rfl ?_
  refine aa_go (aa_aload0 iX12_move_0) (aa_go (aa_iconst iX12_move_1 ki_0) (aa_go (aa_putI iX12_move_2 fl_X12_3 (fun h => nomatch h) (sh_63 h.W) rfl ⟨rfl, rfl⟩) ?_))
  refine aa_go (aa_iload1 iX12_move_5) (aa_go (aa_i2lN iX12_move_6 (by omega)) (aa_go (aa_lconst iX12_move_7 kl_0) (aa_go (aa_ldc2 iX12_move_8 ld_X12_132) (aa_go (aa_cSi iX12_move_11 (m_inN (hi := 27) (by omega) (by omega)) (by decide) lc_X12_in lk_X12_21 rfl (Nat.le_of_ble_eq_true rfl)) ?_))))
  refine aa_if_eqB iX12_move_14 (fun g1 => ?_) (fun g1 => ?_)
  · skip
    have := of_decide_eq_false g1
    omega
  · skip
    refine aa_go (aa_iload1 iX12_move_17) (aa_go (aa_bipush iX12_move_18 kb_14) (aa_go (aa_iremN iX12_move_20 (by omega) (by omega) (by omega)) (aa_go (aa_aload0 iX12_move_21) (aa_go (aa_getE iX12_move_22 fl_X12_78 (sh_63 h1.W) rfl h1.M.2.1) ?_))))
    refine aa_ic_ltN iX12_move_25 (by omega) (by omega) (fun g2 => ?_) (fun g2 => ?_)
    · skip
      refine aa_go (aa_aload0 iX12_move_30) (aa_go (aa_aload0 iX12_move_31) (aa_go (aa_getE iX12_move_32 fl_X12_99 (sh_63 h1.W) rfl b1) (aa_go (aa_aload0 iX12_move_35) (aa_go (aa_getE iX12_move_36 fl_X12_102 (sh_63 h1.W) rfl b2) (aa_go (aa_iload1 iX12_move_39) (aa_go (aa_cVi iX12_move_40 (m_can h1.W h1.M cl (by omega) (by omega)) (by decide) lc_X12_can lk_X12_140 (sh_63 h1.W) rfl rfl (Nat.le_of_ble_eq_true rfl)) ?_))))))
      refine aa_if_neB iX12_move_43 (fun g3 => ?_) (fun g3 => ?_)
      · skip
        refine aa_go (aa_aload0 iX12_move_49) (aa_go (aa_getR iX12_move_50 fl_X12_149 (sh_63 h1.W) rfl) (aa_go (aa_aload0 iX12_move_53) (aa_go (aa_getE iX12_move_54 fl_X12_105 (sh_63 h1.W) rfl b4) (aa_go (aa_iload1 iX12_move_57) (aa_go (aa_iasN iX12_move_58 (sh_70 h1.W) (by omega) (by omega)) ?_)))))
        refine aa_go (aa_aload0 iX12_move_59) (aa_go (aa_getR iX12_move_60 fl_X12_152 (sh_63 h1.W) rfl) (aa_go (aa_aload0 iX12_move_63) (aa_go (aa_getE iX12_move_64 fl_X12_105 (sh_63 h1.W) rfl g13') (aa_go (aa_aload0 iX12_move_67) (aa_go (aa_getE iX12_move_68 fl_X12_99 (sh_63 h1.W) rfl g10') (aa_go (aa_iasN iX12_move_71 (sh_71 h1.W) (by omega) (by omega)) ?_))))))
        refine aa_go (aa_aload0 iX12_move_72) (aa_go (aa_dup iX12_move_73 rfl) (aa_go (aa_getE iX12_move_74 fl_X12_105 (sh_63 h1.W) rfl g13) (aa_go (aa_iconst iX12_move_77 ki_1) (aa_go (aa_iaddN iX12_move_78 ) (aa_go (aa_putI iX12_move_79 fl_X12_105 (fun h => nomatch h) (sh_63 h1.W) rfl ⟨rfl, rfl⟩) ?_)))))
        refine aa_go (aa_aload0 iX12_move_82) (aa_go (aa_getE iX12_move_83 fl_X12_99 (sh_63 W1) rfl g10) (aa_go (aa_aload0 iX12_move_86) (aa_go (aa_aload0 iX12_move_87) (aa_go (aa_getE iX12_move_88 fl_X12_99 (sh_63 W1) rfl g10) (aa_go (aa_iload1 iX12_move_91) (aa_go (aa_cVi iX12_move_92 (hA) (by decide) lc_X12_after lk_X12_137 (sh_63 W1) rfl rfl (Nat.le_of_ble_eq_true rfl)) (aa_go (aa_iconst iX12_move_95 ki_m1) ?_)))))))
        refine aa_go (aa_ixor iX12_move_96) (aa_go (aa_iandC iX12_move_97) (aa_go (aa_sipush iX12_move_98 ks_16383) ?_))
        refine aa_go (aa_iandN iX12_move_101 ) ?_
        refine aa_go (aa_top (y := nI (bd (gst g) (pl_nx P (gst g) j))) (by rw [em])) ?_
        refine aa_go (aa_istore2 iX12_move_102 rfl (by decide)) (aa_go (aa_aload0 iX12_move_103) (aa_go (aa_aload0 iX12_move_104) (aa_go (aa_aload0 iX12_move_105) (aa_go (aa_getE iX12_move_106 fl_X12_99 (sh_63 W1) rfl g10) (aa_go (aa_iload1 iX12_move_109) (aa_go (aa_cVi iX12_move_110 (hA) (by decide) lc_X12_after lk_X12_137 (sh_63 W1) rfl rfl (Nat.le_of_ble_eq_true rfl)) (aa_go (aa_putI iX12_move_113 fl_X12_99 (fun h => nomatch h) (sh_63 W1) rfl ⟨rfl, rfl⟩) ?_)))))))
        refine aa_go (aa_aload0 iX12_move_116) (aa_go (aa_iconst iX12_move_117 ki_1) (aa_go (aa_aload0 iX12_move_118) (aa_go (aa_getE iX12_move_119 fl_X12_102 (sh_63 W1) rfl g11) (aa_go (aa_isubN iX12_move_122 (by omega)) (aa_go (aa_putI iX12_move_123 fl_X12_102 (fun h => nomatch h) (sh_63 W1) rfl ⟨rfl, rfl⟩) (aa_go (aa_iload2 iX12_move_126) ?_))))))
        refine aa_iret iX12_move_127 rfl ?_
        exact ⟨rfl, rfl⟩
      · skip
        rw [hc] at g3; exact absurd g3 (by decide)
    · skip
      omega
theorem q_moveN (h : MI P tx n g kp lk tl rw Q r dy σ) (hG : GG P g) {m : Nat} (hm : m < 28) (hmn : m % 14 < pl_n P) (hj : ∀ j, pl_sp P m = some j → pl_lg P (gtn g) (gst g) j = false) : ∃ σ', MJ P tx n g kp lk tl rw Q r dy σ σ' ∧ aa_SX mX12_move 100 [.ref 63, .int (nI m)] σ (some (.int (-2))) σ' := by
  have h1 := h.thr (nI 0)
  have t1 := gtn_le g
  have n14 := h.n14
  have hc : cnM P (gtn g) (cv P (gst g)) m = false := by
    rw [cnM, decide_eq_true hm, hG.dv h.ok, Bool.true_and]
    cases q : pl_sp P m with
    | none => rfl
    | some j => exact hj j q
  refine ⟨_, h.JB, ?_⟩
  refine aa_E_of (by decide) 1 [some (.ref 63), some (.int (nI m)), none] rfl rfl ?_
  refine aa_go (aa_aload0 iX12_move_0) (aa_go (aa_iconst iX12_move_1 ki_0) (aa_go (aa_putI iX12_move_2 fl_X12_3 (fun h => nomatch h) (sh_63 h.W) rfl ⟨rfl, rfl⟩) ?_))
  refine aa_go (aa_iload1 iX12_move_5) (aa_go (aa_i2lN iX12_move_6 (by omega)) (aa_go (aa_lconst iX12_move_7 kl_0) (aa_go (aa_ldc2 iX12_move_8 ld_X12_132) (aa_go (aa_cSi iX12_move_11 (m_inN (hi := 27) (by omega) (by omega)) (by decide) lc_X12_in lk_X12_21 rfl (Nat.le_of_ble_eq_true rfl)) ?_))))
  refine aa_if_eqB iX12_move_14 (fun g1 => ?_) (fun g1 => ?_)
  · skip
    have := of_decide_eq_false g1
    omega
  · skip
    refine aa_go (aa_iload1 iX12_move_17) (aa_go (aa_bipush iX12_move_18 kb_14) (aa_go (aa_iremN iX12_move_20 (by omega) (by omega) (by omega)) (aa_go (aa_aload0 iX12_move_21) (aa_go (aa_getE iX12_move_22 fl_X12_78 (sh_63 h1.W) rfl h1.M.2.1) ?_))))
    refine aa_ic_ltN iX12_move_25 (by omega) (by omega) (fun g2 => ?_) (fun g2 => ?_)
    · skip
      refine aa_go (aa_aload0 iX12_move_30) (aa_go (aa_aload0 iX12_move_31) (aa_go (aa_getE iX12_move_32 fl_X12_99 (sh_63 h1.W) rfl h1.G.1) (aa_go (aa_aload0 iX12_move_35) (aa_go (aa_getE iX12_move_36 fl_X12_102 (sh_63 h1.W) rfl h1.G.2.1) (aa_go (aa_iload1 iX12_move_39) (aa_go (aa_cVi iX12_move_40 (m_can h1.W h1.M (cv_lt _) (by omega) (by omega)) (by decide) lc_X12_can lk_X12_140 (sh_63 h1.W) rfl rfl (Nat.le_of_ble_eq_true rfl)) ?_))))))
      refine aa_if_neB iX12_move_43 (fun g3 => ?_) (fun g3 => ?_)
      · skip
        rw [hc] at g3; exact absurd g3 (by decide)
      · skip
        refine aa_go (aa_bipush iX12_move_46 kb_m2) ?_
        refine aa_iret iX12_move_48 rfl ?_
        exact ⟨rfl, rfl⟩
    · skip
      omega
theorem q_moveB (h : MI P tx n g kp lk tl rw Q r dy σ) {x : Int32} (hx : (x < 0 ∨ nI 27 < x) ∨ ∃ m, x = nI m ∧ m < 28 ∧ ¬ m % 14 < pl_n P) : ∃ σ', MJ P tx n g kp lk tl rw Q r dy σ σ' ∧ aa_SX mX12_move 100 [.ref 63, .int x] σ (some (.int (-1))) σ' := by
  have h1 := h.thr (nI 0)
  have n14 := h.n14
  refine ⟨_, h.JB, ?_⟩
  rcases hx with hx | ⟨m, rfl, hm, hmn⟩
  · skip
    refine aa_E_of (by decide) 1 [some (.ref 63), some (.int (x)), none] rfl rfl ?_
    refine aa_go (aa_aload0 iX12_move_0) (aa_go (aa_iconst iX12_move_1 ki_0) (aa_go (aa_putI iX12_move_2 fl_X12_3 (fun h => nomatch h) (sh_63 h.W) rfl ⟨rfl, rfl⟩) ?_))
    refine aa_go (aa_iload1 iX12_move_5) (aa_go (aa_i2l iX12_move_6) (aa_go (aa_lconst iX12_move_7 kl_0) (aa_go (aa_ldc2 iX12_move_8 ld_X12_132) (aa_go (aa_cSi iX12_move_11 (m_inB (c := 27) (by omega) hx) (by decide) lc_X12_in lk_X12_21 rfl (Nat.le_of_ble_eq_true rfl)) ?_))))
    refine aa_if_eqB iX12_move_14 (fun g1 => ?_) (fun g1 => ?_)
    · skip
      refine aa_go (aa_iconst iX12_move_28 ki_m1) ?_
      refine aa_iret iX12_move_29 rfl ?_
      exact ⟨rfl, rfl⟩
    · skip
      exact absurd g1 (by decide)
  · skip
    refine aa_E_of (by decide) 1 [some (.ref 63), some (.int (nI m)), none] rfl rfl ?_
    refine aa_go (aa_aload0 iX12_move_0) (aa_go (aa_iconst iX12_move_1 ki_0) (aa_go (aa_putI iX12_move_2 fl_X12_3 (fun h => nomatch h) (sh_63 h.W) rfl ⟨rfl, rfl⟩) ?_))
    refine aa_go (aa_iload1 iX12_move_5) (aa_go (aa_i2lN iX12_move_6 (by omega)) (aa_go (aa_lconst iX12_move_7 kl_0) (aa_go (aa_ldc2 iX12_move_8 ld_X12_132) (aa_go (aa_cSi iX12_move_11 (m_inN (hi := 27) (by omega) (by omega)) (by decide) lc_X12_in lk_X12_21 rfl (Nat.le_of_ble_eq_true rfl)) ?_))))
    refine aa_if_eqB iX12_move_14 (fun g1 => ?_) (fun g1 => ?_)
    · skip
      refine aa_go (aa_iconst iX12_move_28 ki_m1) ?_
      refine aa_iret iX12_move_29 rfl ?_
      exact ⟨rfl, rfl⟩
    · skip
      refine aa_go (aa_iload1 iX12_move_17) (aa_go (aa_bipush iX12_move_18 kb_14) (aa_go (aa_iremN iX12_move_20 (by omega) (by omega) (by omega)) (aa_go (aa_aload0 iX12_move_21) (aa_go (aa_getE iX12_move_22 fl_X12_78 (sh_63 h1.W) rfl h1.M.2.1) ?_))))
      refine aa_ic_ltN iX12_move_25 (by omega) (by omega) (fun g2 => ?_) (fun g2 => ?_)
      · skip
        exact absurd g2 hmn
      · skip
        refine aa_go (aa_iconst iX12_move_28 ki_m1) ?_
        refine aa_iret iX12_move_29 rfl ?_
        exact ⟨rfl, rfl⟩
theorem q_undo0 (h : MI P tx n g kp lk tl rw Q r dy σ) (h0 : g.1 = 0) : ∃ σ', MJ P tx n g kp lk tl rw Q r dy σ σ' ∧ aa_SX mX12_undo 100 [.ref 63] σ (some (.int (-1))) σ' := by
  have h1 := h.thr (nI 0)
  refine ⟨_, h.JB, ?_⟩
  refine aa_E_of (by decide) 0 [some (.ref 63)] rfl rfl ?_
  refine aa_go (aa_aload0 iX12_undo_0) (aa_go (aa_iconst iX12_undo_1 ki_0) (aa_go (aa_putI iX12_undo_2 fl_X12_3 (fun h => nomatch h) (sh_63 h.W) rfl ⟨rfl, rfl⟩) ?_))
  refine aa_go (aa_aload0 iX12_undo_5) (aa_go (aa_getE iX12_undo_6 fl_X12_105 (sh_63 h1.W) rfl h1.G.2.2.2.1) ?_)
  refine aa_if_neN iX12_undo_9 (by omega) (fun g1 => ?_) (fun g1 => ?_)
  · skip
    exact absurd h0 g1
  · skip
    refine aa_go (aa_iconst iX12_undo_12 ki_m1) ?_
    refine aa_iret iX12_undo_13 rfl ?_
    exact ⟨rfl, rfl⟩
theorem q_undo (h : MI P tx n g kp lk tl rw Q r dy σ) (hG : GG P g) {m : Nat} (h0 : g.1 = m + 1) : ∃ σ', MJ P tx n (m, g.2) kp lk tl rw Q r dy σ σ' ∧ aa_SX mX12_undo 100 [.ref 63] σ (some (.int (nI m))) σ' := by
  have h1 := h.thr (nI 0)
  have g18 := hG.2.2
  have t1 := gtn_le g
  obtain ⟨b1, b2, b3, b4, b5⟩ := h1.G
  rw [h0] at b4
  let σ9 : aa_St := aa_sI (aa_sI (aa_sI (aa_sI σ 63 0 (nI 0)) 63 13 (nI m)) 63 10 (nI (cv P (g.2.1 m)))) 63 11 (nI (1 - gtn g))
  have e13 : (aa_sI (aa_sI σ 63 0 (nI 0)) 63 13 (nI m)).1 63 13 = nI m := sI_eq
  have e71 : (aa_sI (aa_sI σ 63 0 (nI 0)) 63 13 (nI m)).1 71 m = nI (cv P (g.2.1 m)) := by rw [sI_ne (by decide)]; exact (b5 m (by omega)).2
  have e11 : (aa_sI (aa_sI (aa_sI σ 63 0 (nI 0)) 63 13 (nI m)) 63 10 (nI (cv P (g.2.1 m)))).1 63 11 = nI (gtn g) := by rw [sI_nk (by decide), sI_nk (by decide)]; exact b2
  have f13 : σ9.1 63 13 = nI m := by
    show (aa_sI _ 63 11 _).1 63 13 = _
    rw [sI_nk (by decide), sI_nk (by decide)]; exact e13
  have q : ∀ x, x ≠ 63 → σ9.1 x = σ.1 x := fun x a1 => by
    show (aa_sI _ 63 11 _).1 x = _
    rw [sI_ne a1, sI_ne a1, sI_ne a1, sI_ne a1]
  have qk : ∀ k, k ≠ 0 → k ≠ 10 → k ≠ 11 → k ≠ 13 → σ9.1 63 k = σ.1 63 k := fun k a1 a2 a3 a4 => by
    show (aa_sI _ 63 11 _).1 63 k = _
    rw [sI_nk a3, sI_nk a2, sI_nk a4, sI_nk a1]
  have hU : MI P tx n (m, g.2) kp lk tl rw Q r dy σ9 := by
    refine h.upd rfl (fun k hk => qk k (by omega) (by omega) (by omega) (by omega)) (fun x hx => q x (by omega)) (h.X.fr (qk 17 (by decide) (by decide) (by decide) (by decide)) (q 72 (by decide))) ⟨?_, ?_, ?_, f13, fun k hk => ?_⟩ (h.K.fr (q 83 (by decide)) (q 84 (by decide)) (q 85 (by decide))) (h.L.fr (q 80 (by decide)))
    · show (aa_sI _ 63 11 _).1 63 10 = nI (cv P (g.2.1 m))
      rw [sI_nk (by decide), sI_eq]
    · show (aa_sI _ 63 11 _).1 63 11 = nI (m % 2)
      rw [sI_eq]
      congr 1
      unfold gtn; omega
    · show σ9.1 63 12 = nI (gen g)
      rw [qk 12 (by decide) (by decide) (by decide) (by decide)]; exact h.G.2.2.1
    · have hk' : k < m := hk
      rw [q 70 (by decide), q 71 (by decide)]; exact h.G.2.2.2.2 k (by omega)
  refine ⟨σ9, hU.J (by omega) ((((MF.rf.s (by decide) _ _).s (by decide) _ _).s (by decide) _ _).s (by decide) _ _), ?_⟩
  refine aa_E_of (by decide) 0 [some (.ref 63)] rfl rfl ?_
  refine aa_go (aa_aload0 iX12_undo_0) (aa_go (aa_iconst iX12_undo_1 ki_0) (aa_go (aa_putI iX12_undo_2 fl_X12_3 (fun h => nomatch h) (sh_63 h.W) rfl ⟨rfl, rfl⟩) ?_))
  refine aa_go (aa_aload0 iX12_undo_5) (aa_go (aa_getE iX12_undo_6 fl_X12_105 (sh_63 h1.W) rfl b4) ?_)
  refine aa_if_neN iX12_undo_9 (by omega) (fun g1 => ?_) (fun g1 => ?_)
  · skip
    refine aa_go (aa_aload0 iX12_undo_14) (aa_go (aa_dup iX12_undo_15 rfl) (aa_go (aa_getE iX12_undo_16 fl_X12_105 (sh_63 h1.W) rfl b4) (aa_go (aa_iconst iX12_undo_19 ki_1) (aa_go (aa_isubN iX12_undo_20 (by omega)) (aa_go (aa_putI iX12_undo_21 fl_X12_105 (fun h => nomatch h) (sh_63 h1.W) rfl ⟨rfl, rfl⟩) ?_)))))
    refine aa_go (aa_aload0 iX12_undo_24) (aa_go (aa_aload0 iX12_undo_25) (aa_go (aa_getR iX12_undo_26 fl_X12_152 (sh_63 h1.W) rfl) (aa_go (aa_aload0 iX12_undo_29) (aa_go (aa_getE iX12_undo_30 fl_X12_105 (sh_63 h1.W) rfl e13) (aa_go (aa_ialE iX12_undo_33 (sh_71 h1.W) (by omega) (by omega) (e71)) (aa_go (aa_putI iX12_undo_34 fl_X12_99 (fun h => nomatch h) (sh_63 h1.W) rfl ⟨rfl, rfl⟩) ?_))))))
    refine aa_go (aa_aload0 iX12_undo_37) (aa_go (aa_iconst iX12_undo_38 ki_1) (aa_go (aa_aload0 iX12_undo_39) (aa_go (aa_getE iX12_undo_40 fl_X12_102 (sh_63 h1.W) rfl e11) (aa_go (aa_isubN iX12_undo_43 (by omega)) (aa_go (aa_putI iX12_undo_44 fl_X12_102 (fun h => nomatch h) (sh_63 h1.W) rfl ⟨rfl, rfl⟩) ?_)))))
    refine aa_go (aa_aload0 iX12_undo_47) (aa_go (aa_getE iX12_undo_48 fl_X12_105 (sh_63 h1.W) rfl f13) ?_)
    refine aa_iret iX12_undo_51 rfl ?_
    exact ⟨rfl, rfl⟩
  · skip
    omega
end
