/-! THE REFERENCE, PUBLIC METHODS: the notary -/
section
variable {P P' : pl_T} {tx tx' : Nat → Nat} {n n' : Nat} {g g' : gm_T} {kp kp' : Nat → Option gm_T} {lk lk' tl tl' : Nat} {rw rw' : Nat → Int} {Q Q' : Nat} {r : Nat → Nat} {dy : List aa_Shp} {σ σ' : aa_St}
theorem tdiv_nat (a b : Nat) : (a : Int).tdiv (b : Int) = ((a / b : Nat) : Int) := rfl
theorem q_notary (h : MI P tx n g kp lk tl rw Q r dy σ) (hG : GG P g) (hQ : Q + 2000 < 500000) (hc : ¬ (6 < pl_cn (gth P g) 14 ∨ 0 < pl_b P)) {a c : Nat} (ha : a ≤ 1) (hc10 : c ≤ 10) : ∃ σ', MJ P tx n g kp lk 2 (rw2 ((ch P a c (gen g) (gtn g) (gth P g) : Int).tdiv (gcN (ch P a c (gen g) (gtn g) (gth P g)) CH)) ((CH / gcN (ch P a c (gen g) (gtn g) (gth P g)) CH : Nat))) Q r dy σ σ' ∧ aa_SX mX12_notary 100 [.ref 63, .int (nI a), .int (nI c)] σ (some (.int (nI 0))) σ' := by
  have h1 := h.thr (nI 0)
  have ok := h.ok
  have hb : pl_b P = 0 := by omega
  have t1 := gtn_le g
  have e1 := hG.2.1
  have gl := gth_lt P g
  have p14 : 2 ^ pl_n P ≤ 16384 := Nat.pow_le_pow_right (by decide : 0 < 2) h.n14
  have e14 := gth_14 (g := g) ok
  obtain ⟨x1, x2, x3⟩ := gth_b0 ok hG hb
  rw [x1] at hc e14 gl ⊢
  have c6 : pl_cn (gst g) 32 ≤ 6 := by omega
  have cm := ch_cM ok hb ha hc10 e1 6 (gtn g) (gst g) (by omega) c6 t1
  have cb := cM_bd ok hb hc10 e1 (gtn g) (gst g) c6
  have wb := wc_bd c6
  have w0 := wb.1
  have w1 := wb.2
  have wd : wc (pl_cn (gst g) 32) * (CH / wc (pl_cn (gst g) 32)) = CH := cM_wd ⟨pl_cn (gst g) 32, by omega⟩
  have c0 : 0 < CH / wc (pl_cn (gst g) 32) := Nat.div_pos w1 w0
  obtain ⟨own, ho⟩ : ∃ own, own = if a = gtn g then cM P c (gen g) (gtn g) (gst g) else wc (pl_cn (gst g) 32) - cM P c (gen g) (gtn g) (gst g) := ⟨_, rfl⟩
  have ow : own ≤ wc (pl_cn (gst g) 32) := by rw [ho]; split <;> omega
  have co : ch P a c (gen g) (gtn g) (gst g) = own * (CH / wc (pl_cn (gst g) 32)) := by
    rw [cm, ho]
    split
    · rfl
    · rw [Nat.sub_mul, wd]
  have md := mean_div (own : Int) (wc (pl_cn (gst g) 32)) (CH / wc (pl_cn (gst g) 32)) w0 c0
  rw [wd, ← Int.natCast_mul, Int.natAbs_natCast, Int.natAbs_natCast, ← co] at md
  rw [md.1, md.2]
  have gp : 0 < Nat.gcd own (wc (pl_cn (gst g) 32)) := Nat.gcd_pos_of_pos_right _ w0
  have gl2 : Nat.gcd own (wc (pl_cn (gst g) 32)) ≤ wc (pl_cn (gst g) 32) := Nat.gcd_le_right _ w0
  rw [tdiv_nat]
  obtain ⟨h2, k2, hA⟩ := h1.ask (by omega) (vM P)
  have hL : MMC P c (gen g) (Q + 1) (aa_sI (aa_sI σ 63 0 (nI 0)) 63 24 (nI (Q + 1))) := ⟨k2.Q, h2.G.2.2.1, fun w t hw ht hm => absurd hm (h1.fre (by omega) (by omega))⟩
  obtain ⟨σ3, ⟨hF3, hK3⟩, hS3⟩ := m_chance hb hc10 e1 6 (gst g) (gtn g) _ (by omega) c6 x3 t1 h2.W h2.M hL
  have s3 : SQ (aa_sI (aa_sI σ 63 0 (nI 0)) 63 24 (nI (Q + 1))) σ3 := SQ.rf.M hF3
  have h3 := h2.sq s3 hK3.1
  have h4 := h3.t2 ((own / Nat.gcd own (wc (pl_cn (gst g) 32)) : Nat) : Int) ((wc (pl_cn (gst g) 32) / Nat.gcd own (wc (pl_cn (gst g) 32)) : Nat) : Int)
  have g10 := h2.G.1
  have g10' := h1.G.1
  rw [x2] at g10 g10'
  have ea : gst g &&& 16383 = gst g := by
    have := gth_and (g := g) ok
    rw [x1, x2] at this
    exact this
  have fin : aa_V mX12_notary 100 100 [some (.ref 63), some (.int (nI a)), some (.int (nI c)), some (.int (nI (pl_cn (gst g) 32))), some (.long (lN (cM P c (gen g) (gtn g) (gst g)))), none, some (.long (lN (wc (pl_cn (gst g) 32)))), none, none, none, none, none] [.long (lN own)] σ3 (fun ra σ' => ra = some (.int (nI 0)) ∧ σ' = t2S σ3 ((own / Nat.gcd own (wc (pl_cn (gst g) 32)) : Nat) : Int) ((wc (pl_cn (gst g) 32) / Nat.gcd own (wc (pl_cn (gst g) 32)) : Nat) : Int)) := by
    refine aa_go (aa_lstore8 iX12_notary_100 rfl (by decide)) (aa_go (aa_lload8 iX12_notary_102) (aa_go (aa_lload6 iX12_notary_104) (aa_go (aa_cSl iX12_notary_106 (m_common (by omega) (by omega)) (by decide) lc_X12_common lk_X12_286 rfl (Nat.le_of_ble_eq_true rfl)) (aa_go (aa_lstore10 iX12_notary_109 rfl (by decide)) (aa_go (aa_aload0 iX12_notary_111) (aa_go (aa_iconst iX12_notary_112 ki_0) (aa_go (aa_putI iX12_notary_113 fl_X12_11 (fun h => nomatch h) (sh_63 h3.W) rfl ⟨rfl, rfl⟩) ?_)))))))
    refine aa_go (aa_aload0 iX12_notary_116) (aa_go (aa_lload8 iX12_notary_117) (aa_go (aa_lload10 iX12_notary_119) (aa_go (aa_ldivN iX12_notary_121 (by omega) (by omega) (by omega)) ?_)))
    refine aa_go (aa_topl (y := lZ ((own / Nat.gcd own (wc (pl_cn (gst g) 32)) : Nat) : Int)) (by rw [lZ_N])) ?_
    refine aa_go (aa_cVv iX12_notary_122 (h3.e0 _) (by decide) lc_X12_enters lk_X12_163 (sh_63 h3.W) rfl rfl (Nat.le_of_ble_eq_true rfl)) ?_
    refine aa_go (aa_aload0 iX12_notary_125) (aa_go (aa_lload6 iX12_notary_126) (aa_go (aa_lload10 iX12_notary_128) (aa_go (aa_ldivN iX12_notary_130 (by omega) (by omega) (by omega)) ?_)))
    refine aa_go (aa_topl (y := lZ ((wc (pl_cn (gst g) 32) / Nat.gcd own (wc (pl_cn (gst g) 32)) : Nat) : Int)) (by rw [lZ_N])) ?_
    refine aa_go (aa_cVv iX12_notary_131 (h3.e1 _ _) (by decide) lc_X12_enters lk_X12_163 (sh_63 (h3.t1 ((own / Nat.gcd own (wc (pl_cn (gst g) 32)) : Nat) : Int)).W) rfl rfl (Nat.le_of_ble_eq_true rfl)) (aa_go (aa_iconst iX12_notary_134 ki_0) ?_)
    refine aa_iret iX12_notary_135 rfl ?_
    exact ⟨rfl, rfl⟩
  refine ⟨_, h4.J (by omega) ((((MF.rf.s (by decide) _ _).s (by decide) _ _).tr s3.F).t2 _ _), ?_⟩
  refine aa_E_of (by decide) 9 [some (.ref 63), some (.int (nI a)), some (.int (nI c)), none, none, none, none, none, none, none, none, none] rfl rfl ?_
  refine aa_go (aa_aload0 iX12_notary_0) (aa_go (aa_iconst iX12_notary_1 ki_0) (aa_go (aa_putI iX12_notary_2 fl_X12_3 (fun h => nomatch h) (sh_63 h.W) rfl ⟨rfl, rfl⟩) ?_))
  refine aa_go (aa_iload1 iX12_notary_5) (aa_go (aa_i2lN iX12_notary_6 (by omega)) (aa_go (aa_lconst iX12_notary_7 kl_0) (aa_go (aa_lconst iX12_notary_8 kl_1) (aa_go (aa_cSi iX12_notary_9 (m_inN (hi := 1) (by omega) (by omega)) (by decide) lc_X12_in lk_X12_21 rfl (Nat.le_of_ble_eq_true rfl)) ?_))))
  refine aa_if_eqB iX12_notary_12 (fun g1 => ?_) (fun g1 => ?_)
  · skip
    exact absurd ha (of_decide_eq_false g1)
  · skip
    refine aa_go (aa_iload2 iX12_notary_15) (aa_go (aa_i2lN iX12_notary_16 (by omega)) (aa_go (aa_lconst iX12_notary_17 kl_0) (aa_go (aa_ldc2 iX12_notary_18 ld_X12_306) (aa_go (aa_cSi iX12_notary_21 (m_inN (hi := 10) (by omega) (by omega)) (by decide) lc_X12_in lk_X12_21 rfl (Nat.le_of_ble_eq_true rfl)) ?_))))
    refine aa_if_neB iX12_notary_24 (fun g2 => ?_) (fun g2 => ?_)
    · skip
      refine aa_go (aa_aload0 iX12_notary_29) (aa_go (aa_getE iX12_notary_30 fl_X12_99 (sh_63 h1.W) rfl g10') (aa_go (aa_sipush iX12_notary_33 ks_16383) (aa_go (aa_iandN iX12_notary_36 ) ?_)))
      refine aa_go (aa_top (y := nI (gst g)) (by rw [ea])) ?_
      refine aa_go (aa_cSi iX12_notary_37 (c_bitCount (by omega)) (by decide) lc_J6_bitCount_0f7a4 lk_X12_212 rfl (Nat.le_of_ble_eq_true rfl)) (aa_go (aa_istore3 iX12_notary_40 rfl (by decide)) (aa_go (aa_iload3 iX12_notary_41) (aa_go (aa_bipush iX12_notary_42 kb_6) ?_)))
      refine aa_ic_gtN iX12_notary_44 (by omega) (by omega) (fun g3 => ?_) (fun g3 => ?_)
      · skip
        omega
      · skip
        refine aa_go (aa_aload0 iX12_notary_47) (aa_go (aa_getE iX12_notary_48 fl_X12_63 (sh_63 h1.W) rfl h1.M.2.2.1) ?_)
        refine aa_if_leN iX12_notary_51 (by omega) (fun g4 => ?_) (fun g4 => ?_)
        · skip
          refine aa_go (aa_aload0 iX12_notary_57) (aa_go (aa_cVv iX12_notary_58 (hA) (by decide) lc_X12_asks lk_X12_189 (sh_63 h1.W) rfl rfl (Nat.le_of_ble_eq_true rfl)) ?_)
          refine aa_go (aa_aload0 iX12_notary_61) (aa_go (aa_aload0 iX12_notary_62) (aa_go (aa_getE iX12_notary_63 fl_X12_99 (sh_63 h2.W) rfl g10) (aa_go (aa_aload0 iX12_notary_66) (aa_go (aa_getE iX12_notary_67 fl_X12_102 (sh_63 h2.W) rfl h2.G.2.1) (aa_go (aa_iload2 iX12_notary_70) (aa_go (aa_cVl iX12_notary_71 (hS3) (by decide) lc_X12_chance lk_X12_311 (sh_63 h2.W) rfl rfl (Nat.le_of_ble_eq_true rfl)) ?_))))))
          refine aa_go (aa_lstore4 iX12_notary_74 rfl (by decide)) (aa_go (aa_iload3 iX12_notary_76) (aa_go (aa_cSl iX12_notary_77 (m_whole c6) (by decide) lc_X12_whole lk_X12_308 rfl (Nat.le_of_ble_eq_true rfl)) (aa_go (aa_lstore6 iX12_notary_80 rfl (by decide)) (aa_go (aa_iload1 iX12_notary_82) (aa_go (aa_aload0 iX12_notary_83) (aa_go (aa_getE iX12_notary_84 fl_X12_102 (sh_63 h3.W) rfl h3.G.2.1) ?_))))))
          refine aa_ic_neN iX12_notary_87 (by omega) (by omega) (fun g5 => ?_) (fun g5 => ?_)
          · skip
            rw [if_neg g5] at ho
            refine aa_go (aa_lload6 iX12_notary_95) (aa_go (aa_lload4 iX12_notary_97) (aa_go (aa_lsubN iX12_notary_99 cb) ?_))
            rw [← ho]
            exact fin
          · skip
            rw [if_pos g5] at ho
            rw [ho] at fin
            refine aa_go (aa_lload4 iX12_notary_90) (aa_go (aa_goto iX12_notary_92) ?_)
            rw [ho]
            exact fin
        · skip
          omega
    · skip
      exact absurd hc10 (of_decide_eq_false g2)
theorem q_notaryT (h : MI P tx n g kp lk tl rw Q r dy σ) (hc : 6 < pl_cn (gth P g) 14 ∨ 0 < pl_b P) {a c : Nat} (ha : a ≤ 1) (hc10 : c ≤ 10) : ∃ σ', MJ P tx n g kp lk tl rw Q r dy σ σ' ∧ aa_SX mX12_notary 100 [.ref 63, .int (nI a), .int (nI c)] σ (some (.int (-3))) σ' := by
  have h1 := h.thr (nI 0)
  have ok := h.ok
  have gl := gth_lt P g
  have p14 : 2 ^ pl_n P ≤ 16384 := Nat.pow_le_pow_right (by decide : 0 < 2) h.n14
  have e14 := gth_14 (g := g) ok
  have c14 := cn_14 (gth P g)
  have b2 := h.b2
  refine ⟨_, h.JB, ?_⟩
  refine aa_E_of (by decide) 9 [some (.ref 63), some (.int (nI a)), some (.int (nI c)), none, none, none, none, none, none, none, none, none] rfl rfl ?_
  refine aa_go (aa_aload0 iX12_notary_0) (aa_go (aa_iconst iX12_notary_1 ki_0) (aa_go (aa_putI iX12_notary_2 fl_X12_3 (fun h => nomatch h) (sh_63 h.W) rfl ⟨rfl, rfl⟩) ?_))
  refine aa_go (aa_iload1 iX12_notary_5) (aa_go (aa_i2lN iX12_notary_6 (by omega)) (aa_go (aa_lconst iX12_notary_7 kl_0) (aa_go (aa_lconst iX12_notary_8 kl_1) (aa_go (aa_cSi iX12_notary_9 (m_inN (hi := 1) (by omega) (by omega)) (by decide) lc_X12_in lk_X12_21 rfl (Nat.le_of_ble_eq_true rfl)) ?_))))
  refine aa_if_eqB iX12_notary_12 (fun g1 => ?_) (fun g1 => ?_)
  · skip
    exact absurd ha (of_decide_eq_false g1)
  · skip
    refine aa_go (aa_iload2 iX12_notary_15) (aa_go (aa_i2lN iX12_notary_16 (by omega)) (aa_go (aa_lconst iX12_notary_17 kl_0) (aa_go (aa_ldc2 iX12_notary_18 ld_X12_306) (aa_go (aa_cSi iX12_notary_21 (m_inN (hi := 10) (by omega) (by omega)) (by decide) lc_X12_in lk_X12_21 rfl (Nat.le_of_ble_eq_true rfl)) ?_))))
    refine aa_if_neB iX12_notary_24 (fun g2 => ?_) (fun g2 => ?_)
    · skip
      refine aa_go (aa_aload0 iX12_notary_29) (aa_go (aa_getE iX12_notary_30 fl_X12_99 (sh_63 h1.W) rfl h1.G.1) (aa_go (aa_sipush iX12_notary_33 ks_16383) (aa_go (aa_iandN iX12_notary_36 ) ?_)))
      refine aa_go (aa_top (y := nI (gth P g)) (by rw [gth_and ok])) ?_
      refine aa_go (aa_cSi iX12_notary_37 (c_bitCount (by omega)) (by decide) lc_J6_bitCount_0f7a4 lk_X12_212 rfl (Nat.le_of_ble_eq_true rfl)) (aa_go (aa_istore3 iX12_notary_40 rfl (by decide)) (aa_go (aa_iload3 iX12_notary_41) (aa_go (aa_bipush iX12_notary_42 kb_6) ?_)))
      refine aa_ic_gtN iX12_notary_44 (by omega) (by omega) (fun g3 => ?_) (fun g3 => ?_)
      · skip
        refine aa_go (aa_bipush iX12_notary_54 kb_m3) ?_
        refine aa_iret iX12_notary_56 rfl ?_
        exact ⟨rfl, rfl⟩
      · skip
        refine aa_go (aa_aload0 iX12_notary_47) (aa_go (aa_getE iX12_notary_48 fl_X12_63 (sh_63 h1.W) rfl h1.M.2.2.1) ?_)
        refine aa_if_leN iX12_notary_51 (by omega) (fun g4 => ?_) (fun g4 => ?_)
        · skip
          omega
        · skip
          refine aa_go (aa_bipush iX12_notary_54 kb_m3) ?_
          refine aa_iret iX12_notary_56 rfl ?_
          exact ⟨rfl, rfl⟩
    · skip
      exact absurd hc10 (of_decide_eq_false g2)
theorem q_notaryB (h : MI P tx n g kp lk tl rw Q r dy σ) {a b : Int32} (hx : (a < 0 ∨ nI 1 < a) ∨ (b < 0 ∨ nI 10 < b)) : ∃ σ', MJ P tx n g kp lk tl rw Q r dy σ σ' ∧ aa_SX mX12_notary 100 [.ref 63, .int a, .int b] σ (some (.int (-1))) σ' := by
  have h1 := h.thr (nI 0)
  refine ⟨_, h.JB, ?_⟩
  have i1 := m_inJ (σ := aa_sI σ 63 0 (nI 0)) a (nI 1)
  rw [show (nI 1).toInt64 = lN 1 by decide, show (nI 1).toInt = 1 by decide] at i1
  have i2 := m_inJ (σ := aa_sI σ 63 0 (nI 0)) b (nI 10)
  rw [show (nI 10).toInt64 = lN 10 by decide, show (nI 10).toInt = 10 by decide] at i2
  refine aa_E_of (by decide) 9 [some (.ref 63), some (.int (a)), some (.int (b)), none, none, none, none, none, none, none, none, none] rfl rfl ?_
  refine aa_go (aa_aload0 iX12_notary_0) (aa_go (aa_iconst iX12_notary_1 ki_0) (aa_go (aa_putI iX12_notary_2 fl_X12_3 (fun h => nomatch h) (sh_63 h.W) rfl ⟨rfl, rfl⟩) ?_))
  refine aa_go (aa_iload1 iX12_notary_5) (aa_go (aa_i2l iX12_notary_6) (aa_go (aa_lconst iX12_notary_7 kl_0) (aa_go (aa_lconst iX12_notary_8 kl_1) (aa_go (aa_cSi iX12_notary_9 (i1) (by decide) lc_X12_in lk_X12_21 rfl (Nat.le_of_ble_eq_true rfl)) ?_))))
  refine aa_if_eqB iX12_notary_12 (fun g1 => ?_) (fun g1 => ?_)
  · skip
    refine aa_go (aa_iconst iX12_notary_27 ki_m1) ?_
    refine aa_iret iX12_notary_28 rfl ?_
    exact ⟨rfl, rfl⟩
  · skip
    refine aa_go (aa_iload2 iX12_notary_15) (aa_go (aa_i2l iX12_notary_16) (aa_go (aa_lconst iX12_notary_17 kl_0) (aa_go (aa_ldc2 iX12_notary_18 ld_X12_306) (aa_go (aa_cSi iX12_notary_21 (i2) (by decide) lc_X12_in lk_X12_21 rfl (Nat.le_of_ble_eq_true rfl)) ?_))))
    refine aa_if_neB iX12_notary_24 (fun g2 => ?_) (fun g2 => ?_)
    · skip
      rcases hx with q | q
      · exact absurd (of_decide_eq_true g1) (dB_f (c := 1) (by omega) q)
      · exact absurd (of_decide_eq_true g2) (dB_f (c := 10) (by omega) q)
    · skip
      refine aa_go (aa_iconst iX12_notary_27 ki_m1) ?_
      refine aa_iret iX12_notary_28 rfl ?_
      exact ⟨rfl, rfl⟩
end
