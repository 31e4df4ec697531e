/-! THE REFERENCE, PUBLIC METHODS: best, gets, tempo, limits, parrots, out -/
section
variable {P P' : pl_T} {tx tx' : Nat → Nat} {n n' : Nat} {g g' : gm_T} {kp kp' : Nat → Option gm_T} {lk lk' tl tl' : Nat} {rw rw' : Nat → Int} {Q Q' : Nat} {r : Nat → Nat} {dy : List aa_Shp} {σ σ' : aa_St}
theorem q_best (h : MI P tx n g kp lk tl rw Q r dy σ) (hG : GG P g) (hQ : Q + 2000 < 500000) : ∃ σ', MJ P tx n g kp lk 1 (rw1 (mvZ P (fbk P (gtn g) (gst g) (pl_n P + pl_b P)))) Q r dy σ σ' ∧ aa_SX mX12_best 100 [.ref 63] σ (some (.int (iZ (me P (gtn g) (gst g))))) σ' := by
  have h1 := h.thr (nI 0)
  have ok := h.ok
  have t1 := gtn_le g
  have dc := hG.dv ok
  obtain ⟨h2, k2, hA⟩ := h1.ask (by omega) (vM P)
  have cl := cv_lt (P := P) (gst g)
  have fr := h1.fre (p := gtn g * 65536 + cv P (gst g)) (by omega) (by omega)
  obtain ⟨σ3, ⟨hF3, hK3, hm⟩, hS3⟩ := m_more 18 (cv P (gst g)) (gtn g) _ (by rw [dc]; exact h.mu _) cl t1 h2.W h2.M k2
  have hm := hm fr
  rw [dc] at hS3 hm
  rw [fbm_all ok] at hm
  have s3 : SQ (aa_sI (aa_sI σ 63 0 (nI 0)) 63 24 (nI (Q + 1))) σ3 := SQ.rf.Q hF3
  have h3 := h2.sq s3 hK3.Q
  have h4 := h3.t1 (mvZ P (fbk P (gtn g) (gst g) (pl_n P + pl_b P)))
  have hz := mvZ_b2 ok (o := fbk P (gtn g) (gst g) (pl_n P + pl_b P)) (fun j hj => mlk_lt (List.mem_of_find?_eq_some hj))
  have hf : (aa_sI σ3 63 1 (nI 0)).1 63 25 = iZ (mvZ P (fbk P (gtn g) (gst g) (pl_n P + pl_b P))) := by rw [sI_nk (by decide)]; exact hm
  refine ⟨_, h4.J (by omega) ((((MF.rf.s (by decide) _ _).s (by decide) _ _).tr s3.F).t1 _), ?_⟩
  refine aa_E_of (by decide) 1 [some (.ref 63), none] rfl rfl ?_
  refine aa_go (aa_aload0 iX12_best_0) (aa_go (aa_iconst iX12_best_1 ki_0) (aa_go (aa_putI iX12_best_2 fl_X12_3 (fun h => nomatch h) (sh_63 h.W) rfl ⟨rfl, rfl⟩) ?_))
  refine aa_go (aa_aload0 iX12_best_5) (aa_go (aa_cVv iX12_best_6 (hA) (by decide) lc_X12_asks lk_X12_189 (sh_63 h1.W) rfl rfl (Nat.le_of_ble_eq_true rfl)) ?_)
  refine aa_go (aa_aload0 iX12_best_9) (aa_go (aa_aload0 iX12_best_10) (aa_go (aa_getE iX12_best_11 fl_X12_99 (sh_63 h2.W) rfl h2.G.1) (aa_go (aa_aload0 iX12_best_14) (aa_go (aa_getE iX12_best_15 fl_X12_102 (sh_63 h2.W) rfl h2.G.2.1) (aa_go (aa_cVi iX12_best_18 (hS3) (by decide) lc_X12_more lk_X12_262 (sh_63 h2.W) rfl rfl (Nat.le_of_ble_eq_true rfl)) (aa_go (aa_istore1 iX12_best_21 rfl (by decide)) ?_))))))
  refine aa_go (aa_aload0 iX12_best_22) (aa_go (aa_iconst iX12_best_23 ki_0) (aa_go (aa_putI iX12_best_24 fl_X12_11 (fun h => nomatch h) (sh_63 h3.W) rfl ⟨rfl, rfl⟩) (aa_go (aa_aload0 iX12_best_27) (aa_go (aa_aload0 iX12_best_28) (aa_go (aa_getE iX12_best_29 fl_X12_198 (sh_63 h3.W) rfl hf) (aa_go (aa_i2l iX12_best_32) ?_))))))
  refine aa_go (aa_topl (y := lZ (mvZ P (fbk P (gtn g) (gst g) (pl_n P + pl_b P)))) (iZ_l (by omega) (by omega))) ?_
  refine aa_go (aa_cVv iX12_best_33 (h3.e0 _) (by decide) lc_X12_enters lk_X12_163 (sh_63 h3.W) rfl rfl (Nat.le_of_ble_eq_true rfl)) (aa_go (aa_iload1 iX12_best_36) ?_)
  refine aa_iret iX12_best_37 rfl ?_
  exact ⟨rfl, rfl⟩
theorem q_gets (h : MI P tx n g kp lk tl rw Q r dy σ) (hQ : Q + 2000 < 500000) {a t : Nat} (ht : t ≤ 1) (ha : a < 2 ^ pl_n P) : ∃ σ', MJ P tx n g kp lk tl rw Q r dy σ σ' ∧ aa_SX mX12_gets 100 [.ref 63, .int (nI t), .int (nI a)] σ (some (.int (iZ (me P t (jtP P a))))) σ' := by
  have h1 := h.thr (nI 0)
  have ok := h.ok
  have p14 : 2 ^ pl_n P ≤ 16384 := Nat.pow_le_pow_right (by decide : 0 < 2) h.n14
  obtain ⟨h2, k2, hA⟩ := h1.ask (by omega) (vM P)
  have hb : a ||| 49152 < 65536 := bb_or (k := 16) (by omega) (by decide)
  obtain ⟨σ3, ⟨hF3, hK3, -⟩, hS3⟩ := m_more 18 (a ||| 49152) t _ (h.mu _) hb ht h2.W h2.M k2
  rw [dv_done ok (by omega)] at hS3
  have s3 : SQ (aa_sI (aa_sI σ 63 0 (nI 0)) 63 24 (nI (Q + 1))) σ3 := SQ.rf.Q hF3
  have h3 := h2.sq s3 hK3.Q
  refine ⟨_, h3.J (by omega) (((MF.rf.s (by decide) _ _).s (by decide) _ _).tr s3.F), ?_⟩
  refine aa_E_of (by decide) 0 [some (.ref 63), some (.int (nI t)), some (.int (nI a))] rfl rfl ?_
  refine aa_go (aa_aload0 iX12_gets_0) (aa_go (aa_iconst iX12_gets_1 ki_0) (aa_go (aa_putI iX12_gets_2 fl_X12_3 (fun h => nomatch h) (sh_63 h.W) rfl ⟨rfl, rfl⟩) ?_))
  refine aa_go (aa_iload1 iX12_gets_5) (aa_go (aa_i2lN iX12_gets_6 (by omega)) (aa_go (aa_lconst iX12_gets_7 kl_0) (aa_go (aa_lconst iX12_gets_8 kl_1) (aa_go (aa_cSi iX12_gets_9 (m_inN (hi := 1) (by omega) (by omega)) (by decide) lc_X12_in lk_X12_21 rfl (Nat.le_of_ble_eq_true rfl)) ?_))))
  refine aa_if_eqB iX12_gets_12 (fun g1 => ?_) (fun g1 => ?_)
  · skip
    exact absurd ht (of_decide_eq_false g1)
  · skip
    refine aa_go (aa_aload0 iX12_gets_15) (aa_go (aa_iload2 iX12_gets_16) (aa_go (aa_cVi iX12_gets_17 (m_areThings h1.W h1.M (nI a)) (by decide) lc_X12_areThings lk_X12_231 (sh_63 h1.W) rfl rfl (Nat.le_of_ble_eq_true rfl)) ?_))
    refine aa_if_neB iX12_gets_20 (fun g2 => ?_) (fun g2 => ?_)
    · skip
      refine aa_go (aa_aload0 iX12_gets_25) (aa_go (aa_cVv iX12_gets_26 (hA) (by decide) lc_X12_asks lk_X12_189 (sh_63 h1.W) rfl rfl (Nat.le_of_ble_eq_true rfl)) ?_)
      refine aa_go (aa_aload0 iX12_gets_29) (aa_go (aa_iload2 iX12_gets_30) (aa_go (aa_ldc iX12_gets_31 ld_X12_230) (aa_go (aa_iorN iX12_gets_33 ) (aa_go (aa_iload1 iX12_gets_34) (aa_go (aa_cVi iX12_gets_35 (hS3) (by decide) lc_X12_more lk_X12_262 (sh_63 h2.W) rfl rfl (Nat.le_of_ble_eq_true rfl)) ?_)))))
      refine aa_iret iX12_gets_38 rfl ?_
      exact ⟨rfl, rfl⟩
    · skip
      exact absurd (m_things_t h ha) (of_decide_eq_false g2)
theorem q_getsB (h : MI P tx n g kp lk tl rw Q r dy σ) {x : Int32} {a : Nat} (h32 : a < 4294967296) (hx : (x < 0 ∨ nI 1 < x) ∨ ¬ a < 2 ^ pl_n P) : ∃ σ', MJ P tx n g kp lk tl rw Q r dy σ σ' ∧ aa_SX mX12_gets 100 [.ref 63, .int x, .int (nI a)] σ (some (.int (-1))) σ' := by
  have h1 := h.thr (nI 0)
  refine ⟨_, h.JB, ?_⟩
  have hI : ∀ (x : Int32), aa_SX mX12_in 1 [.long x.toInt64, .long (lN 0), .long (lN 1)] (aa_sI σ 63 0 (nI 0)) (some (.int (nI (decide (0 ≤ x.toInt ∧ x.toInt ≤ 1)).toNat))) (aa_sI σ 63 0 (nI 0)) := fun x => by
    have b1 := Int32.toInt_lt x
    have b2 := Int32.le_toInt x
    have := m_in (σ := aa_sI σ 63 0 (nI 0)) (v := x.toInt) (lo := 0) (hi := 1) (by omega) (by omega) (by omega)
    rw [i2lZ]; exact this
  refine aa_E_of (by decide) 0 [some (.ref 63), some (.int (x)), some (.int (nI a))] rfl rfl ?_
  refine aa_go (aa_aload0 iX12_gets_0) (aa_go (aa_iconst iX12_gets_1 ki_0) (aa_go (aa_putI iX12_gets_2 fl_X12_3 (fun h => nomatch h) (sh_63 h.W) rfl ⟨rfl, rfl⟩) ?_))
  refine aa_go (aa_iload1 iX12_gets_5) (aa_go (aa_i2l iX12_gets_6) (aa_go (aa_lconst iX12_gets_7 kl_0) (aa_go (aa_lconst iX12_gets_8 kl_1) (aa_go (aa_cSi iX12_gets_9 (hI x) (by decide) lc_X12_in lk_X12_21 rfl (Nat.le_of_ble_eq_true rfl)) ?_))))
  refine aa_if_eqB iX12_gets_12 (fun g1 => ?_) (fun g1 => ?_)
  · skip
    refine aa_go (aa_iconst iX12_gets_23 ki_m1) ?_
    refine aa_iret iX12_gets_24 rfl ?_
    exact ⟨rfl, rfl⟩
  · skip
    refine aa_go (aa_aload0 iX12_gets_15) (aa_go (aa_iload2 iX12_gets_16) (aa_go (aa_cVi iX12_gets_17 (m_areThings h1.W h1.M (nI a)) (by decide) lc_X12_areThings lk_X12_231 (sh_63 h1.W) rfl rfl (Nat.le_of_ble_eq_true rfl)) ?_))
    refine aa_if_neB iX12_gets_20 (fun g2 => ?_) (fun g2 => ?_)
    · skip
      rcases hx with q | q
      · exact absurd (of_decide_eq_true g1) (dB_f (c := 1) (by omega) q)
      · exact absurd (of_decide_eq_true g2) (m_things_f h h32 q)
    · skip
      refine aa_go (aa_iconst iX12_gets_23 ki_m1) ?_
      refine aa_iret iX12_gets_24 rfl ?_
      exact ⟨rfl, rfl⟩
theorem q_tempo (h : MI P tx n g kp lk tl rw Q r dy σ) (hG : GG P g) (hQ : Q + 2000 < 500000) {t : Nat} (ht : t ≤ 2) : ∃ σ', MJ P tx n g kp lk 1 (rw1 (pl_cn (bd (gst g &&& pl_al P t) (pl_orA (pl_ab P) (gst g &&& pl_al P t) (pl_n P))) 32)) Q r dy σ σ' ∧ aa_SX mX12_tempo 100 [.ref 63, .int (nI t)] σ (some (.int (nI (pl_cn (gst g &&& pl_al P t) 32)))) σ' := by
  have h1 := h.thr (nI 0)
  have ok := h.ok
  have dc := hG.dv ok
  show ∃ σ', MJ P tx n g kp lk 1 (rw1 (tv P false t (gst g))) Q r dy σ σ' ∧ aa_SX mX12_tempo 100 [.ref 63, .int (nI t)] σ (some (.int (nI (tv P true t (gst g))))) σ'
  obtain ⟨h2, k2, hA⟩ := h1.ask (by omega) (vT P false t)
  have cl := cv_lt (P := P) (gst g)
  obtain ⟨σ3, ⟨hF3, hK3⟩, hS3⟩ := m_moves (most := false) ht 18 (cv P (gst g)) _ (by rw [dc]; exact h.mu _) cl h2.W h2.M k2
  rw [dc] at hS3
  have s3 : SQ (aa_sI (aa_sI σ 63 0 (nI 0)) 63 24 (nI (Q + 1))) σ3 := SQ.rf.A hF3
  have h3 := h2.sq s3 hK3.Q
  obtain ⟨h4, k4, hA4⟩ := h3.ask (by omega) (vT P true t)
  have h5 := h4.t1 (tv P false t (gst g))
  have k5 : MMK (Q + 1 + 1) (vT P true t) (t1S (aa_sI σ3 63 24 (nI (Q + 1 + 1))) (tv P false t (gst g))).1 := ⟨h5.q.1, k4.2.1, fun p hp => by
    rw [t1_i (by decide), t1_i (by decide)]; exact k4.2.2 p hp⟩
  obtain ⟨σ6, ⟨hF6, hK6⟩, hS6⟩ := m_moves (most := true) ht 18 (cv P (gst g)) _ (by rw [dc]; exact h.mu _) cl h5.W h5.M k5
  rw [dc] at hS6
  have s6 : SQ (t1S (aa_sI σ3 63 24 (nI (Q + 1 + 1))) (tv P false t (gst g))) σ6 := SQ.rf.A hF6
  have h6 := h5.sq s6 hK6.Q
  have b1 := tv_le (P := P) false t (gst g)
  refine ⟨_, h6.J (by omega) ((((((MF.rf.s (by decide) _ _).s (by decide) _ _).tr s3.F).s (by decide) _ _).t1 _).tr s6.F), ?_⟩
  refine aa_E_of (by decide) 1 [some (.ref 63), some (.int (nI t)), none] rfl rfl ?_
  refine aa_go (aa_aload0 iX12_tempo_0) (aa_go (aa_iconst iX12_tempo_1 ki_0) (aa_go (aa_putI iX12_tempo_2 fl_X12_3 (fun h => nomatch h) (sh_63 h.W) rfl ⟨rfl, rfl⟩) ?_))
  refine aa_go (aa_iload1 iX12_tempo_5) (aa_go (aa_i2lN iX12_tempo_6 (by omega)) (aa_go (aa_lconst iX12_tempo_7 kl_0) (aa_go (aa_ldc2 iX12_tempo_8 ld_X12_144) (aa_go (aa_cSi iX12_tempo_11 (m_inN (hi := 2) (by omega) (by omega)) (by decide) lc_X12_in lk_X12_21 rfl (Nat.le_of_ble_eq_true rfl)) ?_))))
  refine aa_if_neB iX12_tempo_14 (fun g1 => ?_) (fun g1 => ?_)
  · skip
    refine aa_go (aa_aload0 iX12_tempo_19) (aa_go (aa_cVv iX12_tempo_20 (hA) (by decide) lc_X12_asks lk_X12_189 (sh_63 h1.W) rfl rfl (Nat.le_of_ble_eq_true rfl)) ?_)
    refine aa_go (aa_aload0 iX12_tempo_23) (aa_go (aa_aload0 iX12_tempo_24) (aa_go (aa_getE iX12_tempo_25 fl_X12_99 (sh_63 h2.W) rfl h2.G.1) (aa_go (aa_iload1 iX12_tempo_28) (aa_go (aa_iconst iX12_tempo_29 ki_0) (aa_go (aa_cVi iX12_tempo_30 (hS3) (by decide) lc_X12_moves lk_X12_220 (sh_63 h2.W) rfl rfl (Nat.le_of_ble_eq_true rfl)) (aa_go (aa_istore2 iX12_tempo_33 rfl (by decide)) ?_))))))
    refine aa_go (aa_aload0 iX12_tempo_34) (aa_go (aa_cVv iX12_tempo_35 (hA4) (by decide) lc_X12_asks lk_X12_189 (sh_63 h3.W) rfl rfl (Nat.le_of_ble_eq_true rfl)) ?_)
    refine aa_go (aa_aload0 iX12_tempo_38) (aa_go (aa_iconst iX12_tempo_39 ki_0) (aa_go (aa_putI iX12_tempo_40 fl_X12_11 (fun h => nomatch h) (sh_63 h4.W) rfl ⟨rfl, rfl⟩) (aa_go (aa_aload0 iX12_tempo_43) (aa_go (aa_iload2 iX12_tempo_44) (aa_go (aa_i2lN iX12_tempo_45 (by omega)) ?_)))))
    refine aa_go (aa_topl (y := lZ (tv P false t (gst g))) (by rw [lZ_N])) ?_
    refine aa_go (aa_cVv iX12_tempo_46 (h4.e0 _) (by decide) lc_X12_enters lk_X12_163 (sh_63 h4.W) rfl rfl (Nat.le_of_ble_eq_true rfl)) ?_
    refine aa_go (aa_aload0 iX12_tempo_49) (aa_go (aa_aload0 iX12_tempo_50) (aa_go (aa_getE iX12_tempo_51 fl_X12_99 (sh_63 h5.W) rfl h5.G.1) (aa_go (aa_iload1 iX12_tempo_54) (aa_go (aa_iconst iX12_tempo_55 ki_1) (aa_go (aa_cVi iX12_tempo_56 (hS6) (by decide) lc_X12_moves lk_X12_220 (sh_63 h5.W) rfl rfl (Nat.le_of_ble_eq_true rfl)) ?_)))))
    refine aa_iret iX12_tempo_59 rfl ?_
    exact ⟨rfl, rfl⟩
  · skip
    exact absurd ht (of_decide_eq_false g1)
theorem q_tempoB (h : MI P tx n g kp lk tl rw Q r dy σ) {x : Int32} (hx : x < 0 ∨ nI 2 < x) : ∃ σ', MJ P tx n g kp lk tl rw Q r dy σ σ' ∧ aa_SX mX12_tempo 100 [.ref 63, .int x] σ (some (.int (-1))) σ' := by
  have h1 := h.thr (nI 0)
  refine ⟨_, h.JB, ?_⟩
  refine aa_E_of (by decide) 1 [some (.ref 63), some (.int (x)), none] rfl rfl ?_
  refine aa_go (aa_aload0 iX12_tempo_0) (aa_go (aa_iconst iX12_tempo_1 ki_0) (aa_go (aa_putI iX12_tempo_2 fl_X12_3 (fun h => nomatch h) (sh_63 h.W) rfl ⟨rfl, rfl⟩) ?_))
  refine aa_go (aa_iload1 iX12_tempo_5) (aa_go (aa_i2l iX12_tempo_6) (aa_go (aa_lconst iX12_tempo_7 kl_0) (aa_go (aa_ldc2 iX12_tempo_8 ld_X12_144) (aa_go (aa_cSi iX12_tempo_11 (m_inB (c := 2) (by omega) hx) (by decide) lc_X12_in lk_X12_21 rfl (Nat.le_of_ble_eq_true rfl)) ?_))))
  refine aa_if_neB iX12_tempo_14 (fun g1 => ?_) (fun g1 => ?_)
  · skip
    exact absurd g1 (by decide)
  · skip
    refine aa_go (aa_iconst iX12_tempo_17 ki_m1) ?_
    refine aa_iret iX12_tempo_18 rfl ?_
    exact ⟨rfl, rfl⟩
theorem lmt_cv (ok : pl_ok P) (hG : GG P g) (t : Nat) : pl_wo P (pl_orA (pl_cl P) (tS P t (dv P (cv P (gst g)))) (pl_n P) &&& cv P (gst g)) = lmt P g t := by
  rw [hG.dv ok]
  unfold lmt pl_wo
  refine sm_cg _ (fun i hi => ?_)
  rw [Nat.testBit_and, Nat.testBit_and, gth_cv ok hi]
  rfl
theorem q_limits (h : MI P tx n g kp lk tl rw Q r dy σ) (hG : GG P g) : ∃ σ', MJ P tx n g kp lk 2 (rw2 (-(lmt P g (1 - gtn g) : Int)) (lmt P g (gtn g))) Q r dy σ σ' ∧ aa_SX mX12_limits 100 [.ref 63] σ (some (.int (nI (decide (-(lmt P g (1 - gtn g) : Int) = lmt P g (gtn g))).toNat))) σ' := by
  have h1 := h.thr (nI 0)
  have ok := h.ok
  have t1 := gtn_le g
  have w0 : lmt P g (gtn g) ≤ 126 := pl_wo_le h.ok _
  have w1 : lmt P g (1 - gtn g) ≤ 126 := pl_wo_le h.ok _
  have hS1 := m_reach h1.W h1.M (cv_lt _) h1.G.1 (show gtn g ≤ 3 by omega)
  have hS2 := m_reach h1.W h1.M (cv_lt _) h1.G.1 (show 1 - gtn g ≤ 3 by omega)
  rw [lmt_cv ok hG] at hS1 hS2
  have h3 := h1.t2 (-(lmt P g (1 - gtn g) : Int)) (lmt P g (gtn g))
  refine ⟨_, h3.J (by omega) ((MF.rf.s (by decide) _ _).t2 _ _), ?_⟩
  refine aa_E_of (by decide) 2 [some (.ref 63), none, none] rfl rfl ?_
  refine aa_go (aa_aload0 iX12_limits_0) (aa_go (aa_iconst iX12_limits_1 ki_0) (aa_go (aa_putI iX12_limits_2 fl_X12_3 (fun h => nomatch h) (sh_63 h.W) rfl ⟨rfl, rfl⟩) ?_))
  refine aa_go (aa_aload0 iX12_limits_5) (aa_go (aa_aload0 iX12_limits_6) (aa_go (aa_getE iX12_limits_7 fl_X12_102 (sh_63 h1.W) rfl h1.G.2.1) (aa_go (aa_cVi iX12_limits_10 (hS1) (by decide) lc_X12_reach lk_X12_265 (sh_63 h1.W) rfl rfl (Nat.le_of_ble_eq_true rfl)) (aa_go (aa_istore1 iX12_limits_13 rfl (by decide)) (aa_go (aa_aload0 iX12_limits_14) (aa_go (aa_iconst iX12_limits_15 ki_1) (aa_go (aa_aload0 iX12_limits_16) ?_)))))))
  refine aa_go (aa_getE iX12_limits_17 fl_X12_102 (sh_63 h1.W) rfl h1.G.2.1) (aa_go (aa_isubN iX12_limits_20 (by omega)) (aa_go (aa_cVi iX12_limits_21 (hS2) (by decide) lc_X12_reach lk_X12_265 (sh_63 h1.W) rfl rfl (Nat.le_of_ble_eq_true rfl)) (aa_go (aa_istore2 iX12_limits_24 rfl (by decide)) (aa_go (aa_aload0 iX12_limits_25) (aa_go (aa_iconst iX12_limits_26 ki_0) (aa_go (aa_putI iX12_limits_27 fl_X12_11 (fun h => nomatch h) (sh_63 h1.W) rfl ⟨rfl, rfl⟩) (aa_go (aa_aload0 iX12_limits_30) ?_)))))))
  refine aa_go (aa_iload2 iX12_limits_31) ?_
  refine aa_go (aa_ineg iX12_limits_32) ?_
  refine aa_go (aa_top (y := iZ (-(lmt P g (1 - gtn g) : Int))) (by rw [iZ_N]; exact (Int32.ofInt_neg _).symm)) ?_
  refine aa_go (aa_i2l iX12_limits_33) ?_
  refine aa_go (aa_topl (y := lZ (-(lmt P g (1 - gtn g) : Int))) (iZ_l (by omega) (by omega))) ?_
  refine aa_go (aa_cVv iX12_limits_34 (h1.e0 _) (by decide) lc_X12_enters lk_X12_163 (sh_63 h1.W) rfl rfl (Nat.le_of_ble_eq_true rfl)) ?_
  refine aa_go (aa_aload0 iX12_limits_37) (aa_go (aa_iload1 iX12_limits_38) (aa_go (aa_i2lN iX12_limits_39 (by omega)) ?_))
  refine aa_go (aa_topl (y := lZ (lmt P g (gtn g))) (by rw [lZ_N])) ?_
  refine aa_go (aa_cVv iX12_limits_40 (h1.e1 _ _) (by decide) lc_X12_enters lk_X12_163 (sh_63 (h1.t1 (-(lmt P g (1 - gtn g) : Int))).W) rfl rfl (Nat.le_of_ble_eq_true rfl)) ?_
  refine aa_go (aa_iload1 iX12_limits_43) (aa_go (aa_iload2 iX12_limits_44) (aa_go (aa_ineg iX12_limits_45) ?_))
  refine aa_go (aa_top (y := iZ (-(lmt P g (1 - gtn g) : Int))) (by rw [iZ_N]; exact (Int32.ofInt_neg _).symm)) ?_
  refine aa_ic_ne iX12_limits_46 (fun g1 => ?_) (fun g1 => ?_)
  · skip
    rw [iZ_N, iZ_eq (by omega) (by omega) (by omega) (by omega)] at g1
    refine aa_go (aa_iconst iX12_limits_53 ki_0) (aa_go (aa_cSi iX12_limits_54 (m_flag false) (by decide) lc_X12_flag lk_X12_31 rfl (Nat.le_of_ble_eq_true rfl)) ?_)
    refine aa_iret iX12_limits_57 rfl ?_
    exact ⟨by rw [decide_eq_false (fun q => g1 q.symm)], rfl⟩
  · skip
    rw [iZ_N, iZ_eq (by omega) (by omega) (by omega) (by omega)] at g1
    refine aa_go (aa_iconst iX12_limits_49 ki_1) (aa_go (aa_goto iX12_limits_50) (aa_go (aa_cSi iX12_limits_54 (m_flag true) (by decide) lc_X12_flag lk_X12_31 rfl (Nat.le_of_ble_eq_true rfl)) ?_))
    refine aa_iret iX12_limits_57 rfl ?_
    exact ⟨by rw [decide_eq_true g1.symm], rfl⟩
theorem m_keepQ (h : MI P tx n g kp lk tl rw Q r dy σ) (hG : GG P g) (hQ : Q + 1 < 500000) {w : Nat} (hw : w ≤ 2) : ∃ σ', (MI P tx n g kp lk tl rw (Q + 1) r dy σ' ∧ SQ σ σ' ∧ (∀ x, x ≠ 63 → x ≠ 74 → x ≠ 75 → σ'.1 x = σ.1 x) ∧ σ'.1 63 25 = iZ (mvZ P (ffk P lk w (gst g) (pl_n P + pl_b P)))) ∧ aa_SX mX12_asks 1 [.ref 63] σ none (aa_sI σ 63 24 (nI (Q + 1))) ∧ MI P tx n g kp lk tl rw (Q + 1) r dy (aa_sI σ 63 24 (nI (Q + 1))) ∧ aa_SX mX12_keeper 25 [.ref 63, .int (nI (cv P (gst g))), .int (nI w), .int (nI 3)] (aa_sI σ 63 24 (nI (Q + 1))) (some (.int (nI (kpB P lk w (gst g))))) σ' := by
  have ok := h.ok
  have dc := hG.dv ok
  obtain ⟨h2, k2, hA⟩ := h.ask hQ (vP P lk)
  have cl := cv_lt (P := P) (gst g)
  have fr := h.fre (p := w * 65536 + cv P (gst g)) hQ (by omega)
  obtain ⟨σ3, ⟨hF3, hK3, hm⟩, hS3⟩ := m_keeper0 (f := 18) (by rw [dc]; exact h.mu _) cl hw h2.W h2.M k2 h2.L fr
  rw [dc] at hS3 hm
  rw [ffm_all ok] at hm
  have s3 : SQ (aa_sI σ 63 24 (nI (Q + 1))) σ3 := SQ.rf.Q hF3
  exact ⟨σ3, ⟨h2.sq s3 hK3, (SQ.rf.f (by decide) _).tr s3, fun x a1 a2 a3 => by rw [hF3.2.1 x (by simp; omega), sI_ne a1], hm⟩, hA, h2, hS3⟩
end
