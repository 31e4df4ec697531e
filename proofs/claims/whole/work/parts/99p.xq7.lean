/-! THE REFERENCE, PUBLIC METHODS: who wins -/
section
variable {P P' : pl_T} {tx tx' : Nat → Nat} {n n' : Nat} {g g' : gm_T} {kp kp' : Nat → Option gm_T} {lk lk' tl tl' : Nat} {rw rw' : Nat → Int} {Q Q' : Nat} {r : Nat → Nat} {dy : List aa_Shp} {σ σ' : aa_St}
/-- asking -/
theorem MI.ask (h : MI P tx n g kp lk tl rw Q r dy σ) (hQ : Q + 1 < 500000) (val : Nat → Int32) : MI P tx n g kp lk tl rw (Q + 1) r dy (aa_sI σ 63 24 (nI (Q + 1))) ∧ MMK (Q + 1) val (aa_sI σ 63 24 (nI (Q + 1))).1 ∧ aa_SX mX12_asks 1 [.ref 63] σ none (aa_sI σ 63 24 (nI (Q + 1))) := by
  have k := h.q.ask hQ val
  exact ⟨h.sq (SQ.rf.f (by decide) _) k.Q, k, m_asks h.W h.q.1⟩
theorem MI.mu (h : MI P tx n g kp lk tl rw Q r dy σ) (s : Nat) : pl_mu P s ≤ 18 := pl_mu_le h.ok s
theorem m_winner (h : MI P tx n g kp lk tl rw Q r dy σ) (hQ : Q + 1 < 500000) {s w e : Nat} (hs : s < 2 ^ (pl_n P + pl_b P)) (hw : w ≤ 1) (he : e ≤ 1) : ∃ σ', (MI P tx n g kp lk tl rw (Q + 1) r dy σ' ∧ SQ σ σ' ∧ MMK (Q + 1) (vW P e) σ'.1) ∧ aa_SX mX12_winner 30 [.ref 63, .int (nI (cv P s)), .int (nI w), .int (nI e)] σ (some (.int (nI (if wi P e w s then w else 1 - w)))) σ' := by
  obtain ⟨h1, k1, hA⟩ := h.ask hQ (vW P e)
  have dc := dv_cv h.ok hs
  obtain ⟨σ2, ⟨hF2, hK2⟩, hS2⟩ := m_win he 18 (cv P s) w _ (by rw [dc]; exact h.mu s) (cv_lt _) hw h1.W h1.M k1
  rw [dc] at hS2
  have hs2 : SQ (aa_sI σ 63 24 (nI (Q + 1))) σ2 := SQ.rf.A hF2
  have tb : (wi P e w s).toNat ≤ 1 := Bool.toNat_le _
  refine ⟨σ2, ⟨h1.sq hs2 hK2.Q, (SQ.rf.f (by decide) _).tr hs2, hK2⟩, ?_⟩
  refine aa_E_of (by decide) 0 [some (.ref 63), some (.int (nI (cv P s))), some (.int (nI w)), some (.int (nI e))] rfl rfl ?_
  refine aa_go (aa_aload0 iX12_winner_0) (aa_go (aa_cVv iX12_winner_1 (hA) (by decide) lc_X12_asks lk_X12_189 (sh_63 h.W) rfl rfl (Nat.le_of_ble_eq_true rfl)) ?_)
  refine aa_go (aa_aload0 iX12_winner_4) (aa_go (aa_iload1 iX12_winner_5) (aa_go (aa_iload2 iX12_winner_6) (aa_go (aa_iload3 iX12_winner_7) (aa_go (aa_cVi iX12_winner_8 (hS2) (by decide) lc_X12_win lk_X12_183 (sh_63 h1.W) rfl rfl (Nat.le_of_ble_eq_true rfl)) (aa_go (aa_iconst iX12_winner_11 ki_1) ?_)))))
  refine aa_ic_neN iX12_winner_12 (by omega) (by omega) (fun g1 => ?_) (fun g1 => ?_)
  · skip
    have e1 : wi P e w s = false := by
      cases q : wi P e w s with
      | false => rfl
      | true => rw [q] at g1; exact absurd rfl g1
    refine aa_go (aa_iconst iX12_winner_19 ki_1) (aa_go (aa_iload2 iX12_winner_20) (aa_go (aa_isubN iX12_winner_21 (by omega)) ?_))
    refine aa_iret iX12_winner_22 rfl ?_
    exact ⟨by rw [e1]; rfl, rfl⟩
  · skip
    have e1 : wi P e w s = true := by
      cases q : wi P e w s with
      | true => rfl
      | false => rw [q] at g1; exact absurd g1 (by decide)
    refine aa_go (aa_iload2 iX12_winner_15) (aa_go (aa_goto iX12_winner_16) ?_)
    refine aa_iret iX12_winner_22 rfl ?_
    exact ⟨by rw [e1]; rfl, rfl⟩
theorem q_would (h : MI P tx n g kp lk tl rw Q r dy σ) (hG : GG P g) (hQ : Q + 2000 < 500000) {a e : Nat} (ha : a ≤ 1) (he : e ≤ 1) : ∃ σ', MJ P tx n g kp lk tl rw Q r dy σ σ' ∧ aa_SX mX12_would 100 [.ref 63, .int (nI a), .int (nI e)] σ (some (.int (nI (if wi P e a (gst g) then a else 1 - a)))) σ' := by
  have h1 := h.thr (nI 0)
  obtain ⟨σ2, ⟨h2, s2, -⟩, hS2⟩ := m_winner h1 (by omega) hG.st ha he
  refine ⟨σ2, h2.J (by omega) ((MF.rf.s (by decide) _ _).tr s2.F), ?_⟩
  refine aa_E_of (by decide) 0 [some (.ref 63), some (.int (nI a)), some (.int (nI e))] rfl rfl ?_
  refine aa_go (aa_aload0 iX12_would_0) (aa_go (aa_iconst iX12_would_1 ki_0) (aa_go (aa_putI iX12_would_2 fl_X12_3 (fun h => nomatch h) (sh_63 h.W) rfl ⟨rfl, rfl⟩) ?_))
  refine aa_go (aa_iload1 iX12_would_5) (aa_go (aa_i2lN iX12_would_6 (by omega)) (aa_go (aa_lconst iX12_would_7 kl_0) (aa_go (aa_lconst iX12_would_8 kl_1) (aa_go (aa_cSi iX12_would_9 (m_inN (hi := 1) (by omega) (by omega)) (by decide) lc_X12_in lk_X12_21 rfl (Nat.le_of_ble_eq_true rfl)) ?_))))
  refine aa_if_eqB iX12_would_12 (fun g1 => ?_) (fun g1 => ?_)
  · skip
    exact absurd ha (of_decide_eq_false g1)
  · skip
    refine aa_go (aa_iload2 iX12_would_15) (aa_go (aa_i2lN iX12_would_16 (by omega)) (aa_go (aa_lconst iX12_would_17 kl_0) (aa_go (aa_lconst iX12_would_18 kl_1) (aa_go (aa_cSi iX12_would_19 (m_inN (hi := 1) (by omega) (by omega)) (by decide) lc_X12_in lk_X12_21 rfl (Nat.le_of_ble_eq_true rfl)) ?_))))
    refine aa_if_eqB iX12_would_22 (fun g2 => ?_) (fun g2 => ?_)
    · skip
      exact absurd he (of_decide_eq_false g2)
    · skip
      refine aa_go (aa_aload0 iX12_would_25) (aa_go (aa_aload0 iX12_would_26) (aa_go (aa_getE iX12_would_27 fl_X12_99 (sh_63 h1.W) rfl h1.G.1) (aa_go (aa_iload1 iX12_would_30) (aa_go (aa_iload2 iX12_would_31) (aa_go (aa_cVi iX12_would_32 (hS2) (by decide) lc_X12_winner lk_X12_192 (sh_63 h1.W) rfl rfl (Nat.le_of_ble_eq_true rfl)) (aa_go (aa_goto iX12_would_35) ?_))))))
      refine aa_iret iX12_would_39 rfl ?_
      exact ⟨rfl, rfl⟩
theorem q_wouldB (h : MI P tx n g kp lk tl rw Q r dy σ) {a b : Int32} (hx : (a < 0 ∨ nI 1 < a) ∨ (b < 0 ∨ nI 1 < b)) : ∃ σ', MJ P tx n g kp lk tl rw Q r dy σ σ' ∧ aa_SX mX12_would 100 [.ref 63, .int a, .int b] σ (some (.int (-1))) σ' := by
  have h1 := h.thr (nI 0)
  refine ⟨_, h.JB, ?_⟩
  have hI : ∀ (x : Int32), aa_SX mX12_in 1 [.long x.toInt64, .long (lN 0), .long (lN 1)] (aa_sI σ 63 0 (nI 0)) (some (.int (nI (decide (0 ≤ x.toInt ∧ x.toInt ≤ 1)).toNat))) (aa_sI σ 63 0 (nI 0)) := fun x => by
    have b1 := Int32.toInt_lt x
    have b2 := Int32.le_toInt x
    have := m_in (σ := aa_sI σ 63 0 (nI 0)) (v := x.toInt) (lo := 0) (hi := 1) (by omega) (by omega) (by omega)
    rw [i2lZ]; exact this
  refine aa_E_of (by decide) 0 [some (.ref 63), some (.int (a)), some (.int (b))] rfl rfl ?_
  refine aa_go (aa_aload0 iX12_would_0) (aa_go (aa_iconst iX12_would_1 ki_0) (aa_go (aa_putI iX12_would_2 fl_X12_3 (fun h => nomatch h) (sh_63 h.W) rfl ⟨rfl, rfl⟩) ?_))
  refine aa_go (aa_iload1 iX12_would_5) (aa_go (aa_i2l iX12_would_6) (aa_go (aa_lconst iX12_would_7 kl_0) (aa_go (aa_lconst iX12_would_8 kl_1) (aa_go (aa_cSi iX12_would_9 (hI a) (by decide) lc_X12_in lk_X12_21 rfl (Nat.le_of_ble_eq_true rfl)) ?_))))
  refine aa_if_eqB iX12_would_12 (fun g1 => ?_) (fun g1 => ?_)
  · skip
    refine aa_go (aa_iconst iX12_would_38 ki_m1) ?_
    refine aa_iret iX12_would_39 rfl ?_
    exact ⟨rfl, rfl⟩
  · skip
    refine aa_go (aa_iload2 iX12_would_15) (aa_go (aa_i2l iX12_would_16) (aa_go (aa_lconst iX12_would_17 kl_0) (aa_go (aa_lconst iX12_would_18 kl_1) (aa_go (aa_cSi iX12_would_19 (hI b) (by decide) lc_X12_in lk_X12_21 rfl (Nat.le_of_ble_eq_true rfl)) ?_))))
    refine aa_if_eqB iX12_would_22 (fun g2 => ?_) (fun g2 => ?_)
    · skip
      refine aa_go (aa_iconst iX12_would_38 ki_m1) ?_
      refine aa_iret iX12_would_39 rfl ?_
      exact ⟨rfl, rfl⟩
    · skip
      have g1 := of_decide_eq_true g1
      have g2 := of_decide_eq_true g2
      rcases hx with q | q
      · exact absurd g1 (dB_f (c := 1) (by omega) q)
      · exact absurd g2 (dB_f (c := 1) (by omega) q)
end
