/-! THE REFERENCE: changes -/
def FC (P : pl_T) (σ σ' : aa_St) : Prop := σ'.2 = σ.2 ∧ (∀ x, x ∉ [63, 66, 67, 68, 74, 75] → σ'.1 x = σ.1 x) ∧ (∀ k, k ∉ [0, 24, 33, 34] → σ'.1 63 k = σ.1 63 k) ∧ ∀ k, k < pl_n P → σ'.1 66 k = σ.1 66 k ∧ σ'.1 67 k = σ.1 67 k
def MCh (P : pl_T) (A : Nat → Nat) (m t : Nat) (i : Nat → Nat → Int32) : Prop := i 63 33 = nI m ∧ i 63 34 = nI t ∧ ∀ k, k < pl_n P + m → i 66 k = nI (pl_h (wdP P A m) k) ∧ i 67 k = nI (pl_u (wdP P A m) k) ∧ i 68 k = nI (pl_ab (wdP P A m) k)
def A14 : Nat → Nat := fun _ => 14
def lgC (P : pl_T) (t c : Nat) : Bool := decide (c = 34) || (decide ((if c < 20 then c else c - 20) < pl_n P) && t.testBit (if c < 20 then c else c - 20))
abbrev isC (c : Nat) : Prop := c < 14 ∨ (20 ≤ c ∧ c ≤ 34)
section
variable {P : pl_T}
theorem FC.rf {σ : aa_St} : FC P σ σ := ⟨rfl, fun _ _ => rfl, fun _ _ => rfl, fun _ _ => ⟨rfl, rfl⟩⟩
theorem FC.tr {σ σ1 σ2 : aa_St} (h : FC P σ σ1) (g : FC P σ1 σ2) : FC P σ σ2 := ⟨g.1.trans h.1, fun x hx => (g.2.1 x hx).trans (h.2.1 x hx), fun k hk => (g.2.2.1 k hk).trans (h.2.2.1 k hk), fun k hk => ⟨(g.2.2.2 k hk).1.trans (h.2.2.2 k hk).1, (g.2.2.2 k hk).2.trans (h.2.2.2 k hk).2⟩⟩
theorem FC.f {σ σ1 : aa_St} (h : FC P σ σ1) {k : Nat} (hk : k ∈ [0, 24, 33, 34]) (x : Int32) : FC P σ (aa_sI σ1 63 k x) := ⟨h.1, fun a ha => by
  rw [sI_ne (fun q => ha (by rw [q]; decide))]; exact h.2.1 a ha, fun j hj => by
  rw [sI_nk (show j ≠ k from fun q => hj (q ▸ hk))]; exact h.2.2.1 j hj, fun j hj => by
  rw [sI_ne (by decide), sI_ne (by decide)]; exact h.2.2.2 j hj⟩
theorem FC.p {σ σ1 : aa_St} (h : FC P σ σ1) {c : Nat} (hc : c = 66 ∨ c = 67) {k : Nat} (hk : pl_n P ≤ k) (x : Int32) : FC P σ (aa_sI σ1 c k x) := ⟨h.1, fun a ha => by
  rw [sI_ne (fun q => ha (by rw [q]; rcases hc with rfl | rfl <;> decide))]; exact h.2.1 a ha, fun j hj => by
  rw [sI_ne (by omega)]; exact h.2.2.1 j hj, fun j hj => by
  rcases hc with rfl | rfl
  · rw [sI_nk (by omega), sI_ne (by decide)]; exact h.2.2.2 j hj
  · rw [sI_nk (show j ≠ k by omega), sI_ne (show (66 : Nat) ≠ 67 by decide)]; exact h.2.2.2 j hj⟩
theorem FC.I {σ σ1 σ2 : aa_St} (h : FC P σ σ1) (g : FrI 68 σ1 σ2) : FC P σ σ2 := h.tr ⟨g.1, fun x hx => g.2 x (fun q => hx (by rw [q]; decide)), fun k _ => by rw [g.2 63 (by decide)], fun k _ => by rw [g.2 66 (by decide), g.2 67 (by decide)]; exact ⟨rfl, rfl⟩⟩
theorem FC.A {σ σ1 σ2 : aa_St} (h : FC P σ σ1) (g : FrA [74, 75] σ1 σ2) : FC P σ σ2 := h.tr ⟨g.1, fun x hx => g.2 x (fun q => hx (by simp at q ⊢; omega)), fun k _ => by rw [g.2 63 (by decide)], fun k _ => by rw [g.2 66 (by decide), g.2 67 (by decide)]; exact ⟨rfl, rfl⟩⟩
theorem FC.W {r : Nat → Nat} {dy : List aa_Shp} {σ σ' : aa_St} (h : FC P σ σ') (hW : aa_W r dy σ) : aa_W r dy σ' := hW.of2 (by rw [h.1])
theorem FC.MF {σ σ' : aa_St} (h : FC P σ σ') : MF σ σ' := ⟨by rw [h.1], fun x hx => ⟨h.2.1 x (by simp; omega), by rw [h.1]⟩⟩
theorem wab0 (A : Nat → Nat) (k : Nat) : pl_ab (wdP P A 0) k = pl_ab P k := by
  apply bb_ext
  intro i
  rw [ab_bit, ab_bit, wdP_n, Nat.add_zero]
  by_cases c : i < pl_n P
  · rw [wdA_lo c]
  · simp [c]
end
section
variable {P P' : pl_T} {tx tx' : Nat → Nat} {n n' : Nat} {g g' : gm_T} {kp kp' : Nat → Option gm_T} {lk lk' tl tl' : Nat} {rw rw' : Nat → Int} {Q Q' : Nat} {r : Nat → Nat} {dy : List aa_Shp} {σ σ' σ0 : aa_St} {A : Nat → Nat} {m t : Nat}
theorem MI.fc (h : MI P tx n g kp lk tl rw Q r dy σ) (hF : FC P σ σ') (hC : MCh P A 0 t σ'.1) (hQ : MMQ Q' σ'.1) : MI P tx n g kp lk tl rw Q' r dy σ' := by
  have q : ∀ x, x = 65 ∨ x = 69 ∨ x = 70 ∨ x = 71 ∨ x = 72 ∨ x = 80 ∨ x = 83 ∨ x = 84 ∨ x = 85 → σ'.1 x = σ.1 x := fun x hx => hF.2.1 x (by simp; omega)
  obtain ⟨a0, a1, a2, a3, a4⟩ := h.M
  refine ⟨hF.W h.W, h.R, ⟨a0, by rw [hF.2.2.1 3 (by decide)]; exact a1, by rw [hF.2.2.1 8 (by decide)]; exact a2, fun k hk => ⟨by rw [q 65 (by decide)]; exact (a3 k hk).1, by rw [(hF.2.2.2 k hk).1]; exact (a3 k hk).2.1, by rw [(hF.2.2.2 k hk).2]; exact (a3 k hk).2.2.1, by rw [(hC.2.2 k (by omega)).2.2, wab0]⟩, fun j hj => by rw [q 69 (by decide)]; exact a4 j hj⟩, h.X.fr (hF.2.2.1 17 (by decide)) (q 72 (by decide)), h.G.fr (fun k hk => hF.2.2.1 k (by simp; omega)) (q 70 (by decide)) (q 71 (by decide)), h.K.fr (q 83 (by decide)) (q 84 (by decide)) (q 85 (by decide)), h.L.fr (q 80 (by decide)), h.T.fr (hF.2.2.1 1 (by decide)) (by rw [hF.1]), hQ⟩
theorem FC.nn (h : MI P tx n g kp lk tl rw Q r dy σ0) (hF : FC P σ0 σ) : σ.1 63 3 = nI (pl_n P) := by rw [hF.2.2.1 3 (by decide)]; exact h.M.2.1
theorem FC.u (h : MI P tx n g kp lk tl rw Q r dy σ0) (hF : FC P σ0 σ) {k : Nat} (hk : k < pl_n P) : σ.1 66 k = nI (pl_h P k) ∧ σ.1 67 k = nI (pl_u P k) := by
  rw [(hF.2.2.2 k hk).1, (hF.2.2.2 k hk).2]
  have := h.M.2.2.2.1 k hk
  exact ⟨this.2.1, this.2.2.1⟩
theorem FC.gg (h : MI P tx n g kp lk tl rw Q r dy σ0) (hF : FC P σ0 σ) : σ.1 63 10 = nI (cv P (gst g)) ∧ σ.1 63 11 = nI (gtn g) ∧ σ.1 63 12 = nI (gen g) := by
  rw [hF.2.2.1 10 (by decide), hF.2.2.1 11 (by decide), hF.2.2.1 12 (by decide)]
  exact ⟨h.G.1, h.G.2.1, h.G.2.2.1⟩
theorem m_clears (h : MI P tx n g kp lk tl rw Q r dy σ0) (hF : FC P σ0 σ) : ∃ σ', (FC P σ0 σ' ∧ MCh P A14 0 (gth P g) σ'.1 ∧ σ'.1 63 24 = σ.1 63 24 ∧ σ'.1 74 = σ.1 74) ∧ aa_SX mX12_clears 3 [.ref 63] σ none σ' := by
  have ok := h.ok
  have hW := hF.W h.W
  have hFa := hF.f (k := 33) (by decide) (nI 0)
  obtain ⟨σ2, ⟨hI, h68⟩, hS⟩ := m_rises (hFa.W h.W) ok (fun k hk => (FC.u h hFa hk).2)
  have hFb := hFa.I hI
  have hFc := hFb.f (k := 34) (by decide) (nI (gth P g))
  refine ⟨_, ⟨hFc, ⟨?_, sI_eq, fun k hk => ?_⟩, ?_, ?_⟩, ?_⟩
  · rw [sI_nk (by decide), hI.2 63 (by decide), sI_eq]
  · have hk : k < pl_n P := hk
    rw [wab0, wdP_h hk, wdP_u hk]
    exact ⟨(FC.u h hFc hk).1, (FC.u h hFc hk).2, by rw [sI_ne (by decide)]; exact h68 k hk⟩
  · rw [sI_nk (by decide), hI.2 63 (by decide), sI_nk (by decide)]
  · rw [sI_ne (by decide), hI.2 74 (by decide), sI_ne (by decide)]
  refine aa_E_of (by decide) 0 [some (.ref 63)] rfl rfl ?_
  refine aa_go (aa_aload0 iX12_clears_0) (aa_go (aa_iconst iX12_clears_1 ki_0) (aa_go (aa_putI iX12_clears_2 fl_X12_323 (fun h => nomatch h) (sh_63 hW) rfl ⟨rfl, rfl⟩) ?_))
  refine aa_go (aa_aload0 iX12_clears_5) (aa_go (aa_aload0 iX12_clears_6) (aa_go (aa_getE iX12_clears_7 fl_X12_78 (sh_63 (hFa.W h.W)) rfl (FC.nn h hFa)) (aa_go (aa_cVv iX12_clears_10 (hS) (by decide) lc_X12_rises lk_X12_84 (sh_63 (hFa.W h.W)) rfl rfl (Nat.le_of_ble_eq_true rfl)) ?_)))
  refine aa_go (aa_aload0 iX12_clears_13) (aa_go (aa_aload0 iX12_clears_14) (aa_go (aa_getE iX12_clears_15 fl_X12_99 (sh_63 (hFb.W h.W)) rfl (FC.gg h hFb).1) (aa_go (aa_sipush iX12_clears_18 ks_16383) (aa_go (aa_iandN iX12_clears_21 ) ?_))))
  refine aa_go (aa_top (y := nI (gth P g)) (by rw [gth_and ok])) ?_
  refine aa_go (aa_putI iX12_clears_22 fl_X12_320 (fun h => nomatch h) (sh_63 (hFb.W h.W)) rfl ⟨rfl, rfl⟩) ?_
  refine aa_vret iX12_clears_25 rfl ?_
  exact ⟨rfl, rfl⟩
theorem m_isChange {c : Nat} (hc : c ≤ 34) : aa_SX mX12_isChange 2 [.int (nI c)] σ (some (.int (nI (decide (isC c)).toNat))) σ := by
  have hI : aa_SX mX12_in 1 [.long (lN c), .long (lN 20), .long (lN 34)] σ (some (.int (nI (decide ((20 : Int) ≤ c ∧ (c : Int) ≤ 34)).toNat))) σ := by
    have := m_in (σ := σ) (v := c) (lo := 20) (hi := 34) (by omega) (by omega) (by omega)
    rw [lZ_N, lZ_N, lZ_N]
    exact this
  refine aa_E_of (by decide) 0 [some (.int (nI c))] rfl rfl ?_
  refine aa_go (aa_iload0 iX12_isChange_0) (aa_go (aa_i2lN iX12_isChange_1 (by omega)) (aa_go (aa_lconst iX12_isChange_2 kl_0) (aa_go (aa_ldc2 iX12_isChange_3 ld_X12_338) (aa_go (aa_cSi iX12_isChange_6 (m_inN (hi := 13) (by omega) (by omega)) (by decide) lc_X12_in lk_X12_21 rfl (Nat.le_of_ble_eq_true rfl)) ?_))))
  refine aa_if_neB iX12_isChange_9 (fun g1 => ?_) (fun g1 => ?_)
  · skip
    have g1 := of_decide_eq_true g1
    refine aa_go (aa_iconst iX12_isChange_26 ki_1) (aa_go (aa_goto iX12_isChange_27) ?_)
    refine aa_zretT iX12_isChange_31 rfl ?_
    exact ⟨by rw [decide_eq_true (show isC c from Or.inl (by omega))]; rfl, rfl⟩
  · skip
    have g1 := of_decide_eq_false g1
    refine aa_go (aa_iload0 iX12_isChange_12) (aa_go (aa_i2lN iX12_isChange_13 (by omega)) (aa_go (aa_ldc2 iX12_isChange_14 ld_X12_340) (aa_go (aa_ldc2 iX12_isChange_17 ld_X12_342) (aa_go (aa_cSi iX12_isChange_20 (hI) (by decide) lc_X12_in lk_X12_21 rfl (Nat.le_of_ble_eq_true rfl)) ?_))))
    refine aa_if_eqB iX12_isChange_23 (fun g2 => ?_) (fun g2 => ?_)
    · skip
      have g2 := of_decide_eq_false g2
      refine aa_go (aa_iconst iX12_isChange_30 ki_0) ?_
      refine aa_zretF iX12_isChange_31 rfl ?_
      exact ⟨by rw [decide_eq_false (show ¬ isC c from fun q => by rcases q with q | q <;> omega)]; rfl, rfl⟩
    · skip
      have g2 := of_decide_eq_true g2
      refine aa_go (aa_iconst iX12_isChange_26 ki_1) (aa_go (aa_goto iX12_isChange_27) ?_)
      refine aa_zretT iX12_isChange_31 rfl ?_
      exact ⟨by rw [decide_eq_true (show isC c from Or.inr (by omega))]; rfl, rfl⟩
theorem m_canChange (h : MI P tx n g kp lk tl rw Q r dy σ0) (hF : FC P σ0 σ) (ht : σ.1 63 34 = nI t) (hl : t < 2147483648) {c : Nat} (hc : c ≤ 34) : aa_SX mX12_canChange 2 [.ref 63, .int (nI c)] σ (some (.int (nI (lgC P t c).toNat))) σ := by
  have hW := hF.W h.W
  have n14 := h.n14
  have key : ∀ i, (if c < 20 then c else c - 20) = i → aa_V mX12_canChange 2 14 [some (.ref 63), some (.int (nI c)), none] [.int (nI i)] σ (fun r1 σ1 => r1 = some (.int (nI (lgC P t c).toNat)) ∧ σ1 = σ) := by
    intro i hi
    have il : i ≤ 34 := by rw [← hi]; split <;> omega
    have el : lgC P t c = (decide (c = 34) || (decide (i < pl_n P) && t.testBit i)) := by rw [lgC, hi]
    refine aa_go (aa_istore2 iX12_canChange_14 rfl (by decide)) (aa_go (aa_iload1 iX12_canChange_15) (aa_go (aa_bipush iX12_canChange_16 kb_34) ?_))
    refine aa_ic_eqN iX12_canChange_18 (by omega) (by omega) (fun g1 => ?_) (fun g1 => ?_)
    · skip
      refine aa_go (aa_iconst iX12_canChange_40 ki_1) (aa_go (aa_goto iX12_canChange_41) ?_)
      refine aa_zretT iX12_canChange_45 rfl ?_
      exact ⟨by rw [el, decide_eq_true g1]; rfl, rfl⟩
    · skip
      refine aa_go (aa_iload2 iX12_canChange_21) (aa_go (aa_aload0 iX12_canChange_22) (aa_go (aa_getE iX12_canChange_23 fl_X12_78 (sh_63 hW) rfl (FC.nn h hF)) ?_))
      refine aa_ic_geN iX12_canChange_26 (by omega) (by omega) (fun g2 => ?_) (fun g2 => ?_)
      · skip
        refine aa_go (aa_iconst iX12_canChange_44 ki_0) ?_
        refine aa_zretF iX12_canChange_45 rfl ?_
        exact ⟨by rw [el, decide_eq_false g1, decide_eq_false (by omega)]; rfl, rfl⟩
      · skip
        refine aa_go (aa_aload0 iX12_canChange_29) (aa_go (aa_getE iX12_canChange_30 fl_X12_320 (sh_63 hW) rfl ht) (aa_go (aa_iload2 iX12_canChange_33) (aa_go (aa_cSi iX12_canChange_34 (m_has (by omega) (by omega)) (by decide) lc_X12_has lk_X12_95 rfl (Nat.le_of_ble_eq_true rfl)) ?_)))
        refine aa_if_eqB iX12_canChange_37 (fun g3 => ?_) (fun g3 => ?_)
        · skip
          refine aa_go (aa_iconst iX12_canChange_44 ki_0) ?_
          refine aa_zretF iX12_canChange_45 rfl ?_
          exact ⟨by rw [el, decide_eq_false g1, g3]; simp, rfl⟩
        · skip
          refine aa_go (aa_iconst iX12_canChange_40 ki_1) (aa_go (aa_goto iX12_canChange_41) ?_)
          refine aa_zretT iX12_canChange_45 rfl ?_
          exact ⟨by rw [el, g3, decide_eq_true g2]; simp, rfl⟩
  refine aa_E_of (by decide) 1 [some (.ref 63), some (.int (nI c)), none] rfl rfl ?_
  refine aa_go (aa_iload1 iX12_canChange_0) (aa_go (aa_bipush iX12_canChange_1 kb_20) ?_)
  refine aa_ic_geN iX12_canChange_3 (by omega) (by omega) (fun g1 => ?_) (fun g1 => ?_)
  · skip
    refine aa_go (aa_iload1 iX12_canChange_10) (aa_go (aa_bipush iX12_canChange_11 kb_20) (aa_go (aa_isubN iX12_canChange_13 (by omega)) ?_))
    exact key (c - 20) (if_neg (by omega))
  · skip
    refine aa_go (aa_iload1 iX12_canChange_6) (aa_go (aa_goto iX12_canChange_7) ?_)
    exact key c (if_pos (by omega))
theorem m_changesN (h : MI P tx n g kp lk tl rw Q r dy σ0) (hF : FC P σ0 σ) (ht : σ.1 63 34 = nI t) (hl : t < 2147483648) {c : Nat} (hc : c ≤ 34) (hg : lgC P t c = false) : aa_SX mX12_changes 4 [.ref 63, .int (nI c)] σ (some (.int (nI false.toNat))) σ := by
  have hW := hF.W h.W
  have n14 := h.n14
  have key : ∀ i, (if c < 20 then c else c - 20) = i → aa_V mX12_changes 4 14 [some (.ref 63), some (.int (nI c)), none, none, none] [.int (nI i)] σ (fun r1 σ1 => r1 = some (.int (nI false.toNat)) ∧ σ1 = σ) := by
    intro i hi
    have il : i ≤ 34 := by rw [← hi]; split <;> omega
    have el : lgC P t c = (decide (c = 34) || (decide (i < pl_n P) && t.testBit i)) := by rw [lgC, hi]
    rw [el, Bool.or_eq_false_iff, decide_eq_false_iff_not] at hg
    refine aa_go (aa_istore2 iX12_changes_14 rfl (by decide)) (aa_go (aa_iload1 iX12_changes_15) (aa_go (aa_bipush iX12_changes_16 kb_34) ?_))
    refine aa_ic_geN iX12_changes_18 (by omega) (by omega) (fun g1 => ?_) (fun g1 => ?_)
    · skip
      omega
    · skip
      refine aa_go (aa_iconst iX12_changes_21 ki_1) (aa_go (aa_goto iX12_changes_22) (aa_go (aa_istore3 iX12_changes_26 rfl (by decide)) (aa_go (aa_iload3 iX12_changes_27) ?_)))
      refine aa_go (aa_if_eqF iX12_changes_28 (by decide)) ?_
      refine aa_go (aa_iload2 iX12_changes_31) (aa_go (aa_aload0 iX12_changes_32) (aa_go (aa_getE iX12_changes_33 fl_X12_78 (sh_63 hW) rfl (FC.nn h hF)) ?_))
      refine aa_ic_geN iX12_changes_36 (by omega) (by omega) (fun g2 => ?_) (fun g2 => ?_)
      · skip
        refine aa_go (aa_iconst iX12_changes_50 ki_0) ?_
        refine aa_zretF iX12_changes_51 rfl ?_
        exact ⟨rfl, rfl⟩
      · skip
        refine aa_go (aa_aload0 iX12_changes_39) (aa_go (aa_getE iX12_changes_40 fl_X12_320 (sh_63 hW) rfl ht) (aa_go (aa_iload2 iX12_changes_43) (aa_go (aa_cSi iX12_changes_44 (m_has (by omega) (by omega)) (by decide) lc_X12_has lk_X12_95 rfl (Nat.le_of_ble_eq_true rfl)) ?_)))
        refine aa_if_neB iX12_changes_47 (fun g3 => ?_) (fun g3 => ?_)
        · skip
          rw [g3, decide_eq_true g2] at hg
          exact absurd hg.2 (by decide)
        · skip
          refine aa_go (aa_iconst iX12_changes_50 ki_0) ?_
          refine aa_zretF iX12_changes_51 rfl ?_
          exact ⟨rfl, rfl⟩
  refine aa_E_of (by decide) 3 [some (.ref 63), some (.int (nI c)), none, none, none] rfl rfl ?_
  refine aa_go (aa_iload1 iX12_changes_0) (aa_go (aa_bipush iX12_changes_1 kb_20) ?_)
  refine aa_ic_geN iX12_changes_3 (by omega) (by omega) (fun g1 => ?_) (fun g1 => ?_)
  · skip
    refine aa_go (aa_iload1 iX12_changes_10) (aa_go (aa_bipush iX12_changes_11 kb_20) (aa_go (aa_isubN iX12_changes_13 (by omega)) ?_))
    exact key (c - 20) (if_neg (by omega))
  · skip
    refine aa_go (aa_iload1 iX12_changes_6) (aa_go (aa_goto iX12_changes_7) ?_)
    exact key c (if_pos (by omega))
theorem lgC_rm {c : Nat} (hc : c < 20) : lgC P t c = (decide (c < pl_n P) && t.testBit c) := by
  rw [lgC, if_pos hc, decide_eq_false (by omega), Bool.false_or]
theorem lgC_ly {c : Nat} (hc : 20 ≤ c) (h : lgC P t c = true) : c = 34 ∨ (c - 20 < pl_n P ∧ t.testBit (c - 20) = true) := by
  rw [lgC, if_neg (by omega), Bool.or_eq_true, decide_eq_true_eq, Bool.and_eq_true, decide_eq_true_eq] at h
  exact h
/-- taking a thing away -/
theorem m_changesR (h : MI P tx n g kp lk tl rw Q r dy σ0) (hF : FC P σ0 σ) (hC : MCh P A m t σ.1) (hl : t < 2147483648) {c : Nat} (hc : c < 20) (hg : lgC P t c = true) : ∃ σ', (FC P σ0 σ' ∧ MCh P A m (bd t (pl_cl (wdP P A m) c)) σ'.1 ∧ σ'.1 63 24 = σ.1 63 24 ∧ σ'.1 74 = σ.1 74) ∧ aa_SX mX12_changes 4 [.ref 63, .int (nI c)] σ (some (.int (nI true.toNat))) σ' := by
  have hW := hF.W h.W
  have n14 := h.n14
  rw [lgC_rm hc, Bool.and_eq_true, decide_eq_true_eq] at hg
  have h68 := (hC.2.2 c (by omega)).2.2
  refine ⟨aa_sI σ 63 34 (nI (bd t (pl_cl (wdP P A m) c))), ⟨hF.f (by decide) _, ⟨by rw [sI_nk (by decide)]; exact hC.1, sI_eq, fun k hk => by rw [sI_ne (by decide), sI_ne (by decide), sI_ne (by decide)]; exact hC.2.2 k hk⟩, sI_nk (by decide), sI_ne (by decide)⟩, ?_⟩
  refine aa_E_of (by decide) 3 [some (.ref 63), some (.int (nI c)), none, none, none] rfl rfl ?_
  refine aa_go (aa_iload1 iX12_changes_0) (aa_go (aa_bipush iX12_changes_1 kb_20) ?_)
  refine aa_ic_geN iX12_changes_3 (by omega) (by omega) (fun g1 => ?_) (fun g1 => ?_)
  · skip
    omega
  · skip
    refine aa_go (aa_iload1 iX12_changes_6) (aa_go (aa_goto iX12_changes_7) (aa_go (aa_istore2 iX12_changes_14 rfl (by decide)) (aa_go (aa_iload1 iX12_changes_15) (aa_go (aa_bipush iX12_changes_16 kb_34) ?_))))
    refine aa_ic_geN iX12_changes_18 (by omega) (by omega) (fun g2 => ?_) (fun g2 => ?_)
    · skip
      omega
    · skip
      refine aa_go (aa_iconst iX12_changes_21 ki_1) (aa_go (aa_goto iX12_changes_22) (aa_go (aa_istore3 iX12_changes_26 rfl (by decide)) (aa_go (aa_iload3 iX12_changes_27) ?_)))
      refine aa_go (aa_if_eqF iX12_changes_28 (by decide)) ?_
      refine aa_go (aa_iload2 iX12_changes_31) (aa_go (aa_aload0 iX12_changes_32) (aa_go (aa_getE iX12_changes_33 fl_X12_78 (sh_63 hW) rfl (FC.nn h hF)) ?_))
      refine aa_ic_geN iX12_changes_36 (by omega) (by omega) (fun g3 => ?_) (fun g3 => ?_)
      · skip
        omega
      · skip
        refine aa_go (aa_aload0 iX12_changes_39) (aa_go (aa_getE iX12_changes_40 fl_X12_320 (sh_63 hW) rfl hC.2.1) (aa_go (aa_iload2 iX12_changes_43) (aa_go (aa_cSi iX12_changes_44 (m_has (by omega) (by omega)) (by decide) lc_X12_has lk_X12_95 rfl (Nat.le_of_ble_eq_true rfl)) ?_)))
        refine aa_if_neB iX12_changes_47 (fun g4 => ?_) (fun g4 => ?_)
        · skip
          refine aa_go (aa_iload1 iX12_changes_52) (aa_go (aa_bipush iX12_changes_53 kb_20) ?_)
          refine aa_ic_geN iX12_changes_55 (by omega) (by omega) (fun g5 => ?_) (fun g5 => ?_)
          · skip
            omega
          · skip
            refine aa_go (aa_aload0 iX12_changes_58) (aa_go (aa_dup iX12_changes_59 rfl) (aa_go (aa_getE iX12_changes_60 fl_X12_320 (sh_63 hW) rfl hC.2.1) (aa_go (aa_iconst iX12_changes_63 ki_1) (aa_go (aa_iload2 iX12_changes_64) (aa_go (aa_ishlN iX12_changes_65 (by omega)) (aa_go (aa_aload0 iX12_changes_66) (aa_go (aa_getR iX12_changes_67 fl_X12_92 (sh_63 hW) rfl) ?_)))))))
            refine aa_go (aa_iload2 iX12_changes_70) (aa_go (aa_ialE iX12_changes_71 (sh_68 hW) (by omega) (by omega) (h68)) (aa_go (aa_iorN iX12_changes_72 ) ?_))
            refine aa_go (aa_top (y := nI (pl_cl (wdP P A m) c)) (by rw [Nat.one_shiftLeft, Nat.or_comm]; rfl)) ?_
            refine aa_go (aa_iconst iX12_changes_73 ki_m1) (aa_go (aa_ixor iX12_changes_74) (aa_go (aa_iandC iX12_changes_75) (aa_go (aa_putI iX12_changes_76 fl_X12_320 (fun h => nomatch h) (sh_63 hW) rfl ⟨rfl, rfl⟩) (aa_go (aa_iconst iX12_changes_79 ki_1) ?_))))
            refine aa_zretT iX12_changes_80 rfl ?_
            exact ⟨rfl, rfl⟩
        · skip
          rw [hg.2] at g4
          exact absurd g4 (by decide)
/-- laying something -/
theorem m_changesL (h : MI P tx n g kp lk tl rw Q r dy σ0) (hF : FC P σ0 σ) (hC : MCh P A m t σ.1) (hm : m ≤ 1) (hA : ∀ q, q < m → A q = 14 ∨ A q < pl_n P) (hl : t < 2147483648) {c : Nat} (hc : 20 ≤ c) (h34 : c ≤ 34) (hg : lgC P t c = true) : ∃ σ', (FC P σ0 σ' ∧ MCh P (nup A m (c - 20)) (m + 1) (t ||| 2 ^ (pl_n P + m)) σ'.1 ∧ σ'.1 63 24 = σ.1 63 24 ∧ σ'.1 74 = σ.1 74) ∧ aa_SX mX12_changes 4 [.ref 63, .int (nI c)] σ (some (.int (nI true.toNat))) σ' := by
  have hW := hF.W h.W
  have n14 := h.n14
  have lg := lgC_ly hc hg
  have hA' : ∀ q, q < m + 1 → nup A m (c - 20) q = 14 ∨ nup A m (c - 20) q < pl_n P := by
    intro q hq
    by_cases e : q = m
    · rw [e, nup_eq]; omega
    · rw [nup_ne e]; exact hA q (by omega)
  have wk := wdP_ok (A := nup A m (c - 20)) (m := m + 1) h.ok (by omega) hA'
  have hF1 := hF.p (c := 67) (Or.inr rfl) (k := pl_n P + m) (by omega) (nI (lyu (c - 20)))
  have hF2 := hF1.p (c := 66) (Or.inl rfl) (k := pl_n P + m) (by omega) (nI 7)
  have hF3 := hF2.f (k := 33) (by decide) (nI (m + 1))
  have m3 : (aa_sI (aa_sI (aa_sI σ 67 (pl_n P + m) (nI (lyu (c - 20)))) 66 (pl_n P + m) (nI 7)) 63 33 (nI (m + 1))).1 63 33 = nI (m + 1) := sI_eq
  have uu : ∀ k, k < pl_n (wdP P (nup A m (c - 20)) (m + 1)) → (aa_sI (aa_sI (aa_sI σ 67 (pl_n P + m) (nI (lyu (c - 20)))) 66 (pl_n P + m) (nI 7)) 63 33 (nI (m + 1))).1 67 k = nI (pl_u (wdP P (nup A m (c - 20)) (m + 1)) k) := by
    intro k hk
    rw [wdP_n] at hk
    rw [sI_ne (by decide), sI_ne (by decide)]
    by_cases e : k = pl_n P + m
    · rw [e, sI_eq, wdP_u2, nup_eq]
    · rw [sI_nk e, (hC.2.2 k (by omega)).2.1]
      by_cases e2 : k < pl_n P
      · rw [wdP_u e2, wdP_u e2]
      · obtain ⟨q, rfl⟩ : ∃ q, k = pl_n P + q := ⟨k - pl_n P, by omega⟩
        rw [wdP_u2, wdP_u2, nup_ne (by omega)]
  have hh : ∀ k, k < pl_n P + (m + 1) → (aa_sI (aa_sI (aa_sI σ 67 (pl_n P + m) (nI (lyu (c - 20)))) 66 (pl_n P + m) (nI 7)) 63 33 (nI (m + 1))).1 66 k = nI (pl_h (wdP P (nup A m (c - 20)) (m + 1)) k) := by
    intro k hk
    rw [sI_ne (by decide)]
    by_cases e : k = pl_n P + m
    · rw [e, sI_eq, wdP_h2 (by omega)]
    · rw [sI_nk e, sI_ne (by decide), (hC.2.2 k (by omega)).1]
      by_cases e2 : k < pl_n P
      · rw [wdP_h e2, wdP_h e2]
      · rw [wdP_h2 e2, wdP_h2 e2]
  obtain ⟨σ4, ⟨hI, h68⟩, hS⟩ := m_risesW (hF3.W h.W) wk uu
  have hF4 := hF3.I hI
  have t4 : σ4.1 63 34 = nI t := by rw [hI.2 63 (by decide), sI_nk (by decide), sI_ne (by decide), sI_ne (by decide)]; exact hC.2.1
  refine ⟨aa_sI σ4 63 34 (nI (t ||| 2 ^ (pl_n P + m))), ⟨hF4.f (by decide) _, ⟨by rw [sI_nk (by decide), hI.2 63 (by decide)]; exact m3, sI_eq, fun k hk => ?_⟩, ?_, ?_⟩, ?_⟩
  · rw [sI_ne (by decide), sI_ne (by decide), sI_ne (by decide)]
    exact ⟨by rw [hI.2 66 (by decide)]; exact hh k hk, by rw [hI.2 67 (by decide)]; exact uu k hk, h68 k hk⟩
  · rw [sI_nk (by decide), hI.2 63 (by decide), sI_nk (by decide), sI_ne (by decide), sI_ne (by decide)]
  · rw [sI_ne (by decide), hI.2 74 (by decide), sI_ne (by decide), sI_ne (by decide), sI_ne (by decide)]
  -- from 81 on
  have fin2 : ∀ b : Bool, aa_V mX12_changes 4 109 [some (.ref 63), some (.int (nI c)), some (.int (nI (c - 20))), some (.int (nI b.toNat)), some (.int (nI (pl_n P + m)))] [.int (nI (lyu (c - 20))), .int (nI (pl_n P + m)), .ref 67] σ (fun r1 σ1 => r1 = some (.int (nI true.toNat)) ∧ σ1 = aa_sI σ4 63 34 (nI (t ||| 2 ^ (pl_n P + m)))) := by
    intro b
    refine aa_go (aa_iasN iX12_changes_109 (sh_67 hW) (by omega) (by omega)) ?_
    refine aa_go (aa_aload0 iX12_changes_110) (aa_go (aa_getR iX12_changes_111 fl_X12_57 (sh_63 (hF1.W h.W)) rfl) (aa_go (aa_iload4 iX12_changes_114) (aa_go (aa_bipush iX12_changes_116 kb_7) (aa_go (aa_iasN iX12_changes_118 (sh_66 (hF1.W h.W)) (by omega) (by omega)) ?_))))
    refine aa_go (aa_aload0 iX12_changes_119) (aa_go (aa_dup iX12_changes_120 rfl) (aa_go (aa_getE iX12_changes_121 fl_X12_323 (sh_63 (hF2.W h.W)) rfl (by rw [sI_ne (by decide), sI_ne (by decide)]; exact hC.1)) (aa_go (aa_iconst iX12_changes_124 ki_1) (aa_go (aa_iaddN iX12_changes_125 ) ?_))))
    refine aa_go (aa_putI iX12_changes_126 fl_X12_323 (fun h => nomatch h) (sh_63 (hF2.W h.W)) rfl ⟨rfl, rfl⟩) ?_
    refine aa_go (aa_aload0 iX12_changes_129) (aa_go (aa_aload0 iX12_changes_130) (aa_go (aa_getE iX12_changes_131 fl_X12_78 (sh_63 (hF3.W h.W)) rfl (FC.nn h hF3)) (aa_go (aa_aload0 iX12_changes_134) (aa_go (aa_getE iX12_changes_135 fl_X12_323 (sh_63 (hF3.W h.W)) rfl m3) (aa_go (aa_iaddN iX12_changes_138 ) ?_)))))
    refine aa_go (aa_top (y := nI (pl_n (wdP P (nup A m (c - 20)) (m + 1)))) (rfl)) ?_
    refine aa_go (aa_cVv iX12_changes_139 (hS) (by decide) lc_X12_rises lk_X12_84 (sh_63 (hF3.W h.W)) rfl rfl (Nat.le_of_ble_eq_true rfl)) ?_
    refine aa_go (aa_aload0 iX12_changes_142) (aa_go (aa_dup iX12_changes_143 rfl) (aa_go (aa_getE iX12_changes_144 fl_X12_320 (sh_63 (hF4.W h.W)) rfl t4) (aa_go (aa_iconst iX12_changes_147 ki_1) (aa_go (aa_iload4 iX12_changes_148) (aa_go (aa_ishlN iX12_changes_150 (by omega)) (aa_go (aa_iorN iX12_changes_151 ) ?_))))))
    refine aa_go (aa_top (y := nI (t ||| 2 ^ (pl_n P + m))) (by rw [Nat.one_shiftLeft])) ?_
    refine aa_go (aa_putI iX12_changes_152 fl_X12_320 (fun h => nomatch h) (sh_63 (hF4.W h.W)) rfl ⟨rfl, rfl⟩) (aa_go (aa_iconst iX12_changes_155 ki_1) ?_)
    refine aa_zretT iX12_changes_156 rfl ?_
    exact ⟨rfl, rfl⟩
  have fin : ∀ b : Bool, b = decide (c < 34) → aa_V mX12_changes 4 52 [some (.ref 63), some (.int (nI c)), some (.int (nI (c - 20))), some (.int (nI b.toNat)), none] [] σ (fun r1 σ1 => r1 = some (.int (nI true.toNat)) ∧ σ1 = aa_sI σ4 63 34 (nI (t ||| 2 ^ (pl_n P + m)))) := by
    intro b hb
    refine aa_go (aa_iload1 iX12_changes_52) (aa_go (aa_bipush iX12_changes_53 kb_20) ?_)
    refine aa_ic_geN iX12_changes_55 (by omega) (by omega) (fun g1 => ?_) (fun g1 => ?_)
    · skip
      refine aa_go (aa_aload0 iX12_changes_81) (aa_go (aa_getE iX12_changes_82 fl_X12_78 (sh_63 hW) rfl (FC.nn h hF)) (aa_go (aa_aload0 iX12_changes_85) (aa_go (aa_getE iX12_changes_86 fl_X12_323 (sh_63 hW) rfl hC.1) (aa_go (aa_iaddN iX12_changes_89 ) (aa_go (aa_istore4 iX12_changes_90 rfl (by decide)) (aa_go (aa_aload0 iX12_changes_92) (aa_go (aa_getR iX12_changes_93 fl_X12_47 (sh_63 hW) rfl) ?_)))))))
      refine aa_go (aa_iload4 iX12_changes_96) (aa_go (aa_iload3 iX12_changes_98) ?_)
      refine aa_if_eqB iX12_changes_99 (fun g2 => ?_) (fun g2 => ?_)
      · skip
        rw [hb] at g2
        have c34 : c = 34 := by have := of_decide_eq_false g2; omega
        refine aa_go (aa_iconst iX12_changes_108 ki_0) ?_
        refine aa_go (aa_top (y := nI (lyu (c - 20))) (by rw [c34]; rfl)) ?_
        exact fin2 b
      · skip
        rw [hb] at g2
        have c34 : c < 34 := of_decide_eq_true g2
        refine aa_go (aa_iconst iX12_changes_102 ki_1) (aa_go (aa_iload2 iX12_changes_103) (aa_go (aa_ishlN iX12_changes_104 (by omega)) (aa_go (aa_goto iX12_changes_105) ?_)))
        refine aa_go (aa_top (y := nI (lyu (c - 20))) (by rw [lyu, if_neg (by omega), Nat.one_shiftLeft])) ?_
        exact fin2 b
    · skip
      omega
  refine aa_E_of (by decide) 3 [some (.ref 63), some (.int (nI c)), none, none, none] rfl rfl ?_
  refine aa_go (aa_iload1 iX12_changes_0) (aa_go (aa_bipush iX12_changes_1 kb_20) ?_)
  refine aa_ic_geN iX12_changes_3 (by omega) (by omega) (fun g1 => ?_) (fun g1 => ?_)
  · skip
    refine aa_go (aa_iload1 iX12_changes_10) (aa_go (aa_bipush iX12_changes_11 kb_20) (aa_go (aa_isubN iX12_changes_13 (by omega)) (aa_go (aa_istore2 iX12_changes_14 rfl (by decide)) (aa_go (aa_iload1 iX12_changes_15) (aa_go (aa_bipush iX12_changes_16 kb_34) ?_)))))
    refine aa_ic_geN iX12_changes_18 (by omega) (by omega) (fun g2 => ?_) (fun g2 => ?_)
    · skip
      refine aa_go (aa_iconst iX12_changes_25 ki_0) (aa_go (aa_istore3 iX12_changes_26 rfl (by decide)) (aa_go (aa_iload3 iX12_changes_27) ?_))
      refine aa_go (aa_if_eqT iX12_changes_28 (by decide)) ?_
      exact fin false (by rw [decide_eq_false (by omega)])
    · skip
      refine aa_go (aa_iconst iX12_changes_21 ki_1) (aa_go (aa_goto iX12_changes_22) (aa_go (aa_istore3 iX12_changes_26 rfl (by decide)) (aa_go (aa_iload3 iX12_changes_27) ?_)))
      refine aa_go (aa_if_eqF iX12_changes_28 (by decide)) ?_
      refine aa_go (aa_iload2 iX12_changes_31) (aa_go (aa_aload0 iX12_changes_32) (aa_go (aa_getE iX12_changes_33 fl_X12_78 (sh_63 hW) rfl (FC.nn h hF)) ?_))
      refine aa_ic_geN iX12_changes_36 (by omega) (by omega) (fun g3 => ?_) (fun g3 => ?_)
      · skip
        omega
      · skip
        refine aa_go (aa_aload0 iX12_changes_39) (aa_go (aa_getE iX12_changes_40 fl_X12_320 (sh_63 hW) rfl hC.2.1) (aa_go (aa_iload2 iX12_changes_43) (aa_go (aa_cSi iX12_changes_44 (m_has (by omega) (by omega)) (by decide) lc_X12_has lk_X12_95 rfl (Nat.le_of_ble_eq_true rfl)) ?_)))
        refine aa_if_neB iX12_changes_47 (fun g4 => ?_) (fun g4 => ?_)
        · skip
          exact fin true (by rw [decide_eq_true g2])
        · skip
          rcases lg with q | q
          · omega
          · rw [q.2] at g4
            exact absurd g4 (by decide)
  · skip
    omega
theorem m_winsNow (h : MI P tx n g kp lk tl rw Q r dy σ0) (hG : GG P g) (hb0 : pl_b P = 0) (hF : FC P σ0 σ) (hC : MCh P A m t σ.1) (hm : m ≤ 2) (hA : ∀ q, q < m → A q = 14 ∨ A q < pl_n P) (hA2 : ∀ q, A q ≤ 14) (hv : vst P A m t) (hQ : MMQ Q' σ.1) (hQ2 : Q' + 1 < 500000) : ∃ σ', (FC P σ0 σ' ∧ MCh P A m t σ'.1 ∧ MMQ (Q' + 1) σ'.1) ∧ aa_SX mX12_winsNow 30 [.ref 63] σ (some (.int (nI (wv2 P A (gen g) (gtn g) t).toNat))) σ' := by
  have hW := hF.W h.W
  have n14 := h.n14
  have k1 := hQ.ask hQ2 (vZ P A (gen g))
  have hF1 := hF.f (k := 24) (by decide) (nI (Q' + 1))
  have hW1 := hF1.W h.W
  have hC1 : MCh P A m t (aa_sI σ 63 24 (nI (Q' + 1))).1 := ⟨by rw [sI_nk (by decide)]; exact hC.1, by rw [sI_nk (by decide)]; exact hC.2.1, fun k hk => by rw [sI_ne (by decide), sI_ne (by decide), sI_ne (by decide)]; exact hC.2.2 k hk⟩
  have hH : MH P A m (gen g) (aa_sI σ 63 24 (nI (Q' + 1))).1 := ⟨fun k hk => ⟨(hC1.2.2 k hk).1, (hC1.2.2 k hk).2.2⟩, (FC.gg h hF1).2.2⟩
  have t1 := gtn_le g
  have tl := pw_16 n14 hm hv.1
  obtain ⟨σ2, ⟨hF2, hK2⟩, hS2⟩ := m_winWide h.ok hb0 hm hA hA2 hG.2.1 20 t (gtn g) _ (wmu_le h.ok t) hv t1 hW1 hH k1
  have tb : (wv2 P A (gen g) (gtn g) t).toNat ≤ 1 := Bool.toNat_le _
  refine ⟨σ2, ⟨hF1.A hF2, ⟨by rw [hF2.2 63 (by decide)]; exact hC1.1, by rw [hF2.2 63 (by decide)]; exact hC1.2.1, fun k hk => by rw [hF2.2 66 (by decide), hF2.2 67 (by decide), hF2.2 68 (by decide)]; exact hC1.2.2 k hk⟩, hK2.Q⟩, ?_⟩
  refine aa_E_of (by decide) 0 [some (.ref 63)] rfl rfl ?_
  refine aa_go (aa_aload0 iX12_winsNow_0) (aa_go (aa_cVv iX12_winsNow_1 (m_asks hW hQ.1) (by decide) lc_X12_asks lk_X12_189 (sh_63 hW) rfl rfl (Nat.le_of_ble_eq_true rfl)) ?_)
  refine aa_go (aa_aload0 iX12_winsNow_4) (aa_go (aa_aload0 iX12_winsNow_5) (aa_go (aa_getE iX12_winsNow_6 fl_X12_320 (sh_63 hW1) rfl hC1.2.1) (aa_go (aa_aload0 iX12_winsNow_9) (aa_go (aa_getE iX12_winsNow_10 fl_X12_102 (sh_63 hW1) rfl (FC.gg h hF1).2.1) (aa_go (aa_aload0 iX12_winsNow_13) (aa_go (aa_getE iX12_winsNow_14 fl_X12_78 (sh_63 hW1) rfl (FC.nn h hF1)) (aa_go (aa_aload0 iX12_winsNow_17) ?_)))))))
  refine aa_go (aa_getE iX12_winsNow_18 fl_X12_323 (sh_63 hW1) rfl hC1.1) (aa_go (aa_iaddN iX12_winsNow_21 ) (aa_go (aa_cVi iX12_winsNow_22 (hS2) (by decide) lc_X12_winWide lk_X12_317 (sh_63 hW1) rfl rfl (Nat.le_of_ble_eq_true rfl)) (aa_go (aa_iconst iX12_winsNow_25 ki_1) ?_)))
  refine aa_ic_neN iX12_winsNow_26 (by omega) (by omega) (fun g1 => ?_) (fun g1 => ?_)
  · skip
    have e1 : wv2 P A (gen g) (gtn g) t = false := by
      cases q : wv2 P A (gen g) (gtn g) t with
      | false => rfl
      | true => rw [q] at g1; exact absurd rfl g1
    refine aa_go (aa_iconst iX12_winsNow_33 ki_0) ?_
    refine aa_zretF iX12_winsNow_34 rfl ?_
    exact ⟨by rw [e1]; rfl, rfl⟩
  · skip
    have e1 : wv2 P A (gen g) (gtn g) t = true := by
      cases q : wv2 P A (gen g) (gtn g) t with
      | true => rfl
      | false => rw [q] at g1; exact absurd g1 (by decide)
    refine aa_go (aa_iconst iX12_winsNow_29 ki_1) (aa_go (aa_goto iX12_winsNow_30) ?_)
    refine aa_zretT iX12_winsNow_34 rfl ?_
    exact ⟨by rw [e1]; rfl, rfl⟩
end
