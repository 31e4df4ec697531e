/-! THE REFERENCE: moves (tempo) -/
def vT (P : pl_T) (most : Bool) (w p : Nat) : Int32 := nI (tv P most w (dv P p))
section
variable {r : Nat → Nat} {dy : List aa_Shp} {P : pl_T} {Q : Nat}
theorem m_moves {most : Bool} {w : Nat} (hw : w ≤ 2) : ∀ f t (σ : aa_St), pl_mu P (dv P t) ≤ f → t < 65536 → aa_W r dy σ → MP P σ.1 → MMK Q (vT P most w) σ.1 →
    ∃ σ' : aa_St, (FrA [74, 75] σ σ' ∧ MMK Q (vT P most w) σ'.1) ∧ aa_SX mX12_moves (5 + f) [.ref 63, .int (nI t), .int (nI w), .int (nI most.toNat)] σ (some (.int (nI (tv P most w (dv P t))))) σ' := by
  intro f
  induction f using Nat.strongRecOn with
  | ind f ih =>
    intro t σ hf ht hW hM hK
    have ok := hM.1
    have h14 := ok.1
    have pl : t < 196608 := by omega
    have vle := tv_le (P := P) most w (dv P t)
    have loop : ∀ d m (σ1 : aa_St) (x4 : Int32) y6, 14 - m < d → m ≤ 14 → FrA [74, 75] σ σ1 → MMK Q (vT P most w) σ1.1 → ((∀ j, j < m → j < pl_n P → pl_lg P w (dv P t) j = false) ∧ x4 = iZ (-1) ∨ (∃ j, j < pl_n P ∧ pl_lg P w (dv P t) j = true) ∧ ∃ x, x4 = nI x ∧ x ≤ 33 ∧ (most = true → x ≤ tv P most w (dv P t) ∧ ∀ j, j < m → j < pl_n P → pl_lg P w (dv P t) j = true → 1 + tv P most w (pl_nx P (dv P t) j) ≤ x) ∧ (most = false → tv P most w (dv P t) ≤ x ∧ ∀ j, j < m → j < pl_n P → pl_lg P w (dv P t) j = true → x ≤ 1 + tv P most w (pl_nx P (dv P t) j))) → aa_V mX12_moves (5 + f) 21 [some (.ref 63), some (.int (nI t)), some (.int (nI w)), some (.int (nI most.toNat)), some (.int x4), some (.int (nI m)), y6] [] σ1 (fun ra σ' => ra = some (.int (nI (tv P most w (dv P t)))) ∧ FrA [74, 75] σ σ' ∧ MMK Q (vT P most w) σ'.1) := by
      intro d
      induction d with
      | zero => intro m σ1 x4 y6 g1; omega
      | succ d ihd =>
        intro m σ1 x4 y6 g1 g2 hF hK1 hab
        have hW1 := hF.W hW
        have hM1 := hM.fm hF
        refine aa_go (aa_iload5 iX12_moves_21) (aa_go (aa_bipush iX12_moves_23 kb_14) ?_)
        refine aa_ic_geN iX12_moves_25 (by omega) (by omega) (fun g3 => ?_) (fun g3 => ?_)
        · skip
          have em : m = 14 := by omega
          subst em
          have ev : (if nI 0 < x4 then x4 else nI 0) = nI (tv P most w (dv P t)) := by
            rcases hab with ⟨h1, h2⟩ | ⟨⟨k, hk, hl⟩, x, h2, h3, h4, h5⟩
            · rw [h2, if_neg (by decide), tv_0 most (fun j hj => h1 j (by omega) hj)]
            · have hx : x = tv P most w (dv P t) := by
                obtain ⟨j, a, b, c⟩ := tv_ex ok most hk hl
                cases most with
                | true =>
                  obtain ⟨q1, q2⟩ := h4 rfl
                  have := q2 j (by omega) a b
                  omega
                | false =>
                  obtain ⟨q1, q2⟩ := h5 rfl
                  have := q2 j (by omega) a b
                  omega
              rw [h2, hx]
              split
              · rfl
              · next q =>
                have : ¬ 0 < tv P most w (dv P t) := fun q2 => q (nI_lt q2 (by omega))
                congr 1; omega
          have hS := m_keeps hW1 pl hK1.1 (vT P most w t)
          refine aa_go (aa_aload0 iX12_moves_97) (aa_go (aa_iload1 iX12_moves_98) (aa_go (aa_iconst iX12_moves_99 ki_0) (aa_go (aa_iload4 iX12_moves_100) ?_)))
          refine aa_go (aa_mmax iX12_moves_102 (by omega) lk_X12_129 (Nat.le_of_ble_eq_true rfl)) ?_
          refine aa_go (aa_top (y := nI (tv P most w (dv P t))) (ev)) ?_
          refine aa_go (aa_cVi iX12_moves_105 (hS) (by omega) lc_X12_keeps lk_X12_186 (sh_63 hW1) rfl rfl (Nat.le_of_ble_eq_true rfl)) ?_
          refine aa_iret iX12_moves_108 rfl ?_
          exact ⟨rfl, (hF.s (by decide) _ _).s (by decide) _ _, hK1.set⟩
        · skip
          refine aa_go (aa_aload0 iX12_moves_28) (aa_go (aa_iload1 iX12_moves_29) (aa_go (aa_iload2 iX12_moves_30) (aa_go (aa_iload5 iX12_moves_31) (aa_go (aa_cVi iX12_moves_33 (m_can hW1 hM1 ht (by omega) (by omega)) (by omega) lc_X12_can lk_X12_140 (sh_63 hW1) rfl rfl (Nat.le_of_ble_eq_true rfl)) ?_))))
          have cl := cnM_lo ok (w := w) (t := t) g3
          refine aa_if_eqB iX12_moves_36 (fun g5 => ?_) (fun g5 => ?_)
          · skip
            rw [g5] at cl
            have nl : ∀ j, j < m + 1 → j < pl_n P → pl_lg P w (dv P t) j = true → j < m := by
              intro j a b c
              by_cases e : j = m
              · subst e; rw [decide_eq_true b, c] at cl; simp at cl
              · omega
            refine aa_go (aa_iincN5 (k := 1) iX12_moves_91 rfl (by decide)) (aa_go (aa_goto iX12_moves_94) ?_)
            refine ihd (m + 1) σ1 x4 _ (by omega) (by omega) hF hK1 ?_
            rcases hab with ⟨h1, h2⟩ | ⟨h1, x, h2, h3, h4, h5⟩
            · refine Or.inl ⟨fun j a b => ?_, h2⟩
              cases c : pl_lg P w (dv P t) j with
              | false => rfl
              | true => rw [h1 j (nl j a b c) b] at c; exact c.symm
            · exact Or.inr ⟨h1, x, h2, h3, fun q => ⟨(h4 q).1, fun j a b c => (h4 q).2 j (nl j a b c) b c⟩, fun q => ⟨(h5 q).1, fun j a b c => (h5 q).2 j (nl j a b c) b c⟩⟩
          · skip
            rw [g5] at cl
            have cl := cl.symm
            rw [Bool.and_eq_true, decide_eq_true_eq] at cl
            obtain ⟨mn, lg⟩ := cl
            have hj : pl_sp P m = some m := sp_lo mn
            have mu := pl_mu_lt ok lg
            have al := af_lt ok ht (show m < 28 by omega)
            have da := dv_af (t := t) ok hj
            obtain ⟨σ2, ⟨hF2, hK2⟩, hS2⟩ := ih (f - 1) (by omega) (af P t m) σ1 (by rw [da]; omega) al hW1 hM1 hK1
            rw [da] at hS2
            have hW2 := hF2.W hW1
            have vl2 := tv_le (P := P) most w (pl_nx P (dv P t) m)
            have bm1 : most = true → 1 + tv P most w (pl_nx P (dv P t) m) ≤ tv P most w (dv P t) := fun q => by subst q; exact (tv_most ok mn lg).1
            have bf1 : most = false → tv P most w (dv P t) ≤ 1 + tv P most w (pl_nx P (dv P t) m) := fun q => by subst q; exact (tv_few ok mn lg).1
            have yes : ((∀ j, j < m → j < pl_n P → pl_lg P w (dv P t) j = true → (most = true → 1 + tv P most w (pl_nx P (dv P t) j) ≤ 1 + tv P most w (pl_nx P (dv P t) m)) ∧ (most = false → 1 + tv P most w (pl_nx P (dv P t) m) ≤ 1 + tv P most w (pl_nx P (dv P t) j)))) → aa_V mX12_moves (5 + f) 21 [some (.ref 63), some (.int (nI t)), some (.int (nI w)), some (.int (nI most.toNat)), some (.int (nI (1 + tv P most w (pl_nx P (dv P t) m)))), some (.int (nI (m + 1))), some (.int (nI (1 + tv P most w (pl_nx P (dv P t) m))))] [] σ2 (fun ra σ' => ra = some (.int (nI (tv P most w (dv P t)))) ∧ FrA [74, 75] σ σ' ∧ MMK Q (vT P most w) σ'.1) := by
              intro hy
              refine ihd (m + 1) σ2 _ _ (by omega) (by omega) (hF.tr hF2) hK2 (Or.inr ⟨⟨m, mn, lg⟩, _, rfl, by omega, fun q => ⟨bm1 q, fun j a b c => ?_⟩, fun q => ⟨bf1 q, fun j a b c => ?_⟩⟩)
              · by_cases e : j = m
                · subst e; exact Nat.le_refl _
                · exact (hy j (by omega) b c).1 q
              · by_cases e : j = m
                · subst e; exact Nat.le_refl _
                · exact (hy j (by omega) b c).2 q
            have t56 : aa_V mX12_moves (5 + f) 56 [some (.ref 63), some (.int (nI t)), some (.int (nI w)), some (.int (nI most.toNat)), some (.int x4), some (.int (nI m)), some (.int (nI (1 + tv P most w (pl_nx P (dv P t) m))))] [] σ2 (fun ra σ' => ra = some (.int (nI (tv P most w (dv P t)))) ∧ FrA [74, 75] σ σ' ∧ MMK Q (vT P most w) σ'.1) := by
              rcases hab with ⟨h1, h2⟩ | ⟨h1, x, h2, h3, h4, h5⟩
              · skip
                subst h2
                have ys := yes (fun j a b c => by rw [h1 j a b] at c; simp at c)
                refine aa_go (aa_iload4 iX12_moves_56) ?_
                refine aa_if_lt iX12_moves_58 (fun g6 => ?_) (fun g6 => ?_)
                · skip
                  refine aa_go (aa_iload6 iX12_moves_82) (aa_go (aa_goto iX12_moves_84) (aa_go (aa_istore4 iX12_moves_89 rfl (by decide)) (aa_go (aa_iincN5 (k := 1) iX12_moves_91 rfl (by decide)) (aa_go (aa_goto iX12_moves_94) ?_))))
                  exact ys
                · skip
                  exact absurd (show iZ (-1) < 0 by decide) g6
              · skip
                subst h2
                have no : ((most = true → 1 + tv P most w (pl_nx P (dv P t) m) ≤ x) ∧ (most = false → x ≤ 1 + tv P most w (pl_nx P (dv P t) m))) → aa_V mX12_moves (5 + f) 21 [some (.ref 63), some (.int (nI t)), some (.int (nI w)), some (.int (nI most.toNat)), some (.int (nI x)), some (.int (nI (m + 1))), some (.int (nI (1 + tv P most w (pl_nx P (dv P t) m))))] [] σ2 (fun ra σ' => ra = some (.int (nI (tv P most w (dv P t)))) ∧ FrA [74, 75] σ σ' ∧ MMK Q (vT P most w) σ'.1) := by
                  intro hn
                  refine ihd (m + 1) σ2 _ _ (by omega) (by omega) (hF.tr hF2) hK2 (Or.inr ⟨⟨m, mn, lg⟩, x, rfl, h3, fun q => ⟨(h4 q).1, fun j a b c => ?_⟩, fun q => ⟨(h5 q).1, fun j a b c => ?_⟩⟩)
                  · by_cases e : j = m
                    · subst e; exact hn.1 q
                    · exact (h4 q).2 j (by omega) b c
                  · by_cases e : j = m
                    · subst e; exact hn.2 q
                    · exact (h5 q).2 j (by omega) b c
                refine aa_go (aa_iload4 iX12_moves_56) ?_
                refine aa_go (aa_if_ltN iX12_moves_58 (by omega)) ?_
                refine aa_go (aa_iload3 iX12_moves_61) ?_
                refine aa_if_eqB iX12_moves_62 (fun g6 => ?_) (fun g6 => ?_)
                · skip
                  refine aa_go (aa_iload6 iX12_moves_75) (aa_go (aa_iload4 iX12_moves_77) ?_)
                  refine aa_ic_geN iX12_moves_79 (by omega) (by omega) (fun g7 => ?_) (fun g7 => ?_)
                  · skip
                    refine aa_go (aa_iload4 iX12_moves_87) (aa_go (aa_istore4 iX12_moves_89 rfl (by decide)) (aa_go (aa_iincN5 (k := 1) iX12_moves_91 rfl (by decide)) (aa_go (aa_goto iX12_moves_94) ?_)))
                    exact no ⟨fun q => by rw [g6] at q; simp at q, fun _ => g7⟩
                  · skip
                    refine aa_go (aa_iload6 iX12_moves_82) (aa_go (aa_goto iX12_moves_84) (aa_go (aa_istore4 iX12_moves_89 rfl (by decide)) (aa_go (aa_iincN5 (k := 1) iX12_moves_91 rfl (by decide)) (aa_go (aa_goto iX12_moves_94) ?_))))
                    refine yes (fun j a b c => ⟨fun q => by rw [g6] at q; simp at q, fun q => ?_⟩)
                    have := (h5 q).2 j a b c
                    omega
                · skip
                  refine aa_go (aa_iload6 iX12_moves_65) (aa_go (aa_iload4 iX12_moves_67) ?_)
                  refine aa_ic_leN iX12_moves_69 (by omega) (by omega) (fun g7 => ?_) (fun g7 => ?_)
                  · skip
                    refine aa_go (aa_iload4 iX12_moves_87) (aa_go (aa_istore4 iX12_moves_89 rfl (by decide)) (aa_go (aa_iincN5 (k := 1) iX12_moves_91 rfl (by decide)) (aa_go (aa_goto iX12_moves_94) ?_)))
                    exact no ⟨fun _ => g7, fun q => by rw [g6] at q; simp at q⟩
                  · skip
                    refine aa_go (aa_goto iX12_moves_72) (aa_go (aa_iload6 iX12_moves_82) (aa_go (aa_goto iX12_moves_84) (aa_go (aa_istore4 iX12_moves_89 rfl (by decide)) (aa_go (aa_iincN5 (k := 1) iX12_moves_91 rfl (by decide)) (aa_go (aa_goto iX12_moves_94) ?_)))))
                    refine yes (fun j a b c => ⟨fun q => ?_, fun q => by rw [g6] at q; simp at q⟩)
                    have := (h4 q).2 j a b c
                    omega
            refine aa_go (aa_iconst iX12_moves_39 ki_1) (aa_go (aa_aload0 iX12_moves_40) (aa_go (aa_aload0 iX12_moves_41) (aa_go (aa_iload1 iX12_moves_42) (aa_go (aa_iload5 iX12_moves_43) (aa_go (aa_cVi iX12_moves_45 (m_after hW1 hM1 (by omega) hj) (by omega) lc_X12_after lk_X12_137 (sh_63 hW1) rfl rfl (Nat.le_of_ble_eq_true rfl)) (aa_go (aa_iload2 iX12_moves_48) (aa_go (aa_iload3 iX12_moves_49) ?_)))))))
            refine aa_go (aa_cVi iX12_moves_50 (hS2) (by omega) lc_X12_moves lk_X12_220 (sh_63 hW1) rfl rfl (Nat.le_of_ble_eq_true rfl)) (aa_go (aa_iaddN iX12_moves_53 ) (aa_go (aa_istore6 iX12_moves_54 rfl (by decide)) ?_))
            exact t56
    have key : aa_V mX12_moves (5 + f) 0 [some (.ref 63), some (.int (nI t)), some (.int (nI w)), some (.int (nI most.toNat)), none, none, none] [] σ (fun ra σ' => ra = some (.int (nI (tv P most w (dv P t)))) ∧ FrA [74, 75] σ σ' ∧ MMK Q (vT P most w) σ'.1) := by
      obtain ⟨q, hq1, hq2, hq3⟩ := hK.2.2 t pl
      have hQ := hK.2.1
      refine aa_go (aa_aload0 iX12_moves_0) (aa_go (aa_iload1 iX12_moves_1) (aa_go (aa_cVi iX12_moves_2 (m_isKnown hW pl hq2 hK.1 (by omega) (by omega)) (by omega) lc_X12_isKnown lk_X12_180 (sh_63 hW) rfl rfl (Nat.le_of_ble_eq_true rfl)) ?_))
      refine aa_if_eqB iX12_moves_5 (fun g1 => ?_) (fun g1 => ?_)
      · skip
        refine aa_go (aa_iconst iX12_moves_15 ki_m1) (aa_go (aa_istore4 iX12_moves_16 rfl (by decide)) (aa_go (aa_iconst iX12_moves_18 ki_0) (aa_go (aa_istore5 iX12_moves_19 rfl (by decide)) ?_)))
        exact loop 15 0 σ (iZ (-1)) none (by omega) (by omega) FrA.rf hK (Or.inl ⟨fun j hj => by omega, rfl⟩)
      · skip
        have hq5 := of_decide_eq_true g1
        have hq4 : σ.1 75 t = nI (tv P most w (dv P t)) := hq3 hq5
        refine aa_go (aa_aload0 iX12_moves_8) (aa_go (aa_getR iX12_moves_9 fl_X12_174 (sh_63 hW) rfl) (aa_go (aa_iload1 iX12_moves_12) (aa_go (aa_ialE iX12_moves_13 (sh_75 hW) (by omega) (by omega) (hq4)) ?_)))
        refine aa_iret iX12_moves_14 rfl ?_
        exact ⟨rfl, FrA.rf, hK⟩
    obtain ⟨ra, σ', ⟨rfl, h1⟩, hS9⟩ := aa_S_of (avs := [.ref 63, .int (nI t), .int (nI w), .int (nI most.toNat)]) (by decide) 3 [some (.ref 63), some (.int (nI t)), some (.int (nI w)), some (.int (nI most.toNat)), none, none, none] rfl rfl key
    exact ⟨σ', h1, hS9⟩
end
