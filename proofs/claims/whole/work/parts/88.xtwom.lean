/-! THE REFERENCE: the keeper of two -/
section
variable {r : Nat → Nat} {dy : List aa_Shp} {P : pl_T} {Q lk : Nat}
theorem m_two : ∀ f t w o (σ : aa_St), pl_mu P (dv P t) ≤ f → t < 65536 → w ≤ 2 → o ≤ 2 → w ≠ o → aa_W r dy σ → MP P σ.1 → MMK Q (vE P (w + o)) σ.1 →
    ∃ σ' : aa_St, (FrA [74, 75] σ σ' ∧ MMK Q (vE P (w + o)) σ'.1) ∧ aa_SX mX12_keeperOfTwo (6 + f) [.ref 63, .int (nI t), .int (nI w), .int (nI o), .int (nI o)] σ (some (.int (nI (esV P w o (dv P t))))) σ' := by
  intro f
  induction f using Nat.strongRecOn with
  | ind f ih =>
    intro t w o σ hf ht hw ho hwo hW hM hK
    have ok := hM.1
    have pl : w * 65536 + t < 196608 := by omega
    have va := vE_at P (w := w) (o := o) ht
    have B := m_twoB (f := f) (L := o) ht hw ho hwo (by omega) hW hM hK (fun t2 σ2 g1 g2 g4 g5 g6 => by
      have := ih (f - 1) (by omega) t2 o w σ2 (by omega) g2 ho hw (Ne.symm hwo) g4 g5 g6
      rw [show 6 + (f - 1) = 5 + f by omega] at this
      exact this)
    have eL : esL P w o (dv P t) o = esV P w o (dv P t) := by
      rw [esL]
      by_cases c : pl_mv P w (dv P t) = 0
      · rw [if_pos c, esV, es_of ok, if_pos c]; rfl
      · rw [if_neg c]
    rw [eL] at B
    have vle := esV_le (P := P) (s := dv P t) hw ho
    have key : aa_V mX12_keeperOfTwo (6 + f) 0 [some (.ref 63), some (.int (nI t)), some (.int (nI w)), some (.int (nI o)), some (.int (nI o)), none, none, none, none, none] [] σ (fun ra σ' => ra = some (.int (nI (esV P w o (dv P t)))) ∧ FrA [74, 75] σ σ' ∧ MMK Q (vE P (w + o)) σ'.1) := by
      obtain ⟨q, hq1, hq2, hq3⟩ := hK.2.2 (w * 65536 + t) pl
      have hQ := hK.2.1
      obtain ⟨rb, σb, ⟨h1, σ2, h2, h3, h4⟩, hV⟩ := B
      have hx : MMK Q (vE P (w + o)) σb.1 := by
        rw [h4, ← va]; exact h3.set
      have hy : FrA [74, 75] σ σb := by
        rw [h4]; exact (h2.s (by decide) _ _).s (by decide) _ _
      refine aa_go (aa_aload0 iX12_keeperOfTwo_0) (aa_go (aa_iload1 iX12_keeperOfTwo_1) (aa_go (aa_iload2 iX12_keeperOfTwo_2) (aa_go (aa_cVi iX12_keeperOfTwo_3 (m_placeOf hW) (by omega) lc_X12_placeOf lk_X12_177 (sh_63 hW) rfl rfl (Nat.le_of_ble_eq_true rfl)) (aa_go (aa_istore5 iX12_keeperOfTwo_6 rfl (by decide)) (aa_go (aa_aload0 iX12_keeperOfTwo_8) (aa_go (aa_iload5 iX12_keeperOfTwo_9) (aa_go (aa_cVi iX12_keeperOfTwo_11 (m_isKnown hW pl hq2 hK.1 (by omega) (by omega)) (by omega) lc_X12_isKnown lk_X12_180 (sh_63 hW) rfl rfl (Nat.le_of_ble_eq_true rfl)) ?_)))))))
      refine aa_if_eqB iX12_keeperOfTwo_14 (fun g1 => ?_) (fun g1 => ?_)
      · skip
        refine aa_go (aa_iload4 iX12_keeperOfTwo_25) (aa_go (aa_istore6 iX12_keeperOfTwo_27 rfl (by decide)) (aa_go (aa_iconst iX12_keeperOfTwo_29 ki_0) (aa_go (aa_istore7 iX12_keeperOfTwo_30 rfl (by decide)) (aa_go (aa_iconst iX12_keeperOfTwo_32 ki_0) (aa_go (aa_istore8 iX12_keeperOfTwo_33 rfl (by decide)) ?_)))))
        exact ⟨rb, σb, ⟨h1, hy, hx⟩, hV⟩
      · skip
        have hq5 := of_decide_eq_true g1
        have hq4 := hq3 hq5
        rw [va] at hq4
        refine aa_go (aa_aload0 iX12_keeperOfTwo_17) (aa_go (aa_getR iX12_keeperOfTwo_18 fl_X12_174 (sh_63 hW) rfl) (aa_go (aa_iload5 iX12_keeperOfTwo_21) (aa_go (aa_ialE iX12_keeperOfTwo_23 (sh_75 hW) (by omega) (by omega) (hq4)) ?_)))
        refine aa_iret iX12_keeperOfTwo_24 rfl ?_
        exact ⟨rfl, FrA.rf, hK⟩
    obtain ⟨ra, σ', ⟨rfl, h1⟩, hS9⟩ := aa_S_of (avs := [.ref 63, .int (nI t), .int (nI w), .int (nI o), .int (nI o)]) (by decide) 5 [some (.ref 63), some (.int (nI t)), some (.int (nI w)), some (.int (nI o)), some (.int (nI o)), none, none, none, none, none] rfl rfl key
    exact ⟨σ', h1, hS9⟩
theorem m_two0 {f t w o : Nat} {σ : aa_St} (hf : pl_mu P (dv P t) ≤ f) (ht : t < 65536) (hw : w ≤ 2) (ho : o ≤ 2) (hwo : w ≠ o) (hW : aa_W r dy σ) (hM : MP P σ.1) (hK : MMK Q (vE P (w + o)) σ.1) (hfr : FRE Q (w * 65536 + t) σ.1) :
    ∃ σ' : aa_St, (FrA [74, 75] σ σ' ∧ MMQ Q σ'.1) ∧ aa_SX mX12_keeperOfTwo (7 + f) [.ref 63, .int (nI t), .int (nI w), .int (nI o), .int (nI 3)] σ (some (.int (nI (kwo P w o (dv P t))))) σ' := by
  have pl : w * 65536 + t < 196608 := by omega
  have B := m_twoB (f := f + 1) (L := 3) ht hw ho hwo (by omega) hW hM hK (fun t2 σ2 g1 g2 g4 g5 g6 => by
    have := m_two (r := r) (dy := dy) (P := P) (Q := Q) f t2 o w σ2 (by omega) g2 ho hw (Ne.symm hwo) g4 g5 g6
    rw [show 6 + f = 5 + (f + 1) by omega] at this
    exact this)
  rw [show esL P w o (dv P t) 3 = kwo P w o (dv P t) from rfl, show 6 + (f + 1) = 7 + f by omega] at B
  have key : aa_V mX12_keeperOfTwo (7 + f) 0 [some (.ref 63), some (.int (nI t)), some (.int (nI w)), some (.int (nI o)), some (.int (nI 3)), none, none, none, none, none] [] σ (fun ra σ' => ra = some (.int (nI (kwo P w o (dv P t)))) ∧ FrA [74, 75] σ σ' ∧ MMQ Q σ'.1) := by
    obtain ⟨q, hq1, hq2, hq3⟩ := hK.2.2 (w * 65536 + t) pl
    have hQ := hK.2.1
    obtain ⟨rb, σb, ⟨h1, σ2, h2, h3, h4⟩, hV⟩ := B
    have hx : MMQ Q σb.1 := by
      rw [h4]; exact h3.setQ _
    have hy : FrA [74, 75] σ σb := by
      rw [h4]; exact (h2.s (by decide) _ _).s (by decide) _ _
    refine aa_go (aa_aload0 iX12_keeperOfTwo_0) (aa_go (aa_iload1 iX12_keeperOfTwo_1) (aa_go (aa_iload2 iX12_keeperOfTwo_2) (aa_go (aa_cVi iX12_keeperOfTwo_3 (m_placeOf hW) (by omega) lc_X12_placeOf lk_X12_177 (sh_63 hW) rfl rfl (Nat.le_of_ble_eq_true rfl)) (aa_go (aa_istore5 iX12_keeperOfTwo_6 rfl (by decide)) (aa_go (aa_aload0 iX12_keeperOfTwo_8) (aa_go (aa_iload5 iX12_keeperOfTwo_9) (aa_go (aa_cVi iX12_keeperOfTwo_11 (m_isKnown hW pl hq2 hK.1 (by omega) (by omega)) (by omega) lc_X12_isKnown lk_X12_180 (sh_63 hW) rfl rfl (Nat.le_of_ble_eq_true rfl)) ?_)))))))
    refine aa_if_eqB iX12_keeperOfTwo_14 (fun g1 => ?_) (fun g1 => ?_)
    · skip
      refine aa_go (aa_iload4 iX12_keeperOfTwo_25) (aa_go (aa_istore6 iX12_keeperOfTwo_27 rfl (by decide)) (aa_go (aa_iconst iX12_keeperOfTwo_29 ki_0) (aa_go (aa_istore7 iX12_keeperOfTwo_30 rfl (by decide)) (aa_go (aa_iconst iX12_keeperOfTwo_32 ki_0) (aa_go (aa_istore8 iX12_keeperOfTwo_33 rfl (by decide)) ?_)))))
      exact ⟨rb, σb, ⟨h1, hy, hx⟩, hV⟩
    · skip
      have hq5 := of_decide_eq_true g1
      exact absurd (by rw [hq2, hq5]) hfr
  obtain ⟨ra, σ', ⟨rfl, h1⟩, hS9⟩ := aa_S_of (avs := [.ref 63, .int (nI t), .int (nI w), .int (nI o), .int (nI 3)]) (by decide) 5 [some (.ref 63), some (.int (nI t)), some (.int (nI w)), some (.int (nI o)), some (.int (nI 3)), none, none, none, none, none] rfl rfl key
  exact ⟨σ', h1, hS9⟩
end
