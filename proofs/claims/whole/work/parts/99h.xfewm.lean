/-! THE REFERENCE: few -/
section
variable {r : Nat → Nat} {dy : List aa_Shp} {P : pl_T} {σ : aa_St}
theorem m_isFew (hW : aa_W r dy σ) (hM : MP P σ.1) {t : Nat} (ht : t < 65536) (he : σ.1 63 10 = nI t) : aa_SX mX12_isFew 2 [.ref 63] σ (some (.int (nI (decide (pl_cn (t &&& 16383) 32 ≤ 8 ∧ pl_b P = 0)).toNat))) σ := by
  have h2 := hM.1.2.1
  obtain ⟨-, a1, a2, a3, -⟩ := id hM
  have al : t &&& 16383 < 65536 := Nat.lt_of_le_of_lt Nat.and_le_left ht
  have cl := cn_le (t &&& 16383) 32
  refine aa_E_of (by decide) 0 [some (.ref 63)] rfl rfl ?_
  refine aa_go (aa_aload0 iX12_isFew_0) (aa_go (aa_getE iX12_isFew_1 fl_X12_99 (sh_63 hW) rfl he) (aa_go (aa_sipush iX12_isFew_4 ks_16383) (aa_go (aa_iandN iX12_isFew_7 ) (aa_go (aa_cSi iX12_isFew_8 (c_bitCount (by omega)) (by decide) lc_J6_bitCount_0f7a4 lk_X12_212 rfl (Nat.le_of_ble_eq_true rfl)) (aa_go (aa_bipush iX12_isFew_11 kb_8) ?_)))))
  refine aa_ic_gtN iX12_isFew_13 (by omega) (by omega) (fun g1 => ?_) (fun g1 => ?_)
  · skip
    refine aa_go (aa_iconst iX12_isFew_27 ki_0) ?_
    refine aa_zretF iX12_isFew_28 rfl ?_
    exact ⟨by rw [decide_eq_false (by omega)]; rfl, rfl⟩
  · skip
    refine aa_go (aa_aload0 iX12_isFew_16) (aa_go (aa_getE iX12_isFew_17 fl_X12_63 (sh_63 hW) rfl a2) ?_)
    refine aa_if_neN iX12_isFew_20 (by omega) (fun g2 => ?_) (fun g2 => ?_)
    · skip
      refine aa_go (aa_iconst iX12_isFew_27 ki_0) ?_
      refine aa_zretF iX12_isFew_28 rfl ?_
      exact ⟨by rw [decide_eq_false (by omega)]; rfl, rfl⟩
    · skip
      refine aa_go (aa_iconst iX12_isFew_23 ki_1) (aa_go (aa_goto iX12_isFew_24) ?_)
      refine aa_zretT iX12_isFew_28 rfl ?_
      exact ⟨by rw [decide_eq_true (by omega)]; rfl, rfl⟩
end
