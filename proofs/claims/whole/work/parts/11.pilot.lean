section
variable {r : Nat → Nat} {dy : List aa_Shp} {σ : aa_St}
theorem c_X6_things (hW : aa_W r dy σ) : aa_SX mX6_things 1 [.ref 7] σ (some (.int (σ.1 7 13))) σ := by
  refine aa_E_of (by decide) 0 [some (.ref 7)] rfl rfl ?_
  refine aa_go (aa_aload0 iX6_things_0) (aa_go (aa_getI iX6_things_1 fl_X6_52 (sh_7 hW) rfl) ?_)
  refine aa_iret iX6_things_4 rfl ?_
  exact ⟨rfl, rfl⟩
theorem c_X6_backs (hW : aa_W r dy σ) : aa_SX mX6_backs 1 [.ref 7] σ (some (.int (σ.1 7 14))) σ := by
  refine aa_E_of (by decide) 0 [some (.ref 7)] rfl rfl ?_
  refine aa_go (aa_aload0 iX6_backs_0) (aa_go (aa_getI iX6_backs_1 fl_X6_55 (sh_7 hW) rfl) ?_)
  refine aa_iret iX6_backs_4 rfl ?_
  exact ⟨rfl, rfl⟩
theorem c_X6_full (hW : aa_W r dy σ) : aa_SX mX6_full 1 [.ref 7] σ (some (.int ((1 <<< (σ.1 7 13 &&& 31)) - 1))) σ := by
  refine aa_E_of (by decide) 0 [some (.ref 7)] rfl rfl ?_
  refine aa_go (aa_iconst iX6_full_0 ki_1) (aa_go (aa_aload0 iX6_full_1) (aa_go (aa_getI iX6_full_2 fl_X6_52 (sh_7 hW) rfl) (aa_go (aa_ishl iX6_full_5) (aa_go (aa_iconst iX6_full_6 ki_1) (aa_go (aa_isub iX6_full_7) ?_)))))
  refine aa_iret iX6_full_8 rfl ?_
  exact ⟨rfl, rfl⟩
theorem c_X6_has (hW : aa_W r dy σ) (i : Int32) : aa_SX mX6_has 1 [.ref 7, .int i] σ (some (.int (if 0 ≤ i ∧ i < σ.1 7 13 then 1 else 0))) σ := by
  refine aa_E_of (by decide) 0 [some (.ref 7), some (.int i)] rfl rfl ?_
  refine aa_go (aa_iload1 iX6_has_0) ?_
  refine aa_if_lt iX6_has_1 (fun h1 => ?_) (fun h1 => ?_)
  · skip
    refine aa_go (aa_iconst iX6_has_16 ki_0) ?_
    refine aa_zret iX6_has_17 rfl (by decide) ?_
    exact ⟨by rw [if_neg (fun q => absurd h1 (Int32.not_lt.mpr q.1))], rfl⟩
  · skip
    refine aa_go (aa_iload1 iX6_has_4) (aa_go (aa_aload0 iX6_has_5) (aa_go (aa_getI iX6_has_6 fl_X6_52 (sh_7 hW) rfl) ?_))
    refine aa_ic_ge iX6_has_9 (fun h2 => ?_) (fun h2 => ?_)
    · skip
      refine aa_go (aa_iconst iX6_has_16 ki_0) ?_
      refine aa_zret iX6_has_17 rfl (by decide) ?_
      exact ⟨by rw [if_neg (fun q => absurd q.2 (Int32.not_lt.mpr h2))], rfl⟩
    · skip
      refine aa_go (aa_iconst iX6_has_12 ki_1) (aa_go (aa_goto iX6_has_13) ?_)
      refine aa_zret iX6_has_17 rfl (by decide) ?_
      exact ⟨by rw [if_pos ⟨Int32.not_lt.mp h1, Int32.not_le.mp h2⟩], rfl⟩
end
