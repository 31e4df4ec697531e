/-! THE REFERENCE, PUBLIC METHODS: what was taken -/
section
variable {P P' : pl_T} {tx tx' : Nat → Nat} {n n' : Nat} {g g' : gm_T} {kp kp' : Nat → Option gm_T} {lk lk' tl tl' : Nat} {rw rw' : Nat → Int} {Q Q' : Nat} {r : Nat → Nat} {dy : List aa_Shp} {σ σ' : aa_St}
theorem q_taken (h : MI P tx n g kp lk tl rw Q r dy σ) (hG : GG P g) : ∃ σ', MJ P tx n g kp lk 2 (rw2 (pl_tk P g.2.1 0 g.1) (pl_tk P g.2.1 1 g.1)) Q r dy σ σ' ∧ aa_SX mX12_taken 100 [.ref 63] σ (some (.int (nI (pl_tk P g.2.1 0 g.1 + pl_tk P g.2.1 1 g.1)))) σ' := by
  have h1 := h.thr (nI 0)
  have g18 := hG.2.2
  have ok := h.ok
  have tb0 := pl_tk_le ok g.2.1 0 g.1
  have tb1 := pl_tk_le ok g.2.1 1 g.1
  have loop : ∀ f k (σ1 : aa_St), g.1 - k < f → k ≤ g.1 → FrA [73] (aa_sI σ 63 0 (nI 0)) σ1 → σ1.1 73 0 = nI (pl_tk P g.2.1 0 k) → σ1.1 73 1 = nI (pl_tk P g.2.1 1 k) → aa_V mX12_taken 100 21 [some (.ref 63), some (.int (nI k))] [] σ1 (fun ra σ' => ra = some (.int (nI (pl_tk P g.2.1 0 g.1 + pl_tk P g.2.1 1 g.1))) ∧ MJ P tx n g kp lk 2 (rw2 (pl_tk P g.2.1 0 g.1) (pl_tk P g.2.1 1 g.1)) Q r dy σ σ') := by
    intro f
    induction f with
    | zero => intro k σ1 g1; omega
    | succ f ih =>
      intro k σ1 g1 g2 hF c0 c1
      obtain ⟨h2, s2⟩ := h1.fA (by decide) hF
      refine aa_go (aa_iload1 iX12_taken_21) (aa_go (aa_aload0 iX12_taken_22) (aa_go (aa_getE iX12_taken_23 fl_X12_105 (sh_63 h2.W) rfl h2.G.2.2.2.1) ?_))
      refine aa_ic_geN iX12_taken_26 (by omega) (by omega) (fun g3 => ?_) (fun g3 => ?_)
      · skip
        have e : k = g.1 := by omega
        subst e
        have h3 := h2.t1 (pl_tk P g.2.1 0 g.1)
        have h4 := h2.t2 (pl_tk P g.2.1 0 g.1) (pl_tk P g.2.1 1 g.1)
        have r0 : (aa_sI σ1 63 1 (nI 0)).1 73 0 = nI (pl_tk P g.2.1 0 g.1) := by rw [sI_ne (by decide)]; exact c0
        have r1 : (t1S σ1 (pl_tk P g.2.1 0 g.1)).1 73 1 = nI (pl_tk P g.2.1 1 g.1) := by rw [t1_i (by decide)]; exact c1
        have r2 : (t2S σ1 (pl_tk P g.2.1 0 g.1) (pl_tk P g.2.1 1 g.1)).1 73 0 = nI (pl_tk P g.2.1 0 g.1) := by rw [t2_i (by decide)]; exact c0
        have r3 : (t2S σ1 (pl_tk P g.2.1 0 g.1) (pl_tk P g.2.1 1 g.1)).1 73 1 = nI (pl_tk P g.2.1 1 g.1) := by rw [t2_i (by decide)]; exact c1
        refine aa_go (aa_aload0 iX12_taken_72) (aa_go (aa_iconst iX12_taken_73 ki_0) (aa_go (aa_putI iX12_taken_74 fl_X12_11 (fun h => nomatch h) (sh_63 h2.W) rfl ⟨rfl, rfl⟩) ?_))
        refine aa_go (aa_aload0 iX12_taken_77) (aa_go (aa_aload0 iX12_taken_78) (aa_go (aa_getR iX12_taken_79 fl_X12_157 (sh_63 h2.W) rfl) (aa_go (aa_iconst iX12_taken_82 ki_0) (aa_go (aa_ialE iX12_taken_83 (sh_73 h2.W) (by omega) (by omega) (r0)) (aa_go (aa_i2lN iX12_taken_84 (by omega)) ?_)))))
        refine aa_go (aa_topl (y := lZ (pl_tk P g.2.1 0 g.1)) (by rw [lZ_N])) ?_
        refine aa_go (aa_cVv iX12_taken_85 (h2.e0 _) (by decide) lc_X12_enters lk_X12_163 (sh_63 h2.W) rfl rfl (Nat.le_of_ble_eq_true rfl)) ?_
        refine aa_go (aa_aload0 iX12_taken_88) (aa_go (aa_aload0 iX12_taken_89) (aa_go (aa_getR iX12_taken_90 fl_X12_157 (sh_63 h3.W) rfl) (aa_go (aa_iconst iX12_taken_93 ki_1) (aa_go (aa_ialE iX12_taken_94 (sh_73 h3.W) (by omega) (by omega) (r1)) (aa_go (aa_i2lN iX12_taken_95 (by omega)) ?_)))))
        refine aa_go (aa_topl (y := lZ (pl_tk P g.2.1 1 g.1)) (by rw [lZ_N])) ?_
        refine aa_go (aa_cVv iX12_taken_96 (h2.e1 _ _) (by decide) lc_X12_enters lk_X12_163 (sh_63 h3.W) rfl rfl (Nat.le_of_ble_eq_true rfl)) ?_
        refine aa_go (aa_aload0 iX12_taken_99) (aa_go (aa_getR iX12_taken_100 fl_X12_157 (sh_63 h4.W) rfl) (aa_go (aa_iconst iX12_taken_103 ki_0) (aa_go (aa_ialE iX12_taken_104 (sh_73 h4.W) (by omega) (by omega) (r2)) (aa_go (aa_aload0 iX12_taken_105) (aa_go (aa_getR iX12_taken_106 fl_X12_157 (sh_63 h4.W) rfl) (aa_go (aa_iconst iX12_taken_109 ki_1) (aa_go (aa_ialE iX12_taken_110 (sh_73 h4.W) (by omega) (by omega) (r3)) ?_)))))))
        refine aa_go (aa_iaddN iX12_taken_111 ) ?_
        refine aa_iret iX12_taken_112 rfl ?_
        exact ⟨rfl, h4.J (by omega) (((MF.rf.s (by decide) _ _).tr s2.F).t2 _ _)⟩
      · skip
        obtain ⟨x1, x2, x3, x4⟩ := gg_stp ok hG g3
        have hO := m_worthOf h2.W h2.M (t := cv P (g.2.1 k)) (cv_lt _) x2 x1
        rw [x3, x4] at hO
        have tn : (gtn g + g.1 - k) % 2 = k % 2 := by unfold gtn; omega
        have b5 := h2.G.2.2.2.2 k g3
        have t1 := gtn_le g
        refine aa_go (aa_aload0 iX12_taken_29) (aa_go (aa_getR iX12_taken_30 fl_X12_157 (sh_63 h2.W) rfl) (aa_go (aa_aload0 iX12_taken_33) (aa_go (aa_getE iX12_taken_34 fl_X12_102 (sh_63 h2.W) rfl h2.G.2.1) (aa_go (aa_aload0 iX12_taken_37) (aa_go (aa_getE iX12_taken_38 fl_X12_105 (sh_63 h2.W) rfl h2.G.2.2.2.1) (aa_go (aa_iaddN iX12_taken_41 ) (aa_go (aa_iload1 iX12_taken_42) ?_)))))))
        refine aa_go (aa_isubN iX12_taken_43 (by omega)) (aa_go (aa_iconst iX12_taken_44 ki_2) (aa_go (aa_iremN iX12_taken_45 (by omega) (by omega) (by omega)) ?_))
        refine aa_go (aa_top (y := nI (k % 2)) (by rw [tn])) ?_
        rcases (show k % 2 = 0 ∨ k % 2 = 1 by omega) with e | e
        · rw [e]
          refine aa_go (aa_dup2 iX12_taken_46 rfl rfl) (aa_go (aa_ialE iX12_taken_47 (sh_73 h2.W) (by omega) (by omega) (c0)) (aa_go (aa_aload0 iX12_taken_48) (aa_go (aa_aload0 iX12_taken_49) (aa_go (aa_getR iX12_taken_50 fl_X12_152 (sh_63 h2.W) rfl) (aa_go (aa_iload1 iX12_taken_53) (aa_go (aa_ialE iX12_taken_54 (sh_71 h2.W) (by omega) (by omega) (b5.2)) (aa_go (aa_aload0 iX12_taken_55) ?_)))))))
          refine aa_go (aa_getR iX12_taken_56 fl_X12_149 (sh_63 h2.W) rfl) (aa_go (aa_iload1 iX12_taken_59) (aa_go (aa_ialE iX12_taken_60 (sh_70 h2.W) (by omega) (by omega) (b5.1)) (aa_go (aa_cVi iX12_taken_61 (hO) (by decide) lc_X12_worthOf lk_X12_160 (sh_63 h2.W) rfl rfl (Nat.le_of_ble_eq_true rfl)) (aa_go (aa_iaddN iX12_taken_64 ) (aa_go (aa_iasN iX12_taken_65 (sh_73 h2.W) (by omega) (by omega)) (aa_go (aa_iincN1 (k := 1) iX12_taken_66 rfl (by decide)) (aa_go (aa_goto iX12_taken_69) ?_)))))))
          refine ih (k + 1) _ (by omega) (by omega) (hF.s (by decide) _ _) ?_ ?_
          · rw [sI_eq, pl_tk, if_pos e]
          · rw [sI_nk (by decide), pl_tk, if_neg (by omega)]; exact c1
        · rw [e]
          refine aa_go (aa_dup2 iX12_taken_46 rfl rfl) (aa_go (aa_ialE iX12_taken_47 (sh_73 h2.W) (by omega) (by omega) (c1)) (aa_go (aa_aload0 iX12_taken_48) (aa_go (aa_aload0 iX12_taken_49) (aa_go (aa_getR iX12_taken_50 fl_X12_152 (sh_63 h2.W) rfl) (aa_go (aa_iload1 iX12_taken_53) (aa_go (aa_ialE iX12_taken_54 (sh_71 h2.W) (by omega) (by omega) (b5.2)) (aa_go (aa_aload0 iX12_taken_55) ?_)))))))
          refine aa_go (aa_getR iX12_taken_56 fl_X12_149 (sh_63 h2.W) rfl) (aa_go (aa_iload1 iX12_taken_59) (aa_go (aa_ialE iX12_taken_60 (sh_70 h2.W) (by omega) (by omega) (b5.1)) (aa_go (aa_cVi iX12_taken_61 (hO) (by decide) lc_X12_worthOf lk_X12_160 (sh_63 h2.W) rfl rfl (Nat.le_of_ble_eq_true rfl)) (aa_go (aa_iaddN iX12_taken_64 ) (aa_go (aa_iasN iX12_taken_65 (sh_73 h2.W) (by omega) (by omega)) (aa_go (aa_iincN1 (k := 1) iX12_taken_66 rfl (by decide)) (aa_go (aa_goto iX12_taken_69) ?_)))))))
          refine ih (k + 1) _ (by omega) (by omega) (hF.s (by decide) _ _) ?_ ?_
          · rw [sI_nk (by decide), pl_tk, if_neg (by omega)]; exact c0
          · rw [sI_eq, pl_tk, if_pos e]
  have key : aa_V mX12_taken 100 0 [some (.ref 63), none] [] σ (fun ra σ' => ra = some (.int (nI (pl_tk P g.2.1 0 g.1 + pl_tk P g.2.1 1 g.1))) ∧ MJ P tx n g kp lk 2 (rw2 (pl_tk P g.2.1 0 g.1) (pl_tk P g.2.1 1 g.1)) Q r dy σ σ') := by
    refine aa_go (aa_aload0 iX12_taken_0) (aa_go (aa_iconst iX12_taken_1 ki_0) (aa_go (aa_putI iX12_taken_2 fl_X12_3 (fun h => nomatch h) (sh_63 h.W) rfl ⟨rfl, rfl⟩) ?_))
    refine aa_go (aa_aload0 iX12_taken_5) (aa_go (aa_getR iX12_taken_6 fl_X12_157 (sh_63 h1.W) rfl) (aa_go (aa_iconst iX12_taken_9 ki_0) (aa_go (aa_iconst iX12_taken_10 ki_0) (aa_go (aa_iasN iX12_taken_11 (sh_73 h1.W) (by omega) (by omega)) (aa_go (aa_aload0 iX12_taken_12) (aa_go (aa_getR iX12_taken_13 fl_X12_157 (sh_63 h1.W) rfl) (aa_go (aa_iconst iX12_taken_16 ki_1) ?_)))))))
    refine aa_go (aa_iconst iX12_taken_17 ki_0) (aa_go (aa_iasN iX12_taken_18 (sh_73 h1.W) (by omega) (by omega)) (aa_go (aa_iconst iX12_taken_19 ki_0) (aa_go (aa_istore1 iX12_taken_20 rfl (by decide)) ?_)))
    exact loop (g.1 + 1) 0 _ (by omega) (by omega) ((FrA.rf.s (by decide) _ _).s (by decide) _ _) (by rw [sI_nk (by decide), sI_eq]; rfl) (by rw [sI_eq]; rfl)
  obtain ⟨ra, σ', ⟨rfl, h9⟩, hS9⟩ := aa_S_of (avs := [.ref 63]) (by decide) 1 [some (.ref 63), none] rfl rfl key
  exact ⟨σ', h9, hS9⟩
end
