/-! THE TEXT: read, layOn, append, cut -/
section
variable {r : Nat → Nat} {dy : List aa_Shp} {σ : aa_St} {P : pl_T} {hs : List Nat} {m : tm_T} {ah c : Nat}
theorem c_X7_takes (hW : aa_W r dy σ) (hT : TX (pl_n P) m σ.1) (hTW : TW P m) (hc : c < 256) (g : Bool) (h5 : m.1 = 5 → isD c = true) : ∃ σ' : aa_St, TR (pl_n P) (tmS (pl_n P) c g m) σ σ' ∧ aa_SX mX7_takes 3 [.ref 1, .int (nI c), .int (nI g.toNat)] σ (some (.int (nI (tmS (pl_n P) c g m).isSome.toNat))) σ' := by
  have hq := hTW.1
  have a4 := hT.2.2.2.1
  have on : ∀ d, d < 256 → 3 ≤ m.1 → m.1 ≤ 6 → ∃ σ' : aa_St, TR (pl_n P) (tmO c d m) σ σ' ∧ ((c = d ∧ σ' = aa_sI σ 1 9 (nI 4) ∧ tmO c d m = some (4, m.2)) ∨ (c ≠ d ∧ tmO c d m = tmB c m ∧ aa_SX mX7_takesTail 2 [.ref 1, .int (nI c)] σ (some (.int (nI (tmB c m).isSome.toNat))) σ')) := by
    intro d hd k3 k6
    by_cases e : c = d
    · refine ⟨aa_sI σ 1 9 (nI 4), ⟨FT.rf.s1 (by decide) _, fun m' q => ?_⟩, Or.inl ⟨e, rfl, by rw [tmO, if_pos e]⟩⟩
      rw [tmO, if_pos e] at q
      cases q
      exact hT.next (by decide) (Or.inr ⟨by omega, by omega⟩)
    · obtain ⟨σ', hR, hS⟩ := c_X7_takesTail hW hT hTW k3 k6 hc
      have e0 : tmO c d m = tmB c m := by rw [tmO, if_neg e]
      exact ⟨σ', by rw [e0]; exact hR, Or.inr ⟨e, e0, hS⟩⟩
  rcases (show m.1 = 0 ∨ m.1 = 1 ∨ m.1 = 2 ∨ m.1 = 3 ∨ m.1 = 4 ∨ m.1 = 5 ∨ m.1 = 6 ∨ m.1 = 7 by omega) with hm | hm | hm | hm | hm | hm | hm | hm
  · obtain ⟨σ2, hR, hS⟩ := c_X7_takesWorth hW hT hTW hm hc g
    refine ⟨σ2, hR, ?_⟩
    rw [hm] at a4
    refine aa_E_of (by decide) 0 [some (.ref 1), some (.int (nI c)), some (.int (nI g.toNat))] rfl rfl ?_
    refine aa_go (aa_aload0 iX7_takes_0) (aa_go (aa_getE iX7_takes_1 fl_X7_41 (sh_1 hW) rfl a4) ?_)
    refine aa_go (aa_tsIn (x := nI 0) (off := 44) (tgt := 48) iX7_takes_4 (by decide) (by decide) (by decide) (by decide)) ?_
    refine aa_go (aa_aload0 iX7_takes_48) (aa_go (aa_iload1 iX7_takes_49) (aa_go (aa_cVi iX7_takes_50 (hS) (by decide) lc_X7_takesWorth lk_X7_83 (sh_1 hW) rfl rfl (Nat.le_of_ble_eq_true rfl)) ?_))
    refine aa_zretB iX7_takes_53 rfl ?_
    exact ⟨rfl, rfl⟩
  · have e0 : tmS (pl_n P) c g m = if c = 58 then some (2, m.2) else none := by rw [tmS, hm]; rfl
    refine ⟨aa_sI σ 1 9 (nI 2), ⟨FT.rf.s1 (by decide) _, fun m' q => ?_⟩, ?_⟩
    · rw [e0] at q
      split at q
      · cases q
        exact hT.next (by decide) (Or.inl (Or.inr rfl))
      · simp at q
    rw [e0]
    rw [hm] at a4
    refine aa_E_of (by decide) 0 [some (.ref 1), some (.int (nI c)), some (.int (nI g.toNat))] rfl rfl ?_
    refine aa_go (aa_aload0 iX7_takes_0) (aa_go (aa_getE iX7_takes_1 fl_X7_41 (sh_1 hW) rfl a4) ?_)
    refine aa_go (aa_tsIn (x := nI 1) (off := 50) (tgt := 54) iX7_takes_4 (by decide) (by decide) (by decide) (by decide)) ?_
    refine aa_go (aa_aload0 iX7_takes_54) (aa_go (aa_iconst iX7_takes_55 ki_2) (aa_go (aa_putI iX7_takes_56 fl_X7_41 (fun h => nomatch h) (sh_1 hW) rfl ⟨rfl, rfl⟩) (aa_go (aa_iload1 iX7_takes_59) (aa_go (aa_bipush iX7_takes_60 kb_58) ?_))))
    refine aa_ic_neN iX7_takes_62 (by omega) (by omega) (fun h1 => ?_) (fun h1 => ?_)
    · skip
      refine aa_go (aa_iconst iX7_takes_69 ki_0) ?_
      refine aa_zretF iX7_takes_70 rfl ?_
      exact ⟨by rw [if_neg h1]; rfl, rfl⟩
    · skip
      refine aa_go (aa_iconst iX7_takes_65 ki_1) (aa_go (aa_goto iX7_takes_66) ?_)
      refine aa_zretT iX7_takes_70 rfl ?_
      exact ⟨by rw [if_pos h1]; rfl, rfl⟩
  · obtain ⟨σ2, hR, hS⟩ := c_X7_takesHeirs hW hT hTW hm hc g
    refine ⟨σ2, hR, ?_⟩
    rw [hm] at a4
    refine aa_E_of (by decide) 0 [some (.ref 1), some (.int (nI c)), some (.int (nI g.toNat))] rfl rfl ?_
    refine aa_go (aa_aload0 iX7_takes_0) (aa_go (aa_getE iX7_takes_1 fl_X7_41 (sh_1 hW) rfl a4) ?_)
    refine aa_go (aa_tsIn (x := nI 2) (off := 67) (tgt := 71) iX7_takes_4 (by decide) (by decide) (by decide) (by decide)) ?_
    refine aa_go (aa_aload0 iX7_takes_71) (aa_go (aa_iload1 iX7_takes_72) (aa_go (aa_cVi iX7_takes_73 (hS) (by decide) lc_X7_takesHeirs lk_X7_86 (sh_1 hW) rfl rfl (Nat.le_of_ble_eq_true rfl)) ?_))
    refine aa_zretB iX7_takes_76 rfl ?_
    exact ⟨rfl, rfl⟩
  · obtain ⟨σ2, hR, hS⟩ := on 94 (by omega) (by omega) (by omega)
    have e0 : tmS (pl_n P) c g m = tmO c 94 m := by rw [tmS, hm]; rfl
    rw [e0]
    refine ⟨σ2, hR, ?_⟩
    rw [hm] at a4
    rcases hS with ⟨h1, h2, h3⟩ | ⟨h1, h2, h3⟩
    · rw [h3, h2]
      refine aa_E_of (by decide) 0 [some (.ref 1), some (.int (nI c)), some (.int (nI g.toNat))] rfl rfl ?_
      refine aa_go (aa_aload0 iX7_takes_0) (aa_go (aa_getE iX7_takes_1 fl_X7_41 (sh_1 hW) rfl a4) ?_)
      refine aa_go (aa_tsIn (x := nI 3) (off := 73) (tgt := 77) iX7_takes_4 (by decide) (by decide) (by decide) (by decide)) ?_
      refine aa_go (aa_aload0 iX7_takes_77) (aa_go (aa_iload1 iX7_takes_78) (aa_go (aa_bipush iX7_takes_79 kb_94) (aa_go (aa_cVi iX7_takes_81 (c_X7_takesOnY hW hc (by omega) h1) (by decide) lc_X7_takesOn lk_X7_89 (sh_1 hW) rfl rfl (Nat.le_of_ble_eq_true rfl)) ?_)))
      refine aa_if_neN iX7_takes_84 (by omega) (fun g1 => ?_) (fun g1 => ?_)
      · skip
        refine aa_go (aa_iconst iX7_takes_95 ki_1) (aa_go (aa_goto iX7_takes_96) ?_)
        refine aa_zretT iX7_takes_100 rfl ?_
        exact ⟨rfl, rfl⟩
      · skip
        omega
    · rw [h2]
      refine aa_E_of (by decide) 0 [some (.ref 1), some (.int (nI c)), some (.int (nI g.toNat))] rfl rfl ?_
      refine aa_go (aa_aload0 iX7_takes_0) (aa_go (aa_getE iX7_takes_1 fl_X7_41 (sh_1 hW) rfl a4) ?_)
      refine aa_go (aa_tsIn (x := nI 3) (off := 73) (tgt := 77) iX7_takes_4 (by decide) (by decide) (by decide) (by decide)) ?_
      refine aa_go (aa_aload0 iX7_takes_77) (aa_go (aa_iload1 iX7_takes_78) (aa_go (aa_bipush iX7_takes_79 kb_94) (aa_go (aa_cVi iX7_takes_81 (c_X7_takesOnN hW hc (by omega) h1) (by decide) lc_X7_takesOn lk_X7_89 (sh_1 hW) rfl rfl (Nat.le_of_ble_eq_true rfl)) ?_)))
      refine aa_if_neN iX7_takes_84 (by omega) (fun g1 => ?_) (fun g1 => ?_)
      · skip
        omega
      · skip
        refine aa_go (aa_aload0 iX7_takes_87) (aa_go (aa_iload1 iX7_takes_88) (aa_go (aa_cVi iX7_takes_89 (h3) (by decide) lc_X7_takesTail lk_X7_93 (sh_1 hW) rfl rfl (Nat.le_of_ble_eq_true rfl)) ?_))
        refine aa_if_eqB iX7_takes_92 (fun g2 => ?_) (fun g2 => ?_)
        · skip
          refine aa_go (aa_iconst iX7_takes_99 ki_0) ?_
          refine aa_zretF iX7_takes_100 rfl ?_
          exact ⟨by rw [g2]; rfl, rfl⟩
        · skip
          refine aa_go (aa_iconst iX7_takes_95 ki_1) (aa_go (aa_goto iX7_takes_96) ?_)
          refine aa_zretT iX7_takes_100 rfl ?_
          exact ⟨by rw [g2]; rfl, rfl⟩
  · obtain ⟨σ2, hR, hS⟩ := c_X7_takesFirstDigit hW hT hTW hm hc g
    refine ⟨σ2, hR, ?_⟩
    rw [hm] at a4
    refine aa_E_of (by decide) 0 [some (.ref 1), some (.int (nI c)), some (.int (nI g.toNat))] rfl rfl ?_
    refine aa_go (aa_aload0 iX7_takes_0) (aa_go (aa_getE iX7_takes_1 fl_X7_41 (sh_1 hW) rfl a4) ?_)
    refine aa_go (aa_tsIn (x := nI 4) (off := 97) (tgt := 101) iX7_takes_4 (by decide) (by decide) (by decide) (by decide)) ?_
    refine aa_go (aa_aload0 iX7_takes_101) (aa_go (aa_iload1 iX7_takes_102) (aa_go (aa_iload2 iX7_takes_103) (aa_go (aa_cVi iX7_takes_104 (hS) (by decide) lc_X7_takesFirstDigit lk_X7_96 (sh_1 hW) rfl rfl (Nat.le_of_ble_eq_true rfl)) ?_)))
    refine aa_zretB iX7_takes_107 rfl ?_
    exact ⟨rfl, rfl⟩
  · have dc := isD_iff.mp (h5 hm)
    have nu9 := hTW.2.2.2.1 hm
    have a5 := hT.2.2.2.2.1 hm
    have e0 : tmS (pl_n P) c g m = tmN (pl_n P) (m.2.2.2.2.1 * 10 + c - 48) m := by rw [tmS, hm]; rfl
    obtain ⟨σ2, hR, hS⟩ := c_X7_takesNumber (hW.sI 1 10 (nI (m.2.2.2.2.1 * 10 + c - 48))) (hT.to0.s10 _) hTW (by omega) (by omega) (n := m.2.2.2.2.1 * 10 + c - 48) sI_eq (by omega)
    rw [e0]
    refine ⟨σ2, ⟨(FT.rf.s1 (by decide) _).tr hR.1, hR.2⟩, ?_⟩
    rw [hm] at a4
    refine aa_E_of (by decide) 0 [some (.ref 1), some (.int (nI c)), some (.int (nI g.toNat))] rfl rfl ?_
    refine aa_go (aa_aload0 iX7_takes_0) (aa_go (aa_getE iX7_takes_1 fl_X7_41 (sh_1 hW) rfl a4) ?_)
    refine aa_go (aa_tsIn (x := nI 5) (off := 104) (tgt := 108) iX7_takes_4 (by decide) (by decide) (by decide) (by decide)) ?_
    refine aa_go (aa_aload0 iX7_takes_108) (aa_go (aa_aload0 iX7_takes_109) (aa_go (aa_getE iX7_takes_110 fl_X7_44 (sh_1 hW) rfl a5) (aa_go (aa_bipush iX7_takes_113 kb_10) (aa_go (aa_imulN iX7_takes_115 ) (aa_go (aa_iload1 iX7_takes_116) (aa_go (aa_iaddN iX7_takes_117 ) (aa_go (aa_bipush iX7_takes_118 kb_48) ?_)))))))
    refine aa_go (aa_isubN iX7_takes_120 (by omega)) (aa_go (aa_putI iX7_takes_121 fl_X7_44 (fun h => nomatch h) (sh_1 hW) rfl ⟨rfl, rfl⟩) (aa_go (aa_aload0 iX7_takes_124) (aa_go (aa_cVi iX7_takes_125 (hS) (by decide) lc_X7_takesNumber lk_X7_99 (sh_1 hW) rfl rfl (Nat.le_of_ble_eq_true rfl)) ?_)))
    refine aa_zretB iX7_takes_128 rfl ?_
    exact ⟨rfl, rfl⟩
  · obtain ⟨σ2, hR, hS⟩ := on 44 (by omega) (by omega) (by omega)
    have e0 : tmS (pl_n P) c g m = tmO c 44 m := by rw [tmS, hm]; rfl
    rw [e0]
    refine ⟨σ2, hR, ?_⟩
    rw [hm] at a4
    rcases hS with ⟨h1, h2, h3⟩ | ⟨h1, h2, h3⟩
    · rw [h3, h2]
      refine aa_E_of (by decide) 0 [some (.ref 1), some (.int (nI c)), some (.int (nI g.toNat))] rfl rfl ?_
      refine aa_go (aa_aload0 iX7_takes_0) (aa_go (aa_getE iX7_takes_1 fl_X7_41 (sh_1 hW) rfl a4) ?_)
      refine aa_go (aa_tsIn (x := nI 6) (off := 125) (tgt := 129) iX7_takes_4 (by decide) (by decide) (by decide) (by decide)) ?_
      refine aa_go (aa_aload0 iX7_takes_129) (aa_go (aa_iload1 iX7_takes_130) (aa_go (aa_bipush iX7_takes_131 kb_44) (aa_go (aa_cVi iX7_takes_133 (c_X7_takesOnY hW hc (by omega) h1) (by decide) lc_X7_takesOn lk_X7_89 (sh_1 hW) rfl rfl (Nat.le_of_ble_eq_true rfl)) ?_)))
      refine aa_if_neN iX7_takes_136 (by omega) (fun g1 => ?_) (fun g1 => ?_)
      · skip
        refine aa_go (aa_iconst iX7_takes_147 ki_1) (aa_go (aa_goto iX7_takes_148) ?_)
        refine aa_zretT iX7_takes_152 rfl ?_
        exact ⟨rfl, rfl⟩
      · skip
        omega
    · rw [h2]
      refine aa_E_of (by decide) 0 [some (.ref 1), some (.int (nI c)), some (.int (nI g.toNat))] rfl rfl ?_
      refine aa_go (aa_aload0 iX7_takes_0) (aa_go (aa_getE iX7_takes_1 fl_X7_41 (sh_1 hW) rfl a4) ?_)
      refine aa_go (aa_tsIn (x := nI 6) (off := 125) (tgt := 129) iX7_takes_4 (by decide) (by decide) (by decide) (by decide)) ?_
      refine aa_go (aa_aload0 iX7_takes_129) (aa_go (aa_iload1 iX7_takes_130) (aa_go (aa_bipush iX7_takes_131 kb_44) (aa_go (aa_cVi iX7_takes_133 (c_X7_takesOnN hW hc (by omega) h1) (by decide) lc_X7_takesOn lk_X7_89 (sh_1 hW) rfl rfl (Nat.le_of_ble_eq_true rfl)) ?_)))
      refine aa_if_neN iX7_takes_136 (by omega) (fun g1 => ?_) (fun g1 => ?_)
      · skip
        omega
      · skip
        refine aa_go (aa_aload0 iX7_takes_139) (aa_go (aa_iload1 iX7_takes_140) (aa_go (aa_cVi iX7_takes_141 (h3) (by decide) lc_X7_takesTail lk_X7_93 (sh_1 hW) rfl rfl (Nat.le_of_ble_eq_true rfl)) ?_))
        refine aa_if_eqB iX7_takes_144 (fun g2 => ?_) (fun g2 => ?_)
        · skip
          refine aa_go (aa_iconst iX7_takes_151 ki_0) ?_
          refine aa_zretF iX7_takes_152 rfl ?_
          exact ⟨by rw [g2]; rfl, rfl⟩
        · skip
          refine aa_go (aa_iconst iX7_takes_147 ki_1) (aa_go (aa_goto iX7_takes_148) ?_)
          refine aa_zretT iX7_takes_152 rfl ?_
          exact ⟨by rw [g2]; rfl, rfl⟩
  · have e0 : tmS (pl_n P) c g m = tmE c m := by rw [tmS, hm]; rfl
    obtain ⟨σ2, hR, hS⟩ := c_X7_takesLineEnd hW hT (by omega) hc
    rw [e0]
    refine ⟨σ2, hR, ?_⟩
    rw [hm] at a4
    refine aa_E_of (by decide) 0 [some (.ref 1), some (.int (nI c)), some (.int (nI g.toNat))] rfl rfl ?_
    refine aa_go (aa_aload0 iX7_takes_0) (aa_go (aa_getE iX7_takes_1 fl_X7_41 (sh_1 hW) rfl a4) ?_)
    refine aa_go (aa_tsOut (tgt := 153) iX7_takes_4 ((Or.inr (by decide))) (by decide)) ?_
    refine aa_go (aa_aload0 iX7_takes_153) (aa_go (aa_iload1 iX7_takes_154) (aa_go (aa_cVi iX7_takes_155 (hS) (by decide) lc_X7_takesLineEnd lk_X7_102 (sh_1 hW) rfl rfl (Nat.le_of_ble_eq_true rfl)) ?_))
    refine aa_zretB iX7_takes_158 rfl ?_
    exact ⟨rfl, rfl⟩
theorem c_X7_length (hW : aa_W r dy σ) {n : Nat} (hn : σ.1 1 1 = nI n) : aa_SX mX7_length 1 [.ref 1] σ (some (.int (nI n))) σ := by
  refine aa_E_of (by decide) 0 [some (.ref 1)] rfl rfl ?_
  refine aa_go (aa_aload0 iX7_length_0) (aa_go (aa_getE iX7_length_1 fl_X7_15 (sh_1 hW) rfl hn) ?_)
  refine aa_iret iX7_length_4 rfl ?_
  exact ⟨rfl, rfl⟩
theorem c_X7_cutY (hW : aa_W r dy σ) {n k : Nat} (hn : σ.1 1 1 = nI n) (hk : k ≤ n) (h80 : n ≤ 80) : aa_SX mX7_cut 1 [.ref 1, .int (nI k)] σ (some (.int (nI 1))) (aa_sI σ 1 1 (nI k)) := by
  refine aa_E_of (by decide) 0 [some (.ref 1), some (.int (nI k))] rfl rfl ?_
  refine aa_go (aa_iload1 iX7_cut_0) ?_
  refine aa_go (aa_if_ltN iX7_cut_1 (by omega)) ?_
  refine aa_go (aa_iload1 iX7_cut_4) (aa_go (aa_aload0 iX7_cut_5) (aa_go (aa_getE iX7_cut_6 fl_X7_15 (sh_1 hW) rfl hn) ?_))
  refine aa_ic_leN iX7_cut_9 (by omega) (by omega) (fun h1 => ?_) (fun h1 => ?_)
  · skip
    refine aa_go (aa_aload0 iX7_cut_14) (aa_go (aa_iload1 iX7_cut_15) (aa_go (aa_putI iX7_cut_16 fl_X7_15 (fun h => nomatch h) (sh_1 hW) rfl ⟨rfl, rfl⟩) (aa_go (aa_iconst iX7_cut_19 ki_1) ?_)))
    refine aa_zretT iX7_cut_20 rfl ?_
    exact ⟨rfl, rfl⟩
  · skip
    omega
theorem c_X7_cutN (hW : aa_W r dy σ) {n : Nat} (hn : σ.1 1 1 = nI n) {x : Int32} (hx : x < 0 ∨ nI n < x) : aa_SX mX7_cut 1 [.ref 1, .int x] σ (some (.int (nI 0))) σ := by
  refine aa_E_of (by decide) 0 [some (.ref 1), some (.int (x))] rfl rfl ?_
  refine aa_go (aa_iload1 iX7_cut_0) ?_
  refine aa_if_lt iX7_cut_1 (fun h0 => ?_) (fun h0 => ?_)
  · skip
    refine aa_go (aa_iconst iX7_cut_12 ki_0) ?_
    refine aa_zretF iX7_cut_13 rfl ?_
    exact ⟨rfl, rfl⟩
  · skip
    refine aa_go (aa_iload1 iX7_cut_4) (aa_go (aa_aload0 iX7_cut_5) (aa_go (aa_getE iX7_cut_6 fl_X7_15 (sh_1 hW) rfl hn) ?_))
    refine aa_ic_le iX7_cut_9 (fun h1 => ?_) (fun h1 => ?_)
    · skip
      rcases hx with q | q
      · exact absurd q h0
      · exact absurd q (Int32.not_lt.mpr h1)
    · skip
      refine aa_go (aa_iconst iX7_cut_12 ki_0) ?_
      refine aa_zretF iX7_cut_13 rfl ?_
      exact ⟨rfl, rfl⟩
end
