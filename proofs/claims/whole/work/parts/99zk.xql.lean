/-! THE REFERENCE, PUBLIC METHODS: change, single -/
section
variable {P P' : pl_T} {tx tx' : Nat → Nat} {n n' : Nat} {g g' : gm_T} {kp kp' : Nat → Option gm_T} {lk lk' tl tl' : Nat} {rw rw' : Nat → Int} {Q Q' : Nat} {r : Nat → Nat} {dy : List aa_Shp} {σ σ' : aa_St}
theorem m_few (h : MI P tx n g kp lk tl rw Q r dy σ) : aa_SX mX12_isFew 2 [.ref 63] σ (some (.int (nI (!decide (8 < pl_cn (gth P g) 14 ∨ 0 < pl_b P)).toNat))) σ := by
  have := m_isFew h.W h.M (cv_lt _) h.G.1
  rw [gth_and h.ok, gth_14 h.ok] at this
  have e : (!decide (8 < pl_cn (gth P g) 14 ∨ 0 < pl_b P)) = decide (pl_cn (gth P g) 14 ≤ 8 ∧ pl_b P = 0) := by
    rw [← decide_not, decide_eq_decide]; omega
  rw [e]; exact this
theorem q_changeT (h : MI P tx n g kp lk tl rw Q r dy σ) (hc : 8 < pl_cn (gth P g) 14 ∨ 0 < pl_b P) : ∃ σ', MJ P tx n g kp lk tl rw Q r dy σ σ' ∧ aa_SX mX12_change 100 [.ref 63] σ (some (.int (-3))) σ' := by
  have h1 := h.thr (nI 0)
  have hS := m_few h1
  rw [decide_eq_true hc] at hS
  refine ⟨_, h.JB, ?_⟩
  refine aa_E_of (by decide) 3 [some (.ref 63), none, none, none] rfl rfl ?_
  refine aa_go (aa_aload0 iX12_change_0) (aa_go (aa_iconst iX12_change_1 ki_0) (aa_go (aa_putI iX12_change_2 fl_X12_3 (fun h => nomatch h) (sh_63 h.W) rfl ⟨rfl, rfl⟩) ?_))
  refine aa_go (aa_aload0 iX12_change_5) (aa_go (aa_cVi iX12_change_6 (hS) (by decide) lc_X12_isFew lk_X12_344 (sh_63 h1.W) rfl rfl (Nat.le_of_ble_eq_true rfl)) ?_)
  refine aa_go (aa_if_neF iX12_change_9 (by decide)) ?_
  refine aa_go (aa_bipush iX12_change_12 kb_m3) ?_
  refine aa_iret iX12_change_14 rfl ?_
  exact ⟨rfl, rfl⟩
theorem q_singleT (h : MI P tx n g kp lk tl rw Q r dy σ) (hc : 8 < pl_cn (gth P g) 14 ∨ 0 < pl_b P) : ∃ σ', MJ P tx n g kp lk tl rw Q r dy σ σ' ∧ aa_SX mX12_single 100 [.ref 63] σ (some (.int (-3))) σ' := by
  have h1 := h.thr (nI 0)
  have hS := m_few h1
  rw [decide_eq_true hc] at hS
  refine ⟨_, h.JB, ?_⟩
  refine aa_E_of (by decide) 5 [some (.ref 63), none, none, none, none, none] rfl rfl ?_
  refine aa_go (aa_aload0 iX12_single_0) (aa_go (aa_iconst iX12_single_1 ki_0) (aa_go (aa_putI iX12_single_2 fl_X12_3 (fun h => nomatch h) (sh_63 h.W) rfl ⟨rfl, rfl⟩) ?_))
  refine aa_go (aa_aload0 iX12_single_5) (aa_go (aa_cVi iX12_single_6 (hS) (by decide) lc_X12_isFew lk_X12_344 (sh_63 h1.W) rfl rfl (Nat.le_of_ble_eq_true rfl)) ?_)
  refine aa_go (aa_if_neF iX12_single_9 (by decide)) ?_
  refine aa_go (aa_bipush iX12_single_12 kb_m3) ?_
  refine aa_iret iX12_single_14 rfl ?_
  exact ⟨rfl, rfl⟩
def CHQ (P : pl_T) (tx : Nat → Nat) (n : Nat) (g : gm_T) (kp : Nat → Option gm_T) (lk tl : Nat) (rw : Nat → Int) (Q : Nat) (r : Nat → Nat) (dy : List aa_Shp) (σ : aa_St) (z : Int32) (σ' : aa_St) : Prop := (∃ tl' rw', chR1 P g (z, tl', rw') ∧ MJ P tx n g kp lk tl' rw' Q r dy σ σ') ∨ (fw1 P (gth P g) (gen g) (gtn g) = none ∧ fw2 P (gth P g) (gen g) (gtn g) = none ∧ z = -2 ∧ MJ P tx n g kp lk tl rw Q r dy σ σ')
theorem q_change (h : MI P tx n g kp lk tl rw Q r dy σ) (hG : GG P g) (hQ : Q + 2000 < 500000) (hc : ¬ (8 < pl_cn (gth P g) 14 ∨ 0 < pl_b P)) : ∃ (z : Int32) (σ' : aa_St), CHQ P tx n g kp lk tl rw Q r dy σ z σ' ∧ aa_SX mX12_change 100 [.ref 63] σ (some (.int z)) σ' := by
  have h1 := h.thr (nI 0)
  have ok := h.ok
  have n14 := ok.1
  have gl := gth_lt P g
  have hb0 : pl_b P = 0 := by omega
  have h8 : pl_cn (gth P g) 14 ≤ 8 := by omega
  have hS := m_few h1
  rw [decide_eq_false hc] at hS
  have f1 := M1_fw (e := gen g) (w := gtn g) h8 gl n14
  have f2 := M2_fw (e := gen g) (w := gtn g) h8 gl n14
  have j0 : MF σ (aa_sI σ 63 0 (nI 0)) := MF.rf.s (by decide) _ _
  obtain ⟨σ2, ⟨hF2, hC2, e1, e2⟩, hS2⟩ := m_clears h1 FC.rf
  have hQ2 := h1.q.fr e1 e2
  obtain ⟨σ3, ⟨hF3, hC3, hQ3⟩, hS3⟩ := m_winsNow h1 hG hb0 hF2 hC2 (by omega) (fun q hq => absurd hq (Nat.not_lt_zero q)) A14_le (vst_0 gl A14) hQ2 (by omega)
  rw [wv_T gl] at hS3
  -- two: 78
  have loop3 : ∀ (c : Nat), isC c → fw1 P (gth P g) (gen g) (gtn g) = none → (List.range c).findSome? (M2o P (gen g) (gtn g) (gth P g)) = none →
      (∀ (σ4 : aa_St) (Q4 : Nat) (y3 : Option Value), FC P (aa_sI σ 63 0 (nI 0)) σ4 → MCh P A14 0 (gth P g) σ4.1 → MMQ Q4 σ4.1 → Q4 ≤ Q + 36 + 35 * (c + 1) → (List.range (c + 1)).findSome? (M2o P (gen g) (gtn g) (gth P g)) = none → aa_V mX12_change 100 133 [some (.ref 63), some (.int (nI (was0 P (gen g) (gtn g) (gth P g)).toNat)), some (.int (nI c)), y3] [] σ4 (fun ra σ' => ∃ z, ra = some (.int z) ∧ CHQ P tx n g kp lk tl rw Q r dy σ z σ')) →
      ∀ f d (σ4 : aa_St) (Q4 : Nat), 35 - d < f → d ≤ 35 → FC P (aa_sI σ 63 0 (nI 0)) σ4 → MCh P A14 0 (gth P g) σ4.1 → MMQ Q4 σ4.1 → Q4 ≤ Q + 36 + 35 * c + d → (List.range d).find? (M2 P (gen g) (gtn g) (gth P g) c) = none → aa_V mX12_change 100 78 [some (.ref 63), some (.int (nI (was0 P (gen g) (gtn g) (gth P g)).toNat)), some (.int (nI c)), some (.int (nI d))] [] σ4 (fun ra σ' => ∃ z, ra = some (.int z) ∧ CHQ P tx n g kp lk tl rw Q r dy σ z σ') := by
    intro c ic hn1 hn2 next f
    have c34 : c ≤ 34 := by rcases ic with x | x <;> omega
    induction f with
    | zero => intro d σ4 Q4 g1; omega
    | succ f ih =>
      intro d σ4 Q4 g1 g2 hF4 hC4 hQ4 q4 hn
      have h4 := h1.fc hF4 hC4 hQ4
      refine aa_go (aa_iload3 iX12_change_78) (aa_go (aa_bipush iX12_change_79 kb_34) ?_)
      refine aa_ic_gtN iX12_change_81 (by omega) (by omega) (fun g3 => ?_) (fun g3 => ?_)
      · skip
        have e : d = 35 := by omega
        subst e
        refine next σ4 Q4 _ hF4 hC4 hQ4 (by omega) ?_
        rw [rsome_n hn2, M2o, if_pos ic, hn]; rfl
      · skip
        refine aa_go (aa_iload2 iX12_change_84) (aa_go (aa_cSi iX12_change_85 (m_isChange c34) (by decide) lc_X12_isChange lk_X12_347 rfl (Nat.le_of_ble_eq_true rfl)) ?_)
        rw [decide_eq_true ic]
        refine aa_go (aa_if_eqF iX12_change_88 (by decide)) ?_
        refine aa_go (aa_iload3 iX12_change_91) (aa_go (aa_cSi iX12_change_92 (m_isChange (show d ≤ 34 by omega)) (by decide) lc_X12_isChange lk_X12_347 rfl (Nat.le_of_ble_eq_true rfl)) ?_)
        refine aa_if_eqB iX12_change_95 (fun g4 => ?_) (fun g4 => ?_)
        · skip
          have ni := of_decide_eq_false g4
          refine aa_go (aa_iincN3 (k := 1) iX12_change_127 rfl (by decide)) (aa_go (aa_goto iX12_change_130) ?_)
          refine ih (d + 1) σ4 Q4 (by omega) (by omega) hF4 hC4 hQ4 (by omega) ?_
          rw [rfind_n hn, if_neg]
          rw [M2, decide_eq_false ni]; simp
        · skip
          have id := of_decide_eq_true g4
          obtain ⟨σ5, ⟨hF5, hC5, Q5, q5, hQ5⟩, hS5⟩ := m_turnsBy2 h1 hG hb0 hF4 hQ4 (by omega) ic id (was0 P (gen g) (gtn g) (gth P g))
          have h5 := h1.fc hF5 hC5 hQ5
          refine aa_go (aa_aload0 iX12_change_98) (aa_go (aa_iload2 iX12_change_99) (aa_go (aa_iload3 iX12_change_100) (aa_go (aa_iload1 iX12_change_101) (aa_go (aa_cVi iX12_change_102 (hS5) (by decide) lc_X12_turnsBy lk_X12_350 (sh_63 h4.W) rfl rfl (Nat.le_of_ble_eq_true rfl)) ?_))))
          refine aa_if_eqB iX12_change_105 (fun g5 => ?_) (fun g5 => ?_)
          · skip
            refine aa_go (aa_iincN3 (k := 1) iX12_change_127 rfl (by decide)) (aa_go (aa_goto iX12_change_130) ?_)
            refine ih (d + 1) σ5 Q5 (by omega) (by omega) hF5 hC5 hQ5 (by omega) ?_
            rw [rfind_n hn, if_neg]
            rw [M2, g5, Bool.and_false]; decide
          · skip
            have fd : (List.range 35).find? (M2 P (gen g) (gtn g) (gth P g) c) = some d := by
              refine rfind_d (k := d + 1) (by omega) ?_
              rw [rfind_n hn, if_pos]
              rw [M2, g5, decide_eq_true id]; rfl
            have fs : (List.range 35).findSome? (M2o P (gen g) (gtn g) (gth P g)) = some (c, d) := by
              refine rsome_d (k := c + 1) (by omega) ?_
              rw [rsome_n hn2, M2o, if_pos ic, fd]; rfl
            rw [f2] at fs
            obtain ⟨⟨c0, d0⟩, a1, a2⟩ := Option.map_eq_some_iff.mp fs
            have a3 : nmC (gth P g) c0 = c := congrArg Prod.fst a2
            have a4 : nmC (gth P g) d0 = d := congrArg Prod.snd a2
            have h6 := h5.t2 (c : Nat) (d : Nat)
            refine aa_go (aa_aload0 iX12_change_108) (aa_go (aa_iconst iX12_change_109 ki_0) (aa_go (aa_putI iX12_change_110 fl_X12_11 (fun h => nomatch h) (sh_63 h5.W) rfl ⟨rfl, rfl⟩) (aa_go (aa_aload0 iX12_change_113) (aa_go (aa_iload2 iX12_change_114) (aa_go (aa_i2lN iX12_change_115 (by omega)) ?_)))))
            refine aa_go (aa_topl (y := lZ (c : Nat)) (by rw [lZ_N])) ?_
            refine aa_go (aa_cVv iX12_change_116 (h5.e0 _) (by decide) lc_X12_enters lk_X12_163 (sh_63 h5.W) rfl rfl (Nat.le_of_ble_eq_true rfl)) (aa_go (aa_aload0 iX12_change_119) (aa_go (aa_iload3 iX12_change_120) (aa_go (aa_i2lN iX12_change_121 (by omega)) ?_)))
            refine aa_go (aa_topl (y := lZ (d : Nat)) (by rw [lZ_N])) ?_
            refine aa_go (aa_cVv iX12_change_122 (h5.e1 _ _) (by decide) lc_X12_enters lk_X12_163 (sh_63 (h5.t1 (c : Nat)).W) rfl rfl (Nat.le_of_ble_eq_true rfl)) (aa_go (aa_iconst iX12_change_125 ki_2) ?_)
            refine aa_iret iX12_change_126 rfl ?_
            exact ⟨_, rfl, Or.inl ⟨2, _, Or.inr ⟨hn1, c0, d0, a1, by rw [a3, a4]⟩, h6.J (by omega) ((j0.tr hF5.MF).t2 _ _)⟩⟩
  have loop2 : ∀ f c (σ4 : aa_St) (Q4 : Nat) (y3 : Option Value), 35 - c < f → c ≤ 35 → FC P (aa_sI σ 63 0 (nI 0)) σ4 → MCh P A14 0 (gth P g) σ4.1 → MMQ Q4 σ4.1 → Q4 ≤ Q + 36 + 35 * c → fw1 P (gth P g) (gen g) (gtn g) = none → (List.range c).findSome? (M2o P (gen g) (gtn g) (gth P g)) = none → aa_V mX12_change 100 70 [some (.ref 63), some (.int (nI (was0 P (gen g) (gtn g) (gth P g)).toNat)), some (.int (nI c)), y3] [] σ4 (fun ra σ' => ∃ z, ra = some (.int z) ∧ CHQ P tx n g kp lk tl rw Q r dy σ z σ') := by
    intro f
    induction f with
    | zero => intro c σ4 Q4 y3 g1; omega
    | succ f ih =>
      intro c σ4 Q4 y3 g1 g2 hF4 hC4 hQ4 q4 hn1 hn
      have h4 := h1.fc hF4 hC4 hQ4
      refine aa_go (aa_iload2 iX12_change_70) (aa_go (aa_bipush iX12_change_71 kb_34) ?_)
      refine aa_ic_gtN iX12_change_73 (by omega) (by omega) (fun g3 => ?_) (fun g3 => ?_)
      · skip
        have e : c = 35 := by omega
        subst e
        rw [f2] at hn
        have hn2 : fw2 P (gth P g) (gen g) (gtn g) = none := by
          cases q : fw2 P (gth P g) (gen g) (gtn g) with
          | none => rfl
          | some x => rw [q] at hn; exact absurd hn (by simp)
        refine aa_go (aa_bipush iX12_change_139 kb_m2) ?_
        refine aa_iret iX12_change_141 rfl ?_
        exact ⟨_, rfl, Or.inr ⟨hn1, hn2, rfl, h4.J (by omega) (j0.tr hF4.MF)⟩⟩
      · skip
        have aft : ∀ (σ5 : aa_St) (Q5 : Nat) (y3 : Option Value), FC P (aa_sI σ 63 0 (nI 0)) σ5 → MCh P A14 0 (gth P g) σ5.1 → MMQ Q5 σ5.1 → Q5 ≤ Q + 36 + 35 * (c + 1) → (List.range (c + 1)).findSome? (M2o P (gen g) (gtn g) (gth P g)) = none → aa_V mX12_change 100 133 [some (.ref 63), some (.int (nI (was0 P (gen g) (gtn g) (gth P g)).toNat)), some (.int (nI c)), y3] [] σ5 (fun ra σ' => ∃ z, ra = some (.int z) ∧ CHQ P tx n g kp lk tl rw Q r dy σ z σ') := by
          intro σ5 Q5 y3 hF5 hC5 hQ5 q5 hn5
          have h5 := h1.fc hF5 hC5 hQ5
          refine aa_go (aa_iincN2 (k := 1) iX12_change_133 rfl (by decide)) (aa_go (aa_goto iX12_change_136) ?_)
          exact ih (c + 1) σ5 Q5 _ (by omega) (by omega) hF5 hC5 hQ5 q5 hn1 hn5
        refine aa_go (aa_iconst iX12_change_76 ki_0) (aa_go (aa_istore3 iX12_change_77 rfl (by decide)) ?_)
        by_cases ic : isC c
        · exact loop3 c ic hn1 hn aft 36 0 σ4 Q4 (by omega) (by omega) hF4 hC4 hQ4 q4 rfl
        · refine aa_go (aa_iload3 iX12_change_78) (aa_go (aa_bipush iX12_change_79 kb_34) ?_)
          refine aa_go (aa_ic_gtF iX12_change_81 (by decide)) ?_
          refine aa_go (aa_iload2 iX12_change_84) (aa_go (aa_cSi iX12_change_85 (m_isChange (show c ≤ 34 by omega)) (by decide) lc_X12_isChange lk_X12_347 rfl (Nat.le_of_ble_eq_true rfl)) ?_)
          rw [decide_eq_false ic]
          refine aa_go (aa_if_eqT iX12_change_88 (by decide)) ?_
          refine aft σ4 Q4 _ hF4 hC4 hQ4 (by omega) ?_
          rw [rsome_n hn, M2o, if_neg ic]
  have loop1 : ∀ f c (σ4 : aa_St) (Q4 : Nat), 35 - c < f → c ≤ 35 → FC P (aa_sI σ 63 0 (nI 0)) σ4 → MCh P A14 0 (gth P g) σ4.1 → MMQ Q4 σ4.1 → Q4 ≤ Q + 1 + c → (List.range c).find? (M1 P (gen g) (gtn g) (gth P g)) = none → aa_V mX12_change 100 26 [some (.ref 63), some (.int (nI (was0 P (gen g) (gtn g) (gth P g)).toNat)), some (.int (nI c)), none] [] σ4 (fun ra σ' => ∃ z, ra = some (.int z) ∧ CHQ P tx n g kp lk tl rw Q r dy σ z σ') := by
    intro f
    induction f with
    | zero => intro c σ4 Q4 g1; omega
    | succ f ih =>
      intro c σ4 Q4 g1 g2 hF4 hC4 hQ4 q4 hn
      have h4 := h1.fc hF4 hC4 hQ4
      refine aa_go (aa_iload2 iX12_change_26) (aa_go (aa_bipush iX12_change_27 kb_34) ?_)
      refine aa_ic_gtN iX12_change_29 (by omega) (by omega) (fun g3 => ?_) (fun g3 => ?_)
      · skip
        have e : c = 35 := by omega
        subst e
        rw [f1] at hn
        have hn2 : fw1 P (gth P g) (gen g) (gtn g) = none := by
          cases q : fw1 P (gth P g) (gen g) (gtn g) with
          | none => rfl
          | some x => rw [q] at hn; exact absurd hn (by simp)
        refine aa_go (aa_iconst iX12_change_68 ki_0) (aa_go (aa_istore2 iX12_change_69 rfl (by decide)) ?_)
        exact loop2 36 0 σ4 Q4 _ (by omega) (by omega) hF4 hC4 hQ4 (by omega) hn2 rfl
      · skip
        refine aa_go (aa_iload2 iX12_change_32) (aa_go (aa_cSi iX12_change_33 (m_isChange (show c ≤ 34 by omega)) (by decide) lc_X12_isChange lk_X12_347 rfl (Nat.le_of_ble_eq_true rfl)) ?_)
        refine aa_if_eqB iX12_change_36 (fun g4 => ?_) (fun g4 => ?_)
        · skip
          have ni := of_decide_eq_false g4
          refine aa_go (aa_iincN2 (k := 1) iX12_change_62 rfl (by decide)) (aa_go (aa_goto iX12_change_65) ?_)
          refine ih (c + 1) σ4 Q4 (by omega) (by omega) hF4 hC4 hQ4 (by omega) ?_
          rw [rfind_n hn, if_neg]
          rw [M1, decide_eq_false ni]; simp
        · skip
          have ic := of_decide_eq_true g4
          obtain ⟨σ5, ⟨hF5, hC5, Q5, q5, hQ5⟩, hS5⟩ := m_turnsBy1 h1 hG hb0 hF4 hQ4 (by omega) ic (was0 P (gen g) (gtn g) (gth P g))
          have h5 := h1.fc hF5 hC5 hQ5
          refine aa_go (aa_aload0 iX12_change_39) (aa_go (aa_iload2 iX12_change_40) (aa_go (aa_iconst iX12_change_41 ki_m1) (aa_go (aa_iload1 iX12_change_42) (aa_go (aa_cVi iX12_change_43 (hS5) (by decide) lc_X12_turnsBy lk_X12_350 (sh_63 h4.W) rfl rfl (Nat.le_of_ble_eq_true rfl)) ?_))))
          refine aa_if_eqB iX12_change_46 (fun g5 => ?_) (fun g5 => ?_)
          · skip
            refine aa_go (aa_iincN2 (k := 1) iX12_change_62 rfl (by decide)) (aa_go (aa_goto iX12_change_65) ?_)
            refine ih (c + 1) σ5 Q5 (by omega) (by omega) hF5 hC5 hQ5 (by omega) ?_
            rw [rfind_n hn, if_neg]
            rw [M1, g5, Bool.and_false]; decide
          · skip
            have fd : (List.range 35).find? (M1 P (gen g) (gtn g) (gth P g)) = some c := by
              refine rfind_d (k := c + 1) (by omega) ?_
              rw [rfind_n hn, if_pos]
              rw [M1, g5, decide_eq_true ic]; rfl
            rw [f1] at fd
            obtain ⟨c0, a1, a2⟩ := Option.map_eq_some_iff.mp fd
            have h6 := h5.t1 (c : Nat)
            refine aa_go (aa_aload0 iX12_change_49) (aa_go (aa_iconst iX12_change_50 ki_0) (aa_go (aa_putI iX12_change_51 fl_X12_11 (fun h => nomatch h) (sh_63 h5.W) rfl ⟨rfl, rfl⟩) (aa_go (aa_aload0 iX12_change_54) (aa_go (aa_iload2 iX12_change_55) (aa_go (aa_i2lN iX12_change_56 (by omega)) ?_)))))
            refine aa_go (aa_topl (y := lZ (c : Nat)) (by rw [lZ_N])) ?_
            refine aa_go (aa_cVv iX12_change_57 (h5.e0 _) (by decide) lc_X12_enters lk_X12_163 (sh_63 h5.W) rfl rfl (Nat.le_of_ble_eq_true rfl)) (aa_go (aa_iconst iX12_change_60 ki_1) ?_)
            refine aa_iret iX12_change_61 rfl ?_
            exact ⟨_, rfl, Or.inl ⟨1, _, Or.inl ⟨c0, a1, by rw [a2]⟩, h6.J (by omega) ((j0.tr hF5.MF).t1 _)⟩⟩
  have key : aa_V mX12_change 100 0 [some (.ref 63), none, none, none] [] σ (fun ra σ' => ∃ z, ra = some (.int z) ∧ CHQ P tx n g kp lk tl rw Q r dy σ z σ') := by
    refine aa_go (aa_aload0 iX12_change_0) (aa_go (aa_iconst iX12_change_1 ki_0) (aa_go (aa_putI iX12_change_2 fl_X12_3 (fun h => nomatch h) (sh_63 h.W) rfl ⟨rfl, rfl⟩) ?_))
    refine aa_go (aa_aload0 iX12_change_5) (aa_go (aa_cVi iX12_change_6 (hS) (by decide) lc_X12_isFew lk_X12_344 (sh_63 h1.W) rfl rfl (Nat.le_of_ble_eq_true rfl)) ?_)
    refine aa_go (aa_if_neT iX12_change_9 (by decide)) ?_
    refine aa_go (aa_aload0 iX12_change_15) (aa_go (aa_cVv iX12_change_16 (hS2) (by decide) lc_X12_clears lk_X12_326 (sh_63 h1.W) rfl rfl (Nat.le_of_ble_eq_true rfl)) ?_)
    refine aa_go (aa_aload0 iX12_change_19) (aa_go (aa_cVi iX12_change_20 (hS3) (by decide) lc_X12_winsNow lk_X12_335 (sh_63 (hF2.W h1.W)) rfl rfl (Nat.le_of_ble_eq_true rfl)) ?_)
    refine aa_go (aa_istore1 iX12_change_23 rfl (by decide)) (aa_go (aa_iconst iX12_change_24 ki_0) (aa_go (aa_istore2 iX12_change_25 rfl (by decide)) ?_))
    exact loop1 36 0 σ3 (Q + 1) (by omega) (by omega) hF3 hC3 hQ3 (by omega) rfl
  obtain ⟨ra, σ', ⟨z, rfl, h9⟩, hS9⟩ := aa_S_of (avs := [.ref 63]) (by decide) 3 [some (.ref 63), none, none, none] rfl rfl key
  exact ⟨z, σ', h9, hS9⟩
theorem cn_zero : ∀ k, pl_cn 0 k = 0
  | 0 => rfl
  | k + 1 => by rw [pl_cn, cn_zero k, Nat.zero_testBit]; rfl
def sgo (P : pl_T) (g : gm_T) (k : Nat) : Nat := bm k (fun j => tb1 P (gen g) (gtn g) (gth P g) j (was0 P (gen g) (gtn g) (gth P g)))
def sgl (P : pl_T) (g : gm_T) (k : Nat) : Nat := bm k (fun j => tb1 P (gen g) (gtn g) (gth P g) (20 + j) (was0 P (gen g) (gtn g) (gth P g)))
def sgn (P : pl_T) (g : gm_T) : Bool := tb1 P (gen g) (gtn g) (gth P g) 34 (was0 P (gen g) (gtn g) (gth P g))
theorem sg_all (ok : pl_ok P) (h8 : pl_cn (gth P g) 14 ≤ 8) : sgT P g &&& (2 ^ pl_n P - 1) = sgo P g (pl_n P) ∧ sgT P g >>> 20 &&& (2 ^ pl_n P - 1) = sgl P g (pl_n P) ∧ sgT P g >>> 34 &&& 1 = (sgn P g).toNat ∧ pl_cn (sgT P g) 64 = pl_cn (sgo P g (pl_n P)) 32 + pl_cn (sgl P g (pl_n P)) 32 + (sgn P g).toNat := by
  have n14 := ok.1
  have gl := gth_lt P g
  have bt : ∀ x, (sgT P g).testBit x = M1 P (gen g) (gtn g) (gth P g) x := tb_M1 h8 gl n14
  have b1 : ∀ x, x < 20 → (sgT P g).testBit x = (sgo P g (pl_n P)).testBit x := by
    intro x hx
    rw [bt, sgo, bm_bit, M1]
    by_cases c : x < pl_n P
    · rw [decide_eq_true c, decide_eq_true (show isC x from Or.inl (by omega))]
    · rw [decide_eq_false c, Bool.false_and]
      by_cases c2 : isC x
      · rw [tb1, lgC_rm hx, decide_eq_false c]; simp
      · rw [decide_eq_false c2]; rfl
  have b2 : ∀ x, x < 14 → (sgT P g >>> 20).testBit x = (sgl P g (pl_n P)).testBit x := by
    intro x hx
    rw [Nat.testBit_shiftRight, bt, sgl, bm_bit, M1, decide_eq_true (show isC (20 + x) from Or.inr (by omega)), Bool.true_and]
    by_cases c : x < pl_n P
    · rw [decide_eq_true c]; rfl
    · rw [decide_eq_false c, Bool.false_and, tb1, lgC, if_neg (by omega), Nat.add_sub_cancel_left, decide_eq_false c, decide_eq_false (by omega)]; rfl
  have b3 : (sgT P g).testBit 34 = sgn P g := by rw [bt, M1]; rfl
  have b4 : ∀ x, 34 < x → (sgT P g).testBit x = false := by
    intro x hx
    rw [bt, M1, decide_eq_false (show ¬ isC x from fun q => by rcases q with q | q <;> omega)]; rfl
  refine ⟨?_, ?_, ?_, ?_⟩
  · apply bb_ext
    intro x
    rw [Nat.testBit_and, Nat.testBit_two_pow_sub_one]
    by_cases c : x < pl_n P
    · rw [b1 x (by omega)]; simp [c]
    · rw [show (sgo P g (pl_n P)).testBit x = false from bb_hi (bm_lt _ _) (by omega)]; simp [c]
  · apply bb_ext
    intro x
    rw [Nat.testBit_and, Nat.testBit_two_pow_sub_one]
    by_cases c : x < pl_n P
    · rw [b2 x (by omega)]; simp [c]
    · rw [show (sgl P g (pl_n P)).testBit x = false from bb_hi (bm_lt _ _) (by omega)]; simp [c]
  · rw [bb_bit, b3]
  · have l1 : sgo P g (pl_n P) < 2 ^ pl_n P := bm_lt _ _
    have l2 : sgl P g (pl_n P) < 2 ^ pl_n P := bm_lt _ _
    have e1 : pl_cn (sgT P g) 20 = pl_cn (sgo P g (pl_n P)) 32 := by
      rw [cn_congr 20 b1, cn_up l1 (show pl_n P ≤ 20 by omega), cn_up l1 (show pl_n P ≤ 32 by omega)]
    have e2 : pl_cn (sgT P g >>> 20) 14 = pl_cn (sgl P g (pl_n P)) 32 := by
      rw [cn_congr 14 b2, cn_up l2 (show pl_n P ≤ 14 by omega), cn_up l2 (show pl_n P ≤ 32 by omega)]
    have e3 : pl_cn (sgT P g >>> 20 >>> 14) 30 = (sgn P g).toNat := by
      have := cn_cut (sgT P g >>> 20 >>> 14) 1 29
      rw [show 1 + 29 = 30 from rfl] at this
      rw [this, show pl_cn (sgT P g >>> 20 >>> 14) 1 = ((sgT P g >>> 20 >>> 14).testBit 0).toNat from Nat.zero_add _]
      have z : pl_cn (sgT P g >>> 20 >>> 14 >>> 1) 29 = pl_cn 0 29 := cn_congr 29 (fun i hi => by
        rw [Nat.testBit_shiftRight, Nat.testBit_shiftRight, Nat.testBit_shiftRight, Nat.zero_testBit]
        exact b4 _ (by omega))
      rw [z, cn_zero, Nat.testBit_shiftRight, Nat.testBit_shiftRight, show 20 + (14 + 0) = 34 from rfl, b3]; rfl
    have c1 := cn_cut (sgT P g) 20 44
    have c2 := cn_cut (sgT P g >>> 20) 14 30
    rw [show 20 + 44 = 64 from rfl] at c1
    rw [show 14 + 30 = 44 from rfl] at c2
    rw [c1, c2, e1, e2, e3]; omega
theorem q_single (h : MI P tx n g kp lk tl rw Q r dy σ) (hG : GG P g) (hQ : Q + 2000 < 500000) (hc : ¬ (8 < pl_cn (gth P g) 14 ∨ 0 < pl_b P)) : ∃ σ', MJ P tx n g kp lk 3 (rw3 ((sgT P g &&& (2 ^ pl_n P - 1) : Nat)) ((sgT P g >>> 20 &&& (2 ^ pl_n P - 1) : Nat)) ((sgT P g >>> 34 &&& 1 : Nat))) Q r dy σ σ' ∧ aa_SX mX12_single 100 [.ref 63] σ (some (.int (nI (pl_cn (sgT P g) 64)))) σ' := by
  have h1 := h.thr (nI 0)
  have ok := h.ok
  have n14 := ok.1
  have gl := gth_lt P g
  have hb0 : pl_b P = 0 := by omega
  have h8 : pl_cn (gth P g) 14 ≤ 8 := by omega
  have hS := m_few h1
  rw [decide_eq_false hc] at hS
  obtain ⟨s1, s2, s3, s4⟩ := sg_all (g := g) ok h8
  rw [s1, s2, s3, s4]
  have j0 : MF σ (aa_sI σ 63 0 (nI 0)) := MF.rf.s (by decide) _ _
  obtain ⟨σ2, ⟨hF2, hC2, e1, e2⟩, hS2⟩ := m_clears h1 FC.rf
  have hQ2 := h1.q.fr e1 e2
  obtain ⟨σ3, ⟨hF3, hC3, hQ3⟩, hS3⟩ := m_winsNow h1 hG hb0 hF2 hC2 (by omega) (fun q hq => absurd hq (Nat.not_lt_zero q)) A14_le (vst_0 gl A14) hQ2 (by omega)
  rw [wv_T gl] at hS3
  have bl : ∀ k, k ≤ 14 → sgo P g k < 16384 ∧ sgl P g k < 16384 := by
    intro k hk
    have := Nat.pow_le_pow_right (n := 2) (by decide) hk
    have a : sgo P g k < 2 ^ k := bm_lt _ _
    have b : sgl P g k < 2 ^ k := bm_lt _ _
    omega
  have loop : ∀ f k (σ4 : aa_St) (Q4 : Nat), pl_n P - k < f → k ≤ pl_n P → FC P (aa_sI σ 63 0 (nI 0)) σ4 → MCh P A14 0 (gth P g) σ4.1 → MMQ Q4 σ4.1 → Q4 ≤ Q + 1 + 2 * k → aa_V mX12_single 100 34 [some (.ref 63), some (.int (nI (was0 P (gen g) (gtn g) (gth P g)).toNat)), some (.int (nI (sgo P g k))), some (.int (nI (sgl P g k))), some (.int (nI 0)), some (.int (nI k))] [] σ4 (fun ra σ' => ra = some (.int (nI (pl_cn (sgo P g (pl_n P)) 32 + pl_cn (sgl P g (pl_n P)) 32 + (sgn P g).toNat))) ∧ MJ P tx n g kp lk 3 (rw3 (sgo P g (pl_n P) : Nat) (sgl P g (pl_n P) : Nat) ((sgn P g).toNat : Nat)) Q r dy σ σ') := by
    intro f
    induction f with
    | zero => intro k σ4 Q4 g1; omega
    | succ f ih =>
      intro k σ4 Q4 g1 g2 hF4 hC4 hQ4 q4
      have h4 := h1.fc hF4 hC4 hQ4
      have bk := bl k (by omega)
      refine aa_go (aa_iload5 iX12_single_34) (aa_go (aa_aload0 iX12_single_36) (aa_go (aa_getE iX12_single_37 fl_X12_78 (sh_63 h4.W) rfl h4.M.2.1) ?_))
      refine aa_ic_geN iX12_single_40 (by omega) (by omega) (fun g3 => ?_) (fun g3 => ?_)
      · skip
        have e : k = pl_n P := by omega
        subst e
        obtain ⟨σ5, ⟨hF5, hC5, Q5, q5, hQ5⟩, hS5⟩ := m_turnsBy1 (c := 34) h1 hG hb0 hF4 hQ4 (by omega) (Or.inr (by omega)) (was0 P (gen g) (gtn g) (gth P g))
        have hS5' : aa_SX mX12_turnsBy 31 [.ref 63, .int (nI 34), .int (-1), .int (nI (was0 P (gen g) (gtn g) (gth P g)).toNat)] σ4 (some (.int (nI (sgn P g).toNat))) σ5 := hS5
        have h5 := h1.fc hF5 hC5 hQ5
        have h6 := h5.t3 (sgo P g (pl_n P) : Nat) (sgl P g (pl_n P) : Nat) ((sgn P g).toNat : Nat)
        have tb : (sgn P g).toNat ≤ 1 := Bool.toNat_le _
        refine aa_go (aa_aload0 iX12_single_96) (aa_go (aa_bipush iX12_single_97 kb_34) (aa_go (aa_iconst iX12_single_99 ki_m1) (aa_go (aa_iload1 iX12_single_100) (aa_go (aa_cVi iX12_single_101 (hS5') (by decide) lc_X12_turnsBy lk_X12_350 (sh_63 h4.W) rfl rfl (Nat.le_of_ble_eq_true rfl)) ?_))))
        refine aa_go (aa_cSi iX12_single_104 (m_flag (sgn P g)) (by decide) lc_X12_flag lk_X12_31 rfl (Nat.le_of_ble_eq_true rfl)) (aa_go (aa_istore4 iX12_single_107 rfl (by decide)) (aa_go (aa_aload0 iX12_single_109) (aa_go (aa_iconst iX12_single_110 ki_0) (aa_go (aa_putI iX12_single_111 fl_X12_11 (fun h => nomatch h) (sh_63 h5.W) rfl ⟨rfl, rfl⟩) (aa_go (aa_aload0 iX12_single_114) (aa_go (aa_iload2 iX12_single_115) (aa_go (aa_i2lN iX12_single_116 (by omega)) ?_)))))))
        refine aa_go (aa_topl (y := lZ (sgo P g (pl_n P) : Nat)) (by rw [lZ_N])) ?_
        refine aa_go (aa_cVv iX12_single_117 (h5.e0 _) (by decide) lc_X12_enters lk_X12_163 (sh_63 h5.W) rfl rfl (Nat.le_of_ble_eq_true rfl)) (aa_go (aa_aload0 iX12_single_120) (aa_go (aa_iload3 iX12_single_121) (aa_go (aa_i2lN iX12_single_122 (by omega)) ?_)))
        refine aa_go (aa_topl (y := lZ (sgl P g (pl_n P) : Nat)) (by rw [lZ_N])) ?_
        refine aa_go (aa_cVv iX12_single_123 (h5.e1 _ _) (by decide) lc_X12_enters lk_X12_163 (sh_63 (h5.t1 (sgo P g (pl_n P) : Nat)).W) rfl rfl (Nat.le_of_ble_eq_true rfl)) (aa_go (aa_aload0 iX12_single_126) (aa_go (aa_iload4 iX12_single_127) (aa_go (aa_i2lN iX12_single_129 (by omega)) ?_)))
        refine aa_go (aa_topl (y := lZ ((sgn P g).toNat : Nat)) (by rw [lZ_N])) ?_
        refine aa_go (aa_cVv iX12_single_130 (h5.e2 _ _ _) (by decide) lc_X12_enters lk_X12_163 (sh_63 (h5.t2 (sgo P g (pl_n P) : Nat) (sgl P g (pl_n P) : Nat)).W) rfl rfl (Nat.le_of_ble_eq_true rfl)) (aa_go (aa_iload2 iX12_single_133) (aa_go (aa_cSi iX12_single_134 (c_bitCount (by omega)) (by decide) lc_J6_bitCount_0f7a4 lk_X12_212 rfl (Nat.le_of_ble_eq_true rfl)) (aa_go (aa_iload3 iX12_single_137) (aa_go (aa_cSi iX12_single_138 (c_bitCount (by omega)) (by decide) lc_J6_bitCount_0f7a4 lk_X12_212 rfl (Nat.le_of_ble_eq_true rfl)) (aa_go (aa_iaddN iX12_single_141 ) (aa_go (aa_iload4 iX12_single_142) (aa_go (aa_iaddN iX12_single_144 ) ?_)))))))
        refine aa_iret iX12_single_145 rfl ?_
        exact ⟨rfl, h6.J (by omega) ((j0.tr hF5.MF).t3 _ _ _)⟩
      · skip
        obtain ⟨σ5, ⟨hF5, hC5, Q5, q5, hQ5⟩, hS5⟩ := m_turnsBy1 (c := k) h1 hG hb0 hF4 hQ4 (by omega) (Or.inl (by omega)) (was0 P (gen g) (gtn g) (gth P g))
        have h5 := h1.fc hF5 hC5 hQ5
        obtain ⟨σ6, ⟨hF6, hC6, Q6, q6, hQ6⟩, hS6⟩ := m_turnsBy1 (c := 20 + k) h1 hG hb0 hF5 hQ5 (by omega) (Or.inr (by omega)) (was0 P (gen g) (gtn g) (gth P g))
        have h6 := h1.fc hF6 hC6 hQ6
        have nxt := ih (k + 1) σ6 Q6 (by omega) (by omega) hF6 hC6 hQ6 (by omega)
        have mid : aa_V mX12_single 100 65 [some (.ref 63), some (.int (nI (was0 P (gen g) (gtn g) (gth P g)).toNat)), some (.int (nI (sgo P g (k + 1)))), some (.int (nI (sgl P g k))), some (.int (nI 0)), some (.int (nI k))] [] σ5 (fun ra σ' => ra = some (.int (nI (pl_cn (sgo P g (pl_n P)) 32 + pl_cn (sgl P g (pl_n P)) 32 + (sgn P g).toNat))) ∧ MJ P tx n g kp lk 3 (rw3 (sgo P g (pl_n P) : Nat) (sgl P g (pl_n P) : Nat) ((sgn P g).toNat : Nat)) Q r dy σ σ') := by
          refine aa_go (aa_iload3 iX12_single_65) (aa_go (aa_aload0 iX12_single_66) (aa_go (aa_bipush iX12_single_67 kb_20) (aa_go (aa_iload5 iX12_single_69) (aa_go (aa_iaddN iX12_single_71 ) (aa_go (aa_iconst iX12_single_72 ki_m1) (aa_go (aa_iload1 iX12_single_73) (aa_go (aa_cVi iX12_single_74 (hS6) (by decide) lc_X12_turnsBy lk_X12_350 (sh_63 h5.W) rfl rfl (Nat.le_of_ble_eq_true rfl)) ?_)))))))
          refine aa_if_eqB iX12_single_77 (fun g5 => ?_) (fun g5 => ?_)
          · skip
            refine aa_go (aa_iconst iX12_single_87 ki_0) (aa_go (aa_iorN iX12_single_88 ) ?_)
            refine aa_go (aa_top (y := nI (sgl P g (k + 1))) (by rw [Nat.or_zero, sgl, sgl, bm_f g5])) ?_
            refine aa_go (aa_istore3 iX12_single_89 rfl (by decide)) (aa_go (aa_iincN5 (k := 1) iX12_single_90 rfl (by decide)) (aa_go (aa_goto iX12_single_93) ?_))
            exact nxt
          · skip
            refine aa_go (aa_iconst iX12_single_80 ki_1) (aa_go (aa_iload5 iX12_single_81) (aa_go (aa_ishlN iX12_single_83 (by omega)) (aa_go (aa_goto iX12_single_84) (aa_go (aa_iorN iX12_single_88 ) ?_))))
            refine aa_go (aa_top (y := nI (sgl P g (k + 1))) (by rw [Nat.one_shiftLeft, sgl, sgl, bm_t g5])) ?_
            refine aa_go (aa_istore3 iX12_single_89 rfl (by decide)) (aa_go (aa_iincN5 (k := 1) iX12_single_90 rfl (by decide)) (aa_go (aa_goto iX12_single_93) ?_))
            exact nxt
        refine aa_go (aa_iload2 iX12_single_43) (aa_go (aa_aload0 iX12_single_44) (aa_go (aa_iload5 iX12_single_45) (aa_go (aa_iconst iX12_single_47 ki_m1) (aa_go (aa_iload1 iX12_single_48) (aa_go (aa_cVi iX12_single_49 (hS5) (by decide) lc_X12_turnsBy lk_X12_350 (sh_63 h4.W) rfl rfl (Nat.le_of_ble_eq_true rfl)) ?_)))))
        refine aa_if_eqB iX12_single_52 (fun g4 => ?_) (fun g4 => ?_)
        · skip
          refine aa_go (aa_iconst iX12_single_62 ki_0) (aa_go (aa_iorN iX12_single_63 ) ?_)
          refine aa_go (aa_top (y := nI (sgo P g (k + 1))) (by rw [Nat.or_zero, sgo, sgo, bm_f g4])) ?_
          refine aa_go (aa_istore2 iX12_single_64 rfl (by decide)) ?_
          exact mid
        · skip
          refine aa_go (aa_iconst iX12_single_55 ki_1) (aa_go (aa_iload5 iX12_single_56) (aa_go (aa_ishlN iX12_single_58 (by omega)) (aa_go (aa_goto iX12_single_59) (aa_go (aa_iorN iX12_single_63 ) ?_))))
          refine aa_go (aa_top (y := nI (sgo P g (k + 1))) (by rw [Nat.one_shiftLeft, sgo, sgo, bm_t g4])) ?_
          refine aa_go (aa_istore2 iX12_single_64 rfl (by decide)) ?_
          exact mid
  have key : aa_V mX12_single 100 0 [some (.ref 63), none, none, none, none, none] [] σ (fun ra σ' => ra = some (.int (nI (pl_cn (sgo P g (pl_n P)) 32 + pl_cn (sgl P g (pl_n P)) 32 + (sgn P g).toNat))) ∧ MJ P tx n g kp lk 3 (rw3 (sgo P g (pl_n P) : Nat) (sgl P g (pl_n P) : Nat) ((sgn P g).toNat : Nat)) Q r dy σ σ') := by
    refine aa_go (aa_aload0 iX12_single_0) (aa_go (aa_iconst iX12_single_1 ki_0) (aa_go (aa_putI iX12_single_2 fl_X12_3 (fun h => nomatch h) (sh_63 h.W) rfl ⟨rfl, rfl⟩) ?_))
    refine aa_go (aa_aload0 iX12_single_5) (aa_go (aa_cVi iX12_single_6 (hS) (by decide) lc_X12_isFew lk_X12_344 (sh_63 h1.W) rfl rfl (Nat.le_of_ble_eq_true rfl)) ?_)
    refine aa_go (aa_if_neT iX12_single_9 (by decide)) ?_
    refine aa_go (aa_aload0 iX12_single_15) (aa_go (aa_cVv iX12_single_16 (hS2) (by decide) lc_X12_clears lk_X12_326 (sh_63 h1.W) rfl rfl (Nat.le_of_ble_eq_true rfl)) ?_)
    refine aa_go (aa_aload0 iX12_single_19) (aa_go (aa_cVi iX12_single_20 (hS3) (by decide) lc_X12_winsNow lk_X12_335 (sh_63 (hF2.W h1.W)) rfl rfl (Nat.le_of_ble_eq_true rfl)) ?_)
    refine aa_go (aa_istore1 iX12_single_23 rfl (by decide)) (aa_go (aa_iconst iX12_single_24 ki_0) (aa_go (aa_istore2 iX12_single_25 rfl (by decide)) (aa_go (aa_iconst iX12_single_26 ki_0) (aa_go (aa_istore3 iX12_single_27 rfl (by decide)) (aa_go (aa_iconst iX12_single_28 ki_0) (aa_go (aa_istore4 iX12_single_29 rfl (by decide)) (aa_go (aa_iconst iX12_single_31 ki_0) ?_)))))))
    refine aa_go (aa_istore5 iX12_single_32 rfl (by decide)) ?_
    exact loop (pl_n P + 1) 0 σ3 (Q + 1) (by omega) (by omega) hF3 hC3 hQ3 (by omega)
  obtain ⟨ra, σ', ⟨rfl, h9⟩, hS9⟩ := aa_S_of (avs := [.ref 63]) (by decide) 5 [some (.ref 63), none, none, none, none, none] rfl rfl key
  exact ⟨σ', h9, hS9⟩
end
