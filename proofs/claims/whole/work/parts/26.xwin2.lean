section
variable {r : Nat → Nat} {dy : List aa_Shp} {P : pl_T} {hs : List Nat}
theorem and3 (v q : Nat) : v >>> q &&& 3 = fd v q 2 := Nat.and_two_pow_sub_one_eq_mod _ 2
theorem and31 (v q : Nat) : v >>> q &&& 31 = fd v q 5 := Nat.and_two_pow_sub_one_eq_mod _ 5
/-- whether whoever is on turn wins -/
theorem c_X9_victoryFrom (hr0 : ∀ σ : aa_St, aa_W r dy σ → σ.2.2.1[r 0]? = some (.inl (1, 2 ^ (pl_n P + pl_b P)))) {e : Nat} (he : e ≤ 1) : ∀ m s h dp (σ : aa_St), pl_mu P s ≤ m → s < 2 ^ (pl_n P + pl_b P) → h ≤ 1 → dp + pl_mu P s ≤ 40 → aa_W r dy σ → XP P hs σ.1 → KI P (σ.2.1 (r 0)) →
    ∃ σ' : aa_St, (FrL (r 0) σ σ' ∧ KI P (σ'.2.1 (r 0))) ∧ aa_SX mX9_victoryFrom (5 + m) [.ref 24, .int (nI s), .int (nI h), .int (nI e), .int (nI dp)] σ (some (.int (nI (wi P e h s).toNat))) σ' := by
  intro m
  induction m using Nat.strongRecOn with
  | ind m ih =>
    intro s h dp σ hm hs2 hh hdp hW hX hKI
    have ok := hX.ok
    have hn := hX.n14
    have hb := hX.b2
    have p16 := pw16 (k := pl_n P + pl_b P) (by omega)
    have hs_r0 := hr0 σ hW
    obtain ⟨v, hv, hv28, hK⟩ := hKI s hs2
    have sh1 : 4 * h + 2 * e < 32 := by omega
    have lmv := pl_mv_lt P h s
    -- the end: 149
    have fin : ∀ (σ1 : aa_St) y10, FrL (r 0) σ σ1 → KI P (σ1.2.1 (r 0)) → aa_V mX9_victoryFrom (5 + m) 149 [some (.ref 24), some (.int (nI s)), some (.int (nI h)), some (.int (nI e)), some (.int (nI dp)), some (.int (nI (4 * h + 2 * e))), some (.int (nI 0)), some (.int (nI (pl_mv P h s))), some (.int (nI (pl_n P + pl_b P))), some (.int (nI (wi P e h s).toNat)), y10] [] σ1 (fun r1 σ' => r1 = some (.int (nI (wi P e h s).toNat)) ∧ (FrL (r 0) σ σ' ∧ KI P (σ'.2.1 (r 0)))) := by
      intro σ1 y10 hF hKI1
      have hW1 := hW.of2 hF.2.1
      have hs_r0 := hr0 σ1 hW1
      obtain ⟨v1, hv1, hv28', hK1⟩ := hKI1 s hs2
      have kw := KIs_w (s := s) hh he hv28' hK1
      refine aa_go (aa_aload0 iX9_victoryFrom_149) (aa_go (aa_getR iX9_victoryFrom_150 fl_X9_12 (sh_24 hW1) rfl) (aa_go (aa_iload1 iX9_victoryFrom_153) (aa_go (aa_aload0 iX9_victoryFrom_154) (aa_go (aa_getR iX9_victoryFrom_155 fl_X9_12 (sh_24 hW1) rfl) (aa_go (aa_iload1 iX9_victoryFrom_158) (aa_go (aa_cVl iX9_victoryFrom_159 (hv1 ▸ c_at25 hW1 hs_r0 (by omega) hs2) (by omega) lc_X4_at lk_X9_43 (sh_25 hW1) rfl rfl (Nat.le_of_ble_eq_true rfl)) (aa_go (aa_iload9 iX9_victoryFrom_162) ?_)))))))
      refine aa_if_eqB iX9_victoryFrom_164 (fun h1 => ?_) (fun h1 => ?_)
      · skip
        rw [h1] at kw ⊢
        refine aa_go (aa_iconst iX9_victoryFrom_171 ki_1) (aa_go (aa_i2lN iX9_victoryFrom_172 (by omega)) (aa_go (aa_iload5 iX9_victoryFrom_173) (aa_go (aa_lshlN iX9_victoryFrom_175 (by omega)) (aa_go (aa_lorN iX9_victoryFrom_176 ) (aa_go (aa_cVv iX9_victoryFrom_177 (c_set25 hW1 hs_r0 (by omega) hs2 _) (by omega) lc_X4_set lk_X9_60 (sh_25 hW1) rfl rfl (Nat.le_of_ble_eq_true rfl)) (aa_go (aa_iload9 iX9_victoryFrom_180) ?_))))))
        refine aa_zretB iX9_victoryFrom_182 rfl ?_
        exact ⟨rfl, hF.sL s _, hKI1.set kw⟩
      · skip
        rw [h1] at kw ⊢
        refine aa_go (aa_iconst iX9_victoryFrom_167 ki_2) (aa_go (aa_goto iX9_victoryFrom_168) (aa_go (aa_i2lN iX9_victoryFrom_172 (by omega)) (aa_go (aa_iload5 iX9_victoryFrom_173) (aa_go (aa_lshlN iX9_victoryFrom_175 (by omega)) (aa_go (aa_lorN iX9_victoryFrom_176 ) (aa_go (aa_cVv iX9_victoryFrom_177 (c_set25 hW1 hs_r0 (by omega) hs2 _) (by omega) lc_X4_set lk_X9_60 (sh_25 hW1) rfl rfl (Nat.le_of_ble_eq_true rfl)) (aa_go (aa_iload9 iX9_victoryFrom_180) ?_)))))))
        refine aa_zretB iX9_victoryFrom_182 rfl ?_
        exact ⟨rfl, hF.sL s _, hKI1.set kw⟩
    -- the loop: 89
    have loop : ∀ f k (σ1 : aa_St) (w : Bool), pl_n P + pl_b P - k < f → k ≤ pl_n P + pl_b P → FrL (r 0) σ σ1 → KI P (σ1.2.1 (r 0)) → w = (if pl_mv P h s = 0 then e == 1 else wiA P e h s k) → aa_V mX9_victoryFrom (5 + m) 89 [some (.ref 24), some (.int (nI s)), some (.int (nI h)), some (.int (nI e)), some (.int (nI dp)), some (.int (nI (4 * h + 2 * e))), some (.int (nI 0)), some (.int (nI (pl_mv P h s))), some (.int (nI (pl_n P + pl_b P))), some (.int (nI w.toNat)), some (.int (nI k))] [] σ1 (fun r1 σ' => r1 = some (.int (nI (wi P e h s).toNat)) ∧ (FrL (r 0) σ σ' ∧ KI P (σ'.2.1 (r 0)))) := by
      intro f
      induction f with
      | zero => intro k σ1 w g1; omega
      | succ f ihf =>
        intro k σ1 w g1 g2 hF hKI1 hw
        have hW1 := hW.of2 hF.2.1
        have hX1 : XP P hs σ1.1 := by rw [hF.1]; exact hX
        refine aa_go (aa_iload10 iX9_victoryFrom_89) (aa_go (aa_iload8 iX9_victoryFrom_91) ?_)
        refine aa_ic_geN iX9_victoryFrom_93 (by omega) (by omega) (fun g3 => ?_) (fun g3 => ?_)
        · skip
          have e1 : k = pl_n P + pl_b P := by omega
          have e2 : w = wi P e h s := by rw [hw, wi_of ok, e1]
          rw [e2]
          exact fin σ1 _ hF hKI1
        · skip
          refine aa_go (aa_iload9 iX9_victoryFrom_96) ?_
          refine aa_if_neB iX9_victoryFrom_98 (fun g4 => ?_) (fun g4 => ?_)
          · skip
            have e2 : w = wi P e h s := by
              rw [wi_of ok]
              by_cases h0 : pl_mv P h s = 0
              · rw [if_pos h0] at hw ⊢; exact hw
              · rw [if_neg h0] at hw ⊢
                rw [hw] at g4
                rw [hw, g4, wiA_mono g2 g4]
            rw [e2]
            exact fin σ1 _ hF hKI1
          · skip
            refine aa_go (aa_iload7 iX9_victoryFrom_101) (aa_go (aa_iload10 iX9_victoryFrom_103) (aa_go (aa_ishrN iX9_victoryFrom_105 (by omega) (by omega)) (aa_go (aa_iconst iX9_victoryFrom_106 ki_1) (aa_go (aa_ibit iX9_victoryFrom_107) ?_))))
            refine aa_if_eqB iX9_victoryFrom_108 (fun g5 => ?_) (fun g5 => ?_)
            · skip
              rw [mv_bit g3] at g5
              refine aa_go (aa_iincN10 (k := 1) iX9_victoryFrom_143 rfl (by decide)) (aa_go (aa_goto iX9_victoryFrom_146) ?_)
              refine ihf (k + 1) σ1 w (by omega) (by omega) hF hKI1 ?_
              rw [hw, wiA_f g5]
            · skip
              rw [mv_bit g3] at g5
              have mu := pl_mu_lt ok g5
              have nlt := pl_nx_lt ok hs2 g3
              obtain ⟨σ2, ⟨hF2, hKI2⟩, hS2⟩ := ih (pl_mu P (pl_nx P s k)) (by omega) (pl_nx P s k) (1 - h) (dp + 1) σ1 (Nat.le_refl _) nlt (by omega) (by omega) hW1 hX1 hKI1
              have hm0 : ¬ pl_mv P h s = 0 := fun q => by
                have := mv_bit (P := P) (h := h) (s := s) g3
                rw [q, g5] at this; simp at this
              have hstep : (w || !wi P e (1 - h) (pl_nx P s k)) = (if pl_mv P h s = 0 then e == 1 else wiA P e h s (k + 1)) := by
                rw [if_neg hm0, wiA_t g5, hw, if_neg hm0]
              refine aa_go (aa_aload0 iX9_victoryFrom_111) (aa_go (aa_aload0 iX9_victoryFrom_112) (aa_go (aa_getR iX9_victoryFrom_113 fl_X9_31 (sh_24 hW1) rfl) (aa_go (aa_iload1 iX9_victoryFrom_116) (aa_go (aa_iload10 iX9_victoryFrom_117) (aa_go (aa_cVi iX9_victoryFrom_119 (c_X6_behind hW1 hX1 g3) (by omega) lc_X6_behind lk_X9_57 (sh_7 hW1) rfl rfl (Nat.le_of_ble_eq_true rfl)) (aa_go (aa_iconst iX9_victoryFrom_122 ki_1) (aa_go (aa_iload2 iX9_victoryFrom_123) ?_)))))))
              refine aa_go (aa_isubN iX9_victoryFrom_124 (by omega)) (aa_go (aa_iload3 iX9_victoryFrom_125) (aa_go (aa_iload4 iX9_victoryFrom_126) (aa_go (aa_iconst iX9_victoryFrom_128 ki_1) (aa_go (aa_iaddN iX9_victoryFrom_129 ) (aa_go (aa_cVi iX9_victoryFrom_130 (hS2) (by omega) lc_X9_victoryFrom lk_X9_39 (sh_24 hW1) rfl rfl (Nat.le_of_ble_eq_true rfl)) ?_)))))
              refine aa_if_neB iX9_victoryFrom_133 (fun g6 => ?_) (fun g6 => ?_)
              · skip
                refine aa_go (aa_iconst iX9_victoryFrom_140 ki_0) (aa_go (aa_istore9 iX9_victoryFrom_141 rfl (by decide)) (aa_go (aa_iincN10 (k := 1) iX9_victoryFrom_143 rfl (by decide)) (aa_go (aa_goto iX9_victoryFrom_146) ?_)))
                refine ihf (k + 1) σ2 false (by omega) (by omega) (hF.tr hF2) hKI2 ?_
                rw [← hstep, g6, g4]; rfl
              · skip
                refine aa_go (aa_iconst iX9_victoryFrom_136 ki_1) (aa_go (aa_goto iX9_victoryFrom_137) (aa_go (aa_istore9 iX9_victoryFrom_141 rfl (by decide)) (aa_go (aa_iincN10 (k := 1) iX9_victoryFrom_143 rfl (by decide)) (aa_go (aa_goto iX9_victoryFrom_146) ?_))))
                refine ihf (k + 1) σ2 true (by omega) (by omega) (hF.tr hF2) hKI2 ?_
                rw [← hstep, g6]; simp
    have key : aa_V mX9_victoryFrom (5 + m) 0 [some (.ref 24), some (.int (nI s)), some (.int (nI h)), some (.int (nI e)), some (.int (nI dp)), none, none, none, none, none, none] [] σ (fun r1 σ' => r1 = some (.int (nI (wi P e h s).toNat)) ∧ (FrL (r 0) σ σ' ∧ KI P (σ'.2.1 (r 0)))) := by
      refine aa_go (aa_iconst iX9_victoryFrom_0 ki_4) (aa_go (aa_iload2 iX9_victoryFrom_1) (aa_go (aa_imulN iX9_victoryFrom_2 ) (aa_go (aa_iconst iX9_victoryFrom_3 ki_2) (aa_go (aa_iload3 iX9_victoryFrom_4) (aa_go (aa_imulN iX9_victoryFrom_5 ) (aa_go (aa_iaddN iX9_victoryFrom_6 ) (aa_go (aa_istore5 iX9_victoryFrom_7 rfl (by decide)) ?_)))))))
      refine aa_go (aa_aload0 iX9_victoryFrom_9) (aa_go (aa_getR iX9_victoryFrom_10 fl_X9_12 (sh_24 hW) rfl) (aa_go (aa_iload1 iX9_victoryFrom_13) (aa_go (aa_cVl iX9_victoryFrom_14 (hv ▸ c_at25 hW hs_r0 (by omega) hs2) (by omega) lc_X4_at lk_X9_43 (sh_25 hW) rfl rfl (Nat.le_of_ble_eq_true rfl)) (aa_go (aa_iload5 iX9_victoryFrom_17) (aa_go (aa_lshrN iX9_victoryFrom_19 (by omega) (by omega)) (aa_go (aa_l2iN iX9_victoryFrom_20) (aa_go (aa_iconst iX9_victoryFrom_21 ki_3) ?_)))))))
      refine aa_go (aa_iandN iX9_victoryFrom_22 ) ?_
      refine aa_go (aa_top (y := nI (fd v (4 * h + 2 * e) 2)) (by rw [and3])) ?_
      refine aa_go (aa_istore6 iX9_victoryFrom_23 rfl (by decide)) (aa_go (aa_iload6 iX9_victoryFrom_25) ?_)
      have fl := fd_lt v (4 * h + 2 * e) 2
      have hk1 := (hK h e hh he).1
      refine aa_if_neN iX9_victoryFrom_27 (by omega) (fun h1 => ?_) (fun h1 => ?_)
      · skip
        have h2 : fd v (4 * h + 2 * e) 2 = (if wi P e h s then 2 else 1) := hk1.resolve_left h1
        refine aa_go (aa_iload6 iX9_victoryFrom_37) (aa_go (aa_iconst iX9_victoryFrom_39 ki_2) ?_)
        refine aa_ic_neN iX9_victoryFrom_40 (by omega) (by omega) (fun h3 => ?_) (fun h3 => ?_)
        · skip
          refine aa_go (aa_iconst iX9_victoryFrom_47 ki_0) ?_
          refine aa_zretF iX9_victoryFrom_48 rfl ?_
          have : wi P e h s = false := by
            cases h4 : wi P e h s with
            | false => rfl
            | true => rw [h4] at h2; exact absurd h2 h3
          exact ⟨by rw [this]; rfl, FrL.rf, hKI⟩
        · skip
          refine aa_go (aa_iconst iX9_victoryFrom_43 ki_1) (aa_go (aa_goto iX9_victoryFrom_44) ?_)
          refine aa_zretT iX9_victoryFrom_48 rfl ?_
          have : wi P e h s = true := by
            cases h4 : wi P e h s with
            | true => rfl
            | false => rw [h4, h3] at h2; exact absurd h2 (by decide)
          exact ⟨by rw [this]; rfl, FrL.rf, hKI⟩
      · skip
        rw [h1]
        refine aa_go (aa_iload4 iX9_victoryFrom_30) (aa_go (aa_bipush iX9_victoryFrom_32 kb_40) ?_)
        refine aa_ic_leN iX9_victoryFrom_34 (by omega) (by omega) (fun h3 => ?_) (fun h3 => ?_)
        · skip
          refine aa_go (aa_aload0 iX9_victoryFrom_49) (aa_go (aa_getR iX9_victoryFrom_50 fl_X9_31 (sh_24 hW) rfl) (aa_go (aa_iload1 iX9_victoryFrom_53) (aa_go (aa_iload2 iX9_victoryFrom_54) (aa_go (aa_cVi iX9_victoryFrom_55 (c_X6_moves hW hX (by omega)) (by omega) lc_X6_moves lk_X9_47 (sh_7 hW) rfl rfl (Nat.le_of_ble_eq_true rfl)) (aa_go (aa_istore7 iX9_victoryFrom_58 rfl (by decide)) (aa_go (aa_aload0 iX9_victoryFrom_60) (aa_go (aa_getR iX9_victoryFrom_61 fl_X9_31 (sh_24 hW) rfl) ?_)))))))
          refine aa_go (aa_cVi iX9_victoryFrom_64 (c_X6_steps hW hX) (by omega) lc_X6_steps lk_X9_53 (sh_7 hW) rfl rfl (Nat.le_of_ble_eq_true rfl)) (aa_go (aa_istore8 iX9_victoryFrom_67 rfl (by decide)) (aa_go (aa_iload7 iX9_victoryFrom_69) ?_))
          refine aa_if_neN iX9_victoryFrom_71 (by omega) (fun h4 => ?_) (fun h4 => ?_)
          · skip
            refine aa_go (aa_iconst iX9_victoryFrom_83 ki_0) (aa_go (aa_istore9 iX9_victoryFrom_84 rfl (by decide)) (aa_go (aa_iconst iX9_victoryFrom_86 ki_0) (aa_go (aa_istore10 iX9_victoryFrom_87 rfl (by decide)) ?_)))
            exact loop (pl_n P + pl_b P + 1) 0 σ false (by omega) (by omega) FrL.rf hKI (by rw [if_neg h4]; rfl)
          · skip
            refine aa_go (aa_iload3 iX9_victoryFrom_74) (aa_go (aa_iconst iX9_victoryFrom_75 ki_1) ?_)
            refine aa_ic_neN iX9_victoryFrom_76 (by omega) (by omega) (fun h5 => ?_) (fun h5 => ?_)
            · skip
              refine aa_go (aa_iconst iX9_victoryFrom_83 ki_0) (aa_go (aa_istore9 iX9_victoryFrom_84 rfl (by decide)) (aa_go (aa_iconst iX9_victoryFrom_86 ki_0) (aa_go (aa_istore10 iX9_victoryFrom_87 rfl (by decide)) ?_)))
              exact loop (pl_n P + pl_b P + 1) 0 σ false (by omega) (by omega) FrL.rf hKI (by rw [if_pos h4, beq_eq_false_iff_ne.mpr h5])
            · skip
              refine aa_go (aa_iconst iX9_victoryFrom_79 ki_1) (aa_go (aa_goto iX9_victoryFrom_80) (aa_go (aa_istore9 iX9_victoryFrom_84 rfl (by decide)) (aa_go (aa_iconst iX9_victoryFrom_86 ki_0) (aa_go (aa_istore10 iX9_victoryFrom_87 rfl (by decide)) ?_))))
              exact loop (pl_n P + pl_b P + 1) 0 σ true (by omega) (by omega) FrL.rf hKI (by rw [if_pos h4, h5]; rfl)
        · skip
          omega
    obtain ⟨r1, σ', ⟨rfl, h1⟩, hS⟩ := aa_S_of (avs := [.ref 24, .int (nI s), .int (nI h), .int (nI e), .int (nI dp)]) (by decide) 6 [some (.ref 24), some (.int (nI s)), some (.int (nI h)), some (.int (nI e)), some (.int (nI dp)), none, none, none, none, none, none] rfl rfl key
    exact ⟨σ', h1, hS⟩
end
