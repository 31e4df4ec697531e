def eo (h k : Nat) : Nat := 48 + 4 * h + (if k = nx3 h then 0 else 2)
def KKs (P : pl_T) (s : Nat) (x : Int64) : Prop := ∃ v, x = lN v ∧ v < 2 ^ 60 ∧ (∀ lk h, lk < 8 → h ≤ 2 → fd v (6 * lk + 2 * h) 2 = 0 ∨ fd v (6 * lk + 2 * h) 2 = kp P lk h s + 1) ∧ ∀ h k, h ≤ 2 → k ≤ 2 → k ≠ h → fd v (eo h k) 2 = 0 ∨ fd v (eo h k) 2 = if es P h k s then 2 else 1
def KK (P : pl_T) (f : Nat → Int64) : Prop := ∀ s, s < 2 ^ (pl_n P + pl_b P) → KKs P s (f s)
theorem KK.set {P : pl_T} {σ : aa_St} {q s : Nat} {x : Int64} (h : KK P (σ.2.1 q)) (hx : KKs P s x) : KK P ((aa_sL σ q s x).2.1 q) := by
  intro t ht
  show KKs P t (aa_u2 σ.2.1 q s x q t)
  rw [aa_u2_eq]
  show KKs P t (if t = s then x else σ.2.1 q t)
  by_cases c : t = s
  · rw [if_pos c, c]; exact hx
  · rw [if_neg c]; exact h t ht
theorem KKs_k {P : pl_T} {s v lk h : Nat} (ok : pl_ok P) (hl : lk < 8) (hh : h ≤ 2) (hv : v < 2 ^ 60) (hK : ∀ lk h, lk < 8 → h ≤ 2 → fd v (6 * lk + 2 * h) 2 = 0 ∨ fd v (6 * lk + 2 * h) 2 = kp P lk h s + 1) (hE : ∀ h k, h ≤ 2 → k ≤ 2 → k ≠ h → fd v (eo h k) 2 = 0 ∨ fd v (eo h k) 2 = if es P h k s then 2 else 1) : KKs P s (lN (v ||| (kp P lk h s + 1) <<< (6 * lk + 2 * h))) := by
  have k2 := kp_2 (lk := lk) ok hh s
  have c4 : kp P lk h s + 1 < 2 ^ 2 := by omega
  refine ⟨_, rfl, bb_or hv (shl_lt c4 (by omega)), fun lk' h' hl' hh' => ?_, fun h' k' hh' hk' hne => ?_⟩
  · by_cases c : lk' = lk ∧ h' = h
    · obtain ⟨rfl, rfl⟩ := c
      right
      rw [fd_self c4]
      rcases hK lk' h' hl' hh' with e | e
      · rw [e, Nat.zero_or]
      · rw [e, Nat.or_self]
    · rw [fd_or c4 (by omega)]
      exact hK lk' h' hl' hh'
  · rw [fd_or c4 (by unfold eo; omega)]
    exact hE h' k' hh' hk' hne
section
variable {r : Nat → Nat} {dy : List aa_Shp} {P : pl_T} {hs : List Nat} {lk : Nat}
theorem c_X5_keeperFrom (hr5 : ∀ σ : aa_St, aa_W r dy σ → σ.2.2.1[r 5]? = some (.inl (1, 2 ^ (pl_n P + pl_b P)))) (hl8 : lk < 8) : ∀ m s h dp (σ : aa_St), pl_mu P s ≤ m → s < 2 ^ (pl_n P + pl_b P) → h ≤ 2 → dp + pl_mu P s ≤ 40 → aa_W r dy σ → XP P hs σ.1 → σ.1 46 2 = nI lk → KK P (σ.2.1 (r 5)) →
    ∃ σ' : aa_St, (FrL (r 5) σ σ' ∧ KK P (σ'.2.1 (r 5))) ∧ aa_SX mX5_keeperFrom (5 + m) [.ref 46, .int (nI s), .int (nI h), .int (nI dp)] σ (some (.int (nI (kp P lk h s)))) σ' := by
  intro m
  induction m using Nat.strongRecOn with
  | ind m ih =>
    intro s h dp σ hm hs2 hh hdp hW hX hL hKK
    have ok := hX.ok
    have hn := hX.n14
    have hb := hX.b2
    have p16 := pw16 (k := pl_n P + pl_b P) (by omega)
    have hs_r5 := hr5 σ hW
    have lmv := pl_mv_lt P h s
    have n2 := nx3_le hh
    have n4 := nx3_le n2
    have k2 := kp_2 (lk := lk) ok hh s
    -- the end: 166
    have fin : ∀ (σ1 : aa_St) y5 y9 y10 y11, FrL (r 5) σ σ1 → KK P (σ1.2.1 (r 5)) → aa_V mX5_keeperFrom (5 + m) 166 [some (.ref 46), some (.int (nI s)), some (.int (nI h)), some (.int (nI dp)), some (.int (nI (6 * lk + 2 * h))), some (.int y5), some (.int (nI (pl_mv P h s))), some (.int (nI (pl_n P + pl_b P))), some (.int (nI (kp P lk h s))), y9, y10, y11] [] σ1 (fun r1 σ' => r1 = some (.int (nI (kp P lk h s))) ∧ (FrL (r 5) σ σ' ∧ KK P (σ'.2.1 (r 5)))) := by
      intro σ1 y5 y9 y10 y11 hF hK1
      have hW1 := hW.of2 hF.2.1
      have hs_r5 := hr5 σ1 hW1
      obtain ⟨v, hv, hv60, hvK, hvE⟩ := hK1 s hs2
      refine aa_go (aa_aload0 iX5_keeperFrom_166) (aa_go (aa_getR iX5_keeperFrom_167 fl_X5_12 (sh_46 hW1) rfl) (aa_go (aa_iload1 iX5_keeperFrom_170) (aa_go (aa_aload0 iX5_keeperFrom_171) (aa_go (aa_getR iX5_keeperFrom_172 fl_X5_12 (sh_46 hW1) rfl) (aa_go (aa_iload1 iX5_keeperFrom_175) (aa_go (aa_cVl iX5_keeperFrom_176 (hv ▸ c_at47 hW1 hs_r5 (by omega) hs2) (by omega) lc_X4_at lk_X5_44 (sh_47 hW1) rfl rfl (Nat.le_of_ble_eq_true rfl)) (aa_go (aa_iload8 iX5_keeperFrom_179) ?_)))))))
      refine aa_go (aa_iconst iX5_keeperFrom_181 ki_1) (aa_go (aa_iaddN iX5_keeperFrom_182 ) (aa_go (aa_i2lN iX5_keeperFrom_183 (by omega)) (aa_go (aa_iload4 iX5_keeperFrom_184) (aa_go (aa_lshlN iX5_keeperFrom_186 (by omega)) (aa_go (aa_lorN iX5_keeperFrom_187 ) (aa_go (aa_cVv iX5_keeperFrom_188 (c_set47 hW1 hs_r5 (by omega) hs2 _) (by omega) lc_X4_set lk_X5_58 (sh_47 hW1) rfl rfl (Nat.le_of_ble_eq_true rfl)) (aa_go (aa_iload8 iX5_keeperFrom_191) ?_)))))))
      refine aa_iret iX5_keeperFrom_193 rfl ?_
      exact ⟨rfl, hF.sL s _, hK1.set (KKs_k ok hl8 hh hv60 hvK hvE)⟩
    have loop : ∀ f k (σ1 : aa_St) y5 y11 (a : Nat × Nat), pl_n P + pl_b P - k < f → k ≤ pl_n P + pl_b P → FrL (r 5) σ σ1 → KK P (σ1.2.1 (r 5)) → a = (if pl_mv P h s = 0 then (0, nx3 (nx3 h)) else kpA P lk h s k) → aa_V mX5_keeperFrom (5 + m) 89 [some (.ref 46), some (.int (nI s)), some (.int (nI h)), some (.int (nI dp)), some (.int (nI (6 * lk + 2 * h))), some (.int y5), some (.int (nI (pl_mv P h s))), some (.int (nI (pl_n P + pl_b P))), some (.int (nI a.2)), some (.int (nI a.1)), some (.int (nI k)), y11] [] σ1 (fun r1 σ' => r1 = some (.int (nI (kp P lk h s))) ∧ (FrL (r 5) σ σ' ∧ KK P (σ'.2.1 (r 5)))) := by
      intro f
      induction f with
      | zero => intro k σ1 y5 y11 a g1; omega
      | succ f ihf =>
        intro k σ1 y5 y11 a g1 g2 hF hK1 ha
        have hW1 := hW.of2 hF.2.1
        have hX1 : XP P hs σ1.1 := by rw [hF.1]; exact hX
        have hL1 : σ1.1 46 2 = nI lk := by rw [hF.1]; exact hL
        have al : a.1 ≤ 2 ∧ a.2 ≤ 2 := by
          rw [ha]
          split
          · exact ⟨by show 0 ≤ 2; omega, n4⟩
          · exact kpA_le ok hh s k
        refine aa_go (aa_iload10 iX5_keeperFrom_89) (aa_go (aa_iload7 iX5_keeperFrom_91) ?_)
        refine aa_ic_geN iX5_keeperFrom_93 (by omega) (by omega) (fun g3 => ?_) (fun g3 => ?_)
        · skip
          have e1 : k = pl_n P + pl_b P := by omega
          have e2 : a.2 = kp P lk h s := by
            rw [ha, kp_eq ok, e1]
            split <;> rfl
          rw [e2]
          exact fin σ1 y5 _ _ _ hF hK1
        · skip
          refine aa_go (aa_iload9 iX5_keeperFrom_96) (aa_go (aa_iconst iX5_keeperFrom_98 ki_2) ?_)
          refine aa_ic_geN iX5_keeperFrom_99 (by omega) (by omega) (fun g4 => ?_) (fun g4 => ?_)
          · skip
            have e2 : a.2 = kp P lk h s := by
              rw [kp_eq ok]
              by_cases h0 : pl_mv P h s = 0
              · rw [if_pos h0] at ha ⊢; rw [ha]
              · rw [if_neg h0] at ha ⊢
                rw [ha] at g4 ⊢
                have := kpA_stop g4 (pl_n P + pl_b P - k)
                rw [show k + (pl_n P + pl_b P - k) = pl_n P + pl_b P by omega] at this
                rw [this]
            rw [e2]
            exact fin σ1 y5 _ _ _ hF hK1
          · skip
            refine aa_go (aa_iload6 iX5_keeperFrom_102) (aa_go (aa_iload10 iX5_keeperFrom_104) (aa_go (aa_ishrN iX5_keeperFrom_106 (by omega) (by omega)) (aa_go (aa_iconst iX5_keeperFrom_107 ki_1) (aa_go (aa_ibit iX5_keeperFrom_108) ?_))))
            refine aa_if_eqB iX5_keeperFrom_109 (fun g5 => ?_) (fun g5 => ?_)
            · skip
              rw [mv_bit g3] at g5
              refine aa_go (aa_iincN10 (k := 1) iX5_keeperFrom_160 rfl (by decide)) (aa_go (aa_goto iX5_keeperFrom_163) ?_)
              exact ihf (k + 1) σ1 y5 _ a (by omega) (by omega) hF hK1 (by rw [ha, kpA_f g5])
            · skip
              rw [mv_bit g3] at g5
              have mu := pl_mu_lt ok g5
              have nlt := pl_nx_lt ok hs2 g3
              have hm0 : ¬ pl_mv P h s = 0 := fun q => by
                have := mv_bit (P := P) (h := h) (s := s) g3
                rw [q, g5] at this; simp at this
              rw [if_neg hm0] at ha
              have q2 := kp_2 (lk := lk) ok n2 (pl_nx P s k)
              have l2 := lkd_le lk h (kp P lk (nx3 h) (pl_nx P s k))
              obtain ⟨σ2, ⟨hF2, hK2⟩, hS2⟩ := ih (pl_mu P (pl_nx P s k)) (by omega) (pl_nx P s k) (nx3 h) (dp + 1) σ1 (Nat.le_refl _) nlt n2 (by omega) hW1 hX1 hL1 hK1
              have hW2 := hW1.of2 hF2.2.1
              have hL2 : σ2.1 46 2 = nI lk := by rw [hF2.1]; exact hL1
              refine aa_go (aa_aload0 iX5_keeperFrom_112) (aa_go (aa_aload0 iX5_keeperFrom_113) (aa_go (aa_getR iX5_keeperFrom_114 fl_X5_22 (sh_46 hW1) rfl) (aa_go (aa_iload1 iX5_keeperFrom_117) (aa_go (aa_iload10 iX5_keeperFrom_118) (aa_go (aa_cVi iX5_keeperFrom_120 (c_X6_behind hW1 hX1 g3) (by omega) lc_X6_behind lk_X5_52 (sh_7 hW1) rfl rfl (Nat.le_of_ble_eq_true rfl)) (aa_go (aa_iload2 iX5_keeperFrom_123) (aa_go (aa_cSi iX5_keeperFrom_124 (c_X5_next hh) (by omega) lc_X5_next lk_X5_26 rfl (Nat.le_of_ble_eq_true rfl)) ?_)))))))
              refine aa_go (aa_iload3 iX5_keeperFrom_127) (aa_go (aa_iconst iX5_keeperFrom_128 ki_1) (aa_go (aa_iaddN iX5_keeperFrom_129 ) (aa_go (aa_cVi iX5_keeperFrom_130 (hS2) (by omega) lc_X5_keeperFrom lk_X5_40 (sh_46 hW1) rfl rfl (Nat.le_of_ble_eq_true rfl)) ?_)))
              refine aa_go (aa_istore11 iX5_keeperFrom_133 rfl (by decide)) (aa_go (aa_aload0 iX5_keeperFrom_135) (aa_go (aa_iload2 iX5_keeperFrom_136) (aa_go (aa_iload11 iX5_keeperFrom_137) (aa_go (aa_cVi iX5_keeperFrom_139 (c_X5_liked hW2 hL2 hl8 hh q2) (by omega) lc_X5_liked lk_X5_55 (sh_46 hW2) rfl rfl (Nat.le_of_ble_eq_true rfl)) (aa_go (aa_iload9 iX5_keeperFrom_142) ?_)))))
              refine aa_ic_leN iX5_keeperFrom_144 (by omega) (by omega) (fun g6 => ?_) (fun g6 => ?_)
              · skip
                refine aa_go (aa_iincN10 (k := 1) iX5_keeperFrom_160 rfl (by decide)) (aa_go (aa_goto iX5_keeperFrom_163) ?_)
                refine ihf (k + 1) σ2 y5 _ a (by omega) (by omega) (hF.tr hF2) hK2 ?_
                rw [if_neg hm0, kpA_t g5, ← ha, kpS, if_neg (Nat.not_lt.mpr g6)]
              · skip
                refine aa_go (aa_aload0 iX5_keeperFrom_147) (aa_go (aa_iload2 iX5_keeperFrom_148) (aa_go (aa_iload11 iX5_keeperFrom_149) (aa_go (aa_cVi iX5_keeperFrom_151 (c_X5_liked hW2 hL2 hl8 hh q2) (by omega) lc_X5_liked lk_X5_55 (sh_46 hW2) rfl rfl (Nat.le_of_ble_eq_true rfl)) (aa_go (aa_istore9 iX5_keeperFrom_154 rfl (by decide)) (aa_go (aa_iload11 iX5_keeperFrom_156) (aa_go (aa_istore8 iX5_keeperFrom_158 rfl (by decide)) (aa_go (aa_iincN10 (k := 1) iX5_keeperFrom_160 rfl (by decide)) ?_)))))))
                refine aa_go (aa_goto iX5_keeperFrom_163) ?_
                refine ihf (k + 1) σ2 y5 _ (lkd lk h (kp P lk (nx3 h) (pl_nx P s k)), kp P lk (nx3 h) (pl_nx P s k)) (by omega) (by omega) (hF.tr hF2) hK2 ?_
                rw [if_neg hm0, kpA_t g5, ← ha, kpS, if_pos g6]
    have key : aa_V mX5_keeperFrom (5 + m) 0 [some (.ref 46), some (.int (nI s)), some (.int (nI h)), some (.int (nI dp)), none, none, none, none, none, none, none, none] [] σ (fun r1 σ' => r1 = some (.int (nI (kp P lk h s))) ∧ (FrL (r 5) σ σ' ∧ KK P (σ'.2.1 (r 5)))) := by
      obtain ⟨v, hv, hv60, hvK, hvE⟩ := hKK s hs2
      have fl := fd_lt v (6 * lk + 2 * h) 2
      refine aa_go (aa_bipush iX5_keeperFrom_0 kb_6) (aa_go (aa_aload0 iX5_keeperFrom_2) (aa_go (aa_getE iX5_keeperFrom_3 fl_X5_18 (sh_46 hW) rfl hL) (aa_go (aa_imulN iX5_keeperFrom_6 ) (aa_go (aa_iconst iX5_keeperFrom_7 ki_2) (aa_go (aa_iload2 iX5_keeperFrom_8) (aa_go (aa_imulN iX5_keeperFrom_9 ) (aa_go (aa_iaddN iX5_keeperFrom_10 ) ?_)))))))
      refine aa_go (aa_istore4 iX5_keeperFrom_11 rfl (by decide)) (aa_go (aa_aload0 iX5_keeperFrom_13) (aa_go (aa_getR iX5_keeperFrom_14 fl_X5_12 (sh_46 hW) rfl) (aa_go (aa_iload1 iX5_keeperFrom_17) (aa_go (aa_cVl iX5_keeperFrom_18 (hv ▸ c_at47 hW hs_r5 (by omega) hs2) (by omega) lc_X4_at lk_X5_44 (sh_47 hW) rfl rfl (Nat.le_of_ble_eq_true rfl)) (aa_go (aa_iload4 iX5_keeperFrom_21) (aa_go (aa_lshrN iX5_keeperFrom_23 (by omega) (by omega)) (aa_go (aa_l2iN iX5_keeperFrom_24) ?_)))))))
      refine aa_go (aa_iconst iX5_keeperFrom_25 ki_3) (aa_go (aa_iandN iX5_keeperFrom_26 ) ?_)
      refine aa_go (aa_top (y := nI (fd v (6 * lk + 2 * h) 2)) (by rw [and3])) ?_
      refine aa_go (aa_istore5 iX5_keeperFrom_27 rfl (by decide)) (aa_go (aa_iload5 iX5_keeperFrom_29) ?_)
      refine aa_if_neN iX5_keeperFrom_31 (by omega) (fun h1 => ?_) (fun h1 => ?_)
      · skip
        have h2 := (hvK lk h hl8 hh).resolve_left h1
        refine aa_go (aa_iload5 iX5_keeperFrom_40) (aa_go (aa_iconst iX5_keeperFrom_42 ki_1) (aa_go (aa_isubN iX5_keeperFrom_43 (by omega)) ?_))
        refine aa_iret iX5_keeperFrom_44 rfl ?_
        exact ⟨by rw [h2]; rfl, FrL.rf, hKK⟩
      · skip
        refine aa_go (aa_iload3 iX5_keeperFrom_34) (aa_go (aa_bipush iX5_keeperFrom_35 kb_40) ?_)
        refine aa_ic_leN iX5_keeperFrom_37 (by omega) (by omega) (fun h2 => ?_) (fun h2 => ?_)
        · skip
          refine aa_go (aa_aload0 iX5_keeperFrom_45) (aa_go (aa_getR iX5_keeperFrom_46 fl_X5_22 (sh_46 hW) rfl) (aa_go (aa_iload1 iX5_keeperFrom_49) (aa_go (aa_iload2 iX5_keeperFrom_50) (aa_go (aa_cVi iX5_keeperFrom_51 (c_X6_moves hW hX (by omega)) (by omega) lc_X6_moves lk_X5_34 (sh_7 hW) rfl rfl (Nat.le_of_ble_eq_true rfl)) (aa_go (aa_istore6 iX5_keeperFrom_54 rfl (by decide)) (aa_go (aa_aload0 iX5_keeperFrom_56) (aa_go (aa_getR iX5_keeperFrom_57 fl_X5_22 (sh_46 hW) rfl) ?_)))))))
          refine aa_go (aa_cVi iX5_keeperFrom_60 (c_X6_steps hW hX) (by omega) lc_X6_steps lk_X5_48 (sh_7 hW) rfl rfl (Nat.le_of_ble_eq_true rfl)) (aa_go (aa_istore7 iX5_keeperFrom_63 rfl (by decide)) (aa_go (aa_iload6 iX5_keeperFrom_65) ?_))
          refine aa_if_neN iX5_keeperFrom_67 (by omega) (fun h4 => ?_) (fun h4 => ?_)
          · skip
            refine aa_go (aa_iload2 iX5_keeperFrom_80) (aa_go (aa_istore8 iX5_keeperFrom_81 rfl (by decide)) (aa_go (aa_iconst iX5_keeperFrom_83 ki_0) (aa_go (aa_istore9 iX5_keeperFrom_84 rfl (by decide)) (aa_go (aa_iconst iX5_keeperFrom_86 ki_0) (aa_go (aa_istore10 iX5_keeperFrom_87 rfl (by decide)) ?_)))))
            exact loop (pl_n P + pl_b P + 1) 0 σ _ _ (0, h) (by omega) (by omega) FrL.rf hKK (by rw [if_neg h4]; rfl)
          · skip
            refine aa_go (aa_iload2 iX5_keeperFrom_70) (aa_go (aa_cSi iX5_keeperFrom_71 (c_X5_next hh) (by omega) lc_X5_next lk_X5_26 rfl (Nat.le_of_ble_eq_true rfl)) (aa_go (aa_cSi iX5_keeperFrom_74 (c_X5_next n2) (by omega) lc_X5_next lk_X5_26 rfl (Nat.le_of_ble_eq_true rfl)) (aa_go (aa_goto iX5_keeperFrom_77) (aa_go (aa_istore8 iX5_keeperFrom_81 rfl (by decide)) (aa_go (aa_iconst iX5_keeperFrom_83 ki_0) (aa_go (aa_istore9 iX5_keeperFrom_84 rfl (by decide)) (aa_go (aa_iconst iX5_keeperFrom_86 ki_0) ?_)))))))
            refine aa_go (aa_istore10 iX5_keeperFrom_87 rfl (by decide)) ?_
            exact loop (pl_n P + pl_b P + 1) 0 σ _ _ (0, nx3 (nx3 h)) (by omega) (by omega) FrL.rf hKK (by rw [if_pos h4])
        · skip
          omega
    obtain ⟨r1, σ', ⟨rfl, h1⟩, hS9⟩ := aa_S_of (avs := [.ref 46, .int (nI s), .int (nI h), .int (nI dp)]) (by decide) 8 [some (.ref 46), some (.int (nI s)), some (.int (nI h)), some (.int (nI dp)), none, none, none, none, none, none, none, none] rfl rfl key
    exact ⟨σ', h1, hS9⟩
end
