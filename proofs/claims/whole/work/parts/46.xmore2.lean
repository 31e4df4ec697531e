section
variable {r : Nat → Nat} {dy : List aa_Shp} {P : pl_T} {hs : List Nat} {S : Nat}
theorem c_X10_moreFrom (hr4 : ∀ σ : aa_St, aa_W r dy σ → σ.2.2.1[r 4]? = some (.inl (1, 2 ^ (pl_n P + pl_b P)))) (h38 : r 4 ≠ 38) (hS30 : S < 2 ^ 30) : ∀ m s h dp (σ : aa_St), pl_mu P s ≤ m → s < 2 ^ (pl_n P + pl_b P) → h ≤ 1 → dp + pl_mu P s ≤ 40 → aa_W r dy σ → XP P hs σ.1 → σ.2.1 38 2 = lN S → KW P S (σ.2.1 (r 4)) →
    ∃ σ' : aa_St, (FrL (r 4) σ σ' ∧ KW P S (σ'.2.1 (r 4))) ∧ aa_SX mX10_moreFrom (5 + m) [.ref 38, .int (nI s), .int (nI h), .int (nI dp)] σ (some (.int (iZ (me P h s)))) σ' := by
  intro m
  induction m using Nat.strongRecOn with
  | ind m ih =>
    intro s h dp σ hm hs2 hh hdp hW hX hS hKW
    have ok := hX.ok
    have hn := hX.n14
    have hb := hX.b2
    have p16 := pw16 (k := pl_n P + pl_b P) (by omega)
    have hs_r4 := hr4 σ hW
    have lmv := pl_mv_lt P h s
    have mel := me_le ok h s
    have loop : ∀ f k (σ1 : aa_St) x4 y6 y11 y12 (z : Int), pl_n P + pl_b P - k < f → k ≤ pl_n P + pl_b P → FrL (r 4) σ σ1 → KW P S (σ1.2.1 (r 4)) → z = (if pl_mv P h s = 0 then 0 else meA P h s k) → aa_V mX10_moreFrom (5 + m) 95 [some (.ref 38), some (.int (nI s)), some (.int (nI h)), some (.int (nI dp)), some (.long (lN x4)), none, some (.int y6), some (.int (nI (pl_mv P h s))), some (.int (nI (pl_n P + pl_b P))), some (.int (iZ z)), some (.int (nI k)), y11, y12] [] σ1 (fun r1 σ' => r1 = some (.int (iZ (me P h s))) ∧ (FrL (r 4) σ σ' ∧ KW P S (σ'.2.1 (r 4)))) := by
      intro f
      induction f with
      | zero => intro k σ1 x4 y6 y11 y12 z g1; omega
      | succ f ihf =>
        intro k σ1 x4 y6 y11 y12 z g1 g2 hF hKW1 hz
        have hW1 := hW.of2 hF.2.1
        have hX1 : XP P hs σ1.1 := by rw [hF.1]; exact hX
        have hs_r4 := hr4 σ1 hW1
        have hS1 : σ1.2.1 38 2 = lN S := by rw [hF.2.2 38 h38.symm]; exact hS
        refine aa_go (aa_iload10 iX10_moreFrom_95) (aa_go (aa_iload8 iX10_moreFrom_97) ?_)
        refine aa_ic_geN iX10_moreFrom_99 (by omega) (by omega) (fun g3 => ?_) (fun g3 => ?_)
        · skip
          have e1 : k = pl_n P + pl_b P := by omega
          have e2 : z = me P h s := by rw [hz, me_eq ok, e1]
          rw [e2]
          obtain ⟨v, hv, hvS, hvK⟩ := hKW1 s hs2
          have e3 : iZ (me P h s) + nI 1000 = nI (mz (me P h s)) := by
            rw [iZ_N 1000, iZ_N, iZ_add, mz]
            congr 1
            omega
          have e4 : mz (me P h s) < 2000 := by rw [mz]; omega
          refine aa_go (aa_aload0 iX10_moreFrom_174) (aa_go (aa_getR iX10_moreFrom_175 fl_X10_12 (sh_38 hW1) rfl) (aa_go (aa_iload1 iX10_moreFrom_178) (aa_go (aa_aload0 iX10_moreFrom_179) (aa_go (aa_iload1 iX10_moreFrom_180) (aa_go (aa_cVl iX10_moreFrom_181 (c_X10_cell hW1 hs_r4 (by omega) hs2 hS1 hS30 hv hvS) (by omega) lc_X10_cell lk_X10_56 (sh_38 hW1) rfl rfl (Nat.le_of_ble_eq_true rfl)) (aa_go (aa_iload9 iX10_moreFrom_184) (aa_go (aa_sipush iX10_moreFrom_186 ks_1000) ?_)))))))
          refine aa_go (aa_iadd iX10_moreFrom_189) ?_
          refine aa_go (aa_top (y := nI (mz (me P h s))) (e3)) ?_
          refine aa_go (aa_i2lN iX10_moreFrom_190 (by omega)) (aa_go (aa_bipush iX10_moreFrom_191 kb_16) (aa_go (aa_iload2 iX10_moreFrom_193) (aa_go (aa_imulN iX10_moreFrom_194 ) (aa_go (aa_lshlN iX10_moreFrom_195 (by omega)) (aa_go (aa_lorN iX10_moreFrom_196 ) (aa_go (aa_cVv iX10_moreFrom_197 (c_set39 hW1 hs_r4 (by omega) hs2 _) (by omega) lc_X4_set lk_X10_59 (sh_39 hW1) rfl rfl (Nat.le_of_ble_eq_true rfl)) (aa_go (aa_iload9 iX10_moreFrom_200) ?_)))))))
          refine aa_iret iX10_moreFrom_202 rfl ?_
          exact ⟨rfl, hF.sL s _, hKW1.set (KWs_add ok hh hvK rfl)⟩
        · skip
          refine aa_go (aa_iload7 iX10_moreFrom_102) (aa_go (aa_iload10 iX10_moreFrom_104) (aa_go (aa_ishrN iX10_moreFrom_106 (by omega) (by omega)) (aa_go (aa_iconst iX10_moreFrom_107 ki_1) (aa_go (aa_ibit iX10_moreFrom_108) ?_))))
          refine aa_if_eqB iX10_moreFrom_109 (fun g5 => ?_) (fun g5 => ?_)
          · skip
            rw [mv_bit g3] at g5
            refine aa_go (aa_iincN10 (k := 1) iX10_moreFrom_168 rfl (by decide)) (aa_go (aa_goto iX10_moreFrom_171) ?_)
            exact ihf (k + 1) σ1 x4 y6 _ _ z (by omega) (by omega) hF hKW1 (by rw [hz, meA_f g5])
          · skip
            rw [mv_bit g3] at g5
            have mu := pl_mu_lt ok g5
            have nlt := pl_nx_lt ok hs2 g3
            have hm0 : ¬ pl_mv P h s = 0 := fun q => by
              have := mv_bit (P := P) (h := h) (s := s) g3
              rw [q, g5] at this; simp at this
            rw [if_neg hm0] at hz
            obtain ⟨σ2, ⟨hF2, hKW2⟩, hS2⟩ := ih (pl_mu P (pl_nx P s k)) (by omega) (pl_nx P s k) (1 - h) (dp + 1) σ1 (Nat.le_refl _) nlt (by omega) (by omega) hW1 hX1 hS1 hKW1
            have b1 := me_le ok (1 - h) (pl_nx P s k)
            have b2 := meA_le ok h s k
            have b3 := pl_wo_le ok (bd s (pl_nx P s k))
            have nlt31 : pl_nx P s k < 2147483648 := by omega
            have bdl : bd s (pl_nx P s k) < 2147483648 := Nat.lt_of_lt_of_le (bb_bd hs2) (by omega)
            refine aa_go (aa_aload0 iX10_moreFrom_112) (aa_go (aa_getR iX10_moreFrom_113 fl_X10_22 (sh_38 hW1) rfl) (aa_go (aa_iload1 iX10_moreFrom_116) (aa_go (aa_iload10 iX10_moreFrom_117) (aa_go (aa_cVi iX10_moreFrom_119 (c_X6_behind hW1 hX1 g3) (by omega) lc_X6_behind lk_X10_49 (sh_7 hW1) rfl rfl (Nat.le_of_ble_eq_true rfl)) (aa_go (aa_istore11 iX10_moreFrom_122 rfl (by decide)) (aa_go (aa_aload0 iX10_moreFrom_124) (aa_go (aa_getR iX10_moreFrom_125 fl_X10_22 (sh_38 hW1) rfl) ?_)))))))
            refine aa_go (aa_iload1 iX10_moreFrom_128) (aa_go (aa_iload11 iX10_moreFrom_129) (aa_go (aa_iconst iX10_moreFrom_131 ki_m1) (aa_go (aa_ixor iX10_moreFrom_132) (aa_go (aa_iandC iX10_moreFrom_133) (aa_go (aa_cVi iX10_moreFrom_134 (c_X6_worthOf hW1 hX1 bdl) (by omega) lc_X6_worthOf lk_X10_52 (sh_7 hW1) rfl rfl (Nat.le_of_ble_eq_true rfl)) (aa_go (aa_aload0 iX10_moreFrom_137) (aa_go (aa_iload11 iX10_moreFrom_138) ?_)))))))
            refine aa_go (aa_iconst iX10_moreFrom_140 ki_1) (aa_go (aa_iload2 iX10_moreFrom_141) (aa_go (aa_isubN iX10_moreFrom_142 (by omega)) (aa_go (aa_iload3 iX10_moreFrom_143) (aa_go (aa_iconst iX10_moreFrom_144 ki_1) (aa_go (aa_iaddN iX10_moreFrom_145 ) (aa_go (aa_cVi iX10_moreFrom_146 (hS2) (by omega) lc_X10_moreFrom lk_X10_30 (sh_38 hW1) rfl rfl (Nat.le_of_ble_eq_true rfl)) (aa_go (aa_isub iX10_moreFrom_149) ?_)))))))
            refine aa_go (aa_top (y := iZ ((pl_wo P (bd s (pl_nx P s k)) : Int) - me P (1 - h) (pl_nx P s k))) (by rw [iZ_N, iZ_sub])) ?_
            refine aa_go (aa_istore12 iX10_moreFrom_150 rfl (by decide)) (aa_go (aa_iload12 iX10_moreFrom_152) (aa_go (aa_iload9 iX10_moreFrom_154) ?_))
            refine aa_ic_le iX10_moreFrom_156 (fun g6 => ?_) (fun g6 => ?_)
            · skip
              rw [iZ_le (by omega) (by omega) (by omega) (by omega)] at g6
              refine aa_go (aa_iload9 iX10_moreFrom_164) (aa_go (aa_istore9 iX10_moreFrom_166 rfl (by decide)) (aa_go (aa_iincN10 (k := 1) iX10_moreFrom_168 rfl (by decide)) (aa_go (aa_goto iX10_moreFrom_171) ?_)))
              refine ihf (k + 1) σ2 x4 y6 _ _ z (by omega) (by omega) (hF.tr hF2) hKW2 ?_
              rw [if_neg hm0, meA_t g5]; omega
            · skip
              rw [iZ_le (by omega) (by omega) (by omega) (by omega)] at g6
              refine aa_go (aa_iload12 iX10_moreFrom_159) (aa_go (aa_goto iX10_moreFrom_161) (aa_go (aa_istore9 iX10_moreFrom_166 rfl (by decide)) (aa_go (aa_iincN10 (k := 1) iX10_moreFrom_168 rfl (by decide)) (aa_go (aa_goto iX10_moreFrom_171) ?_))))
              refine ihf (k + 1) σ2 x4 y6 _ _ _ (by omega) (by omega) (hF.tr hF2) hKW2 ?_
              rw [if_neg hm0, meA_t g5]; omega
    -- from 38
    have tail : ∀ x4 w, (w = 0 ∨ w = mz (me P h s)) → aa_V mX10_moreFrom (5 + m) 38 [some (.ref 38), some (.int (nI s)), some (.int (nI h)), some (.int (nI dp)), some (.long (lN x4)), none, none, none, none, none, none, none, none] [.int (nI w)] σ (fun r1 σ' => r1 = some (.int (iZ (me P h s))) ∧ (FrL (r 4) σ σ' ∧ KW P S (σ'.2.1 (r 4)))) := by
      intro x4 w hw
      have w2 : w < 2000 := by
        rcases hw with e | e
        · omega
        · rw [e, mz]; omega
      refine aa_go (aa_istore6 iX10_moreFrom_38 rfl (by decide)) (aa_go (aa_iload6 iX10_moreFrom_40) ?_)
      refine aa_if_neN iX10_moreFrom_42 (by omega) (fun h1 => ?_) (fun h1 => ?_)
      · skip
        have h2 := hw.resolve_left h1
        refine aa_go (aa_iload6 iX10_moreFrom_51) (aa_go (aa_sipush iX10_moreFrom_53 ks_1000) (aa_go (aa_isub iX10_moreFrom_56 ) ?_))
        refine aa_go (aa_top (y := iZ (me P h s)) (by rw [h2, iZ_N, iZ_N, iZ_sub, mz]; congr 1; omega)) ?_
        refine aa_iret iX10_moreFrom_57 rfl ?_
        exact ⟨rfl, FrL.rf, hKW⟩
      · skip
        refine aa_go (aa_iload3 iX10_moreFrom_45) (aa_go (aa_bipush iX10_moreFrom_46 kb_40) ?_)
        refine aa_ic_leN iX10_moreFrom_48 (by omega) (by omega) (fun h2 => ?_) (fun h2 => ?_)
        · skip
          refine aa_go (aa_aload0 iX10_moreFrom_58) (aa_go (aa_getR iX10_moreFrom_59 fl_X10_22 (sh_38 hW) rfl) (aa_go (aa_iload1 iX10_moreFrom_62) (aa_go (aa_iload2 iX10_moreFrom_63) (aa_go (aa_cVi iX10_moreFrom_64 (c_X6_moves hW hX (by omega)) (by omega) lc_X6_moves lk_X10_39 (sh_7 hW) rfl rfl (Nat.le_of_ble_eq_true rfl)) (aa_go (aa_istore7 iX10_moreFrom_67 rfl (by decide)) (aa_go (aa_aload0 iX10_moreFrom_69) (aa_go (aa_getR iX10_moreFrom_70 fl_X10_22 (sh_38 hW) rfl) ?_)))))))
          refine aa_go (aa_cVi iX10_moreFrom_73 (c_X6_steps hW hX) (by omega) lc_X6_steps lk_X10_45 (sh_7 hW) rfl rfl (Nat.le_of_ble_eq_true rfl)) (aa_go (aa_istore8 iX10_moreFrom_76 rfl (by decide)) (aa_go (aa_iload7 iX10_moreFrom_78) ?_))
          refine aa_if_neN iX10_moreFrom_80 (by omega) (fun h4 => ?_) (fun h4 => ?_)
          · skip
            refine aa_go (aa_sipush iX10_moreFrom_87 ks_m1000) ?_
            refine aa_go (aa_top (y := iZ (meA P h s 0)) (rfl)) ?_
            refine aa_go (aa_istore9 iX10_moreFrom_90 rfl (by decide)) (aa_go (aa_iconst iX10_moreFrom_92 ki_0) (aa_go (aa_istore10 iX10_moreFrom_93 rfl (by decide)) ?_))
            exact loop (pl_n P + pl_b P + 1) 0 σ x4 _ _ _ _ (by omega) (by omega) FrL.rf hKW (by rw [if_neg h4])
          · skip
            refine aa_go (aa_iconst iX10_moreFrom_83 ki_0) (aa_go (aa_goto iX10_moreFrom_84) ?_)
            refine aa_go (aa_top (y := iZ 0) (rfl)) ?_
            refine aa_go (aa_istore9 iX10_moreFrom_90 rfl (by decide)) (aa_go (aa_iconst iX10_moreFrom_92 ki_0) (aa_go (aa_istore10 iX10_moreFrom_93 rfl (by decide)) ?_))
            exact loop (pl_n P + pl_b P + 1) 0 σ x4 _ _ _ _ (by omega) (by omega) FrL.rf hKW (by rw [if_pos h4])
        · skip
          omega
    have key : aa_V mX10_moreFrom (5 + m) 0 [some (.ref 38), some (.int (nI s)), some (.int (nI h)), some (.int (nI dp)), none, none, none, none, none, none, none, none, none] [] σ (fun r1 σ' => r1 = some (.int (iZ (me P h s))) ∧ (FrL (r 4) σ σ' ∧ KW P S (σ'.2.1 (r 4)))) := by
      obtain ⟨v, hv, hvS, hvK⟩ := hKW s hs2
      have hv63 := shr_lt hvS hS30
      refine aa_go (aa_aload0 iX10_moreFrom_0) (aa_go (aa_getR iX10_moreFrom_1 fl_X10_12 (sh_38 hW) rfl) (aa_go (aa_iload1 iX10_moreFrom_4) (aa_go (aa_cVl iX10_moreFrom_5 (hv ▸ c_at39 hW hs_r4 (by omega) hs2) (by omega) lc_X4_at lk_X10_34 (sh_39 hW) rfl rfl (Nat.le_of_ble_eq_true rfl)) (aa_go (aa_lstore4 iX10_moreFrom_8 rfl (by decide)) (aa_go (aa_lload4 iX10_moreFrom_10) (aa_go (aa_bipush iX10_moreFrom_12 kb_32) (aa_go (aa_lushrN iX10_moreFrom_14 (by omega) (by omega)) ?_)))))))
      refine aa_go (aa_aload0 iX10_moreFrom_15) (aa_go (aa_getL iX10_moreFrom_16 fl_X10_18 (sh_38 hW) rfl) ?_)
      refine aa_go (aa_topl (y := lN S) (hS)) ?_
      refine aa_go (aa_lcmp iX10_moreFrom_19) ?_
      refine aa_if_neC iX10_moreFrom_20 (by omega) (by omega) (fun h1 => ?_) (fun h1 => ?_)
      · skip
        refine aa_go (aa_iconst iX10_moreFrom_37 ki_0) ?_
        exact tail _ 0 (Or.inl rfl)
      · skip
        refine aa_go (aa_lload4 iX10_moreFrom_23) (aa_go (aa_bipush iX10_moreFrom_25 kb_16) (aa_go (aa_iload2 iX10_moreFrom_27) (aa_go (aa_imulN iX10_moreFrom_28 ) (aa_go (aa_lshrN iX10_moreFrom_29 (by omega) (by omega)) (aa_go (aa_l2iN iX10_moreFrom_30) (aa_go (aa_ldc iX10_moreFrom_31 ld_X10_38) (aa_go (aa_iandN iX10_moreFrom_33 ) ?_)))))))
        refine aa_go (aa_top (y := nI (fd v (16 * h) 16)) (by rw [and65535])) ?_
        refine aa_go (aa_goto iX10_moreFrom_34) ?_
        exact tail _ _ (hvK h1 h hh)
    obtain ⟨r1, σ', ⟨rfl, h1⟩, hS9⟩ := aa_S_of (avs := [.ref 38, .int (nI s), .int (nI h), .int (nI dp)]) (by decide) 9 [some (.ref 38), some (.int (nI s)), some (.int (nI h)), some (.int (nI dp)), none, none, none, none, none, none, none, none, none] rfl rfl key
    exact ⟨σ', h1, hS9⟩
end
