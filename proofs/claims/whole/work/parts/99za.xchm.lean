/-! THE REFERENCE: chances -/
def MMC (P : pl_T) (c e Q : Nat) (σ : aa_St) : Prop := MMQ Q σ.1 ∧ σ.1 63 12 = nI e ∧ ∀ w t, w ≤ 1 → t < 16384 → σ.1 74 (w * 65536 + t) = nI Q → σ.2.1 82 (w * 16384 + t) = lN (cM P c e w t)
theorem MMC.put {P : pl_T} {c e Q w t : Nat} {σ : aa_St} (h : MMC P c e Q σ) (hw : w ≤ 1) (ht : t < 16384) (b : Int32) : MMC P c e Q (aa_sI (aa_sI (aa_sL σ 82 (w * 16384 + t) (lN (cM P c e w t))) 74 (w * 65536 + t) (nI Q)) 75 (w * 65536 + t) b) := by
  obtain ⟨⟨h1, h2, h3⟩, h5, h4⟩ := h
  refine ⟨⟨by rw [sI_ne (by decide), sI_ne (by decide)]; exact h1, h2, fun p hp => ?_⟩, by rw [sI_ne (by decide), sI_ne (by decide)]; exact h5, fun w2 t2 hw2 ht2 hm => ?_⟩
  · rw [sI_ne (by decide), sI_at]
    by_cases c : p = w * 65536 + t
    · rw [if_pos c]; exact ⟨Q, Nat.le_refl _, rfl⟩
    · rw [if_neg c]; exact h3 p hp
  · show (aa_sL σ 82 (w * 16384 + t) (lN (cM P c e w t))).2.1 82 (w2 * 16384 + t2) = _
    rw [sL_at]
    by_cases c : w2 * 16384 + t2 = w * 16384 + t
    · have e1 : w2 = w := by omega
      have e2 : t2 = t := by omega
      rw [if_pos c, e1, e2]
    · rw [if_neg c]
      refine h4 w2 t2 hw2 ht2 ?_
      have nq : ¬ w2 * 65536 + t2 = w * 65536 + t := fun q => c (by rw [(ci_eq ht ht2 q).1, (ci_eq ht ht2 q).2])
      rw [sI_ne (by decide), sI_at, if_neg nq] at hm
      exact hm
def bL (P : pl_T) (c e h s : Nat) (l : List Nat) : Int64 := if l = [] then -1 else lN (cMA P c e h s l).2
theorem bL_c {P : pl_T} (c e h s : Nat) (l : List Nat) (j : Nat) (hB : (cMA P c e h s l).2 < 9223372036854775808) (hv : cvl P s j (cM P c e (1 - h) (pl_nx P s j)) < 9223372036854775808) : (if lN (cvl P s j (cM P c e (1 - h) (pl_nx P s j))) < bL P c e h s l then bL P c e h s l else lN (cvl P s j (cM P c e (1 - h) (pl_nx P s j)))) = bL P c e h s (l ++ [j]) := by
  have e1 : bL P c e h s (l ++ [j]) = lN (max (cMA P c e h s l).2 (cvl P s j (cM P c e (1 - h) (pl_nx P s j)))) := by
    rw [bL, if_neg (by simp), cMA_c]; rfl
  rw [e1]
  by_cases q : l = []
  · subst q
    have e2 : bL P c e h s [] = lZ (-1) := by rw [bL, if_pos rfl]; rfl
    rw [e2, lZ_N, if_neg (fun q => by rw [lZ_lt (by omega) (by omega) (by omega) (by omega)] at q; omega), ← lZ_N]
    congr 1
  · rw [bL, if_neg q, lN_max hB hv]
theorem wc_bd {k : Nat} (hk : k ≤ 6) : 0 < wc k ∧ wc k ≤ 518400000000 := cM_wp ⟨k, by omega⟩
theorem cm_sub {P : pl_T} (ok : pl_ok P) (hb : pl_b P = 0) {c e w s j : Nat} (hc : c ≤ 10) (he : e ≤ 1) (h6 : pl_cn s 32 ≤ 6) (hj : pl_cn (pl_nx P s j) 32 < pl_cn s 32) : cM P c e (1 - w) (pl_nx P s j) * (cpt s / wc (pl_cn (pl_nx P s j) 32)) ≤ cpt s := by
  have q3 := cM_bd ok hb (c := c) (e := e) hc he (1 - w) (pl_nx P s j) (by omega)
  have q4 : wc (pl_cn (pl_nx P s j) 32) * (cpt s / wc (pl_cn (pl_nx P s j) 32)) = cpt s := cM_wq2 ⟨pl_cn s 32 - 1, by omega⟩ ⟨pl_cn (pl_nx P s j) 32, by omega⟩ (by show pl_cn (pl_nx P s j) 32 ≤ pl_cn s 32 - 1; omega)
  calc _ ≤ wc (pl_cn (pl_nx P s j) 32) * (cpt s / wc (pl_cn (pl_nx P s j) 32)) := Nat.mul_le_mul_right _ q3
    _ = _ := q4
section
variable {r : Nat → Nat} {dy : List aa_Shp} {P : pl_T} {Q : Nat}
theorem m_chance (hb : pl_b P = 0) {c e : Nat} (hc : c ≤ 10) (he : e ≤ 1) : ∀ f t w (σ : aa_St), pl_cn t 32 ≤ f → pl_cn t 32 ≤ 6 → t < 2 ^ pl_n P → w ≤ 1 → aa_W r dy σ → MP P σ.1 → MMC P c e Q σ → ∃ σ' : aa_St, (FrM σ σ' ∧ MMC P c e Q σ') ∧ aa_SX mX12_chance (5 + f) [.ref 63, .int (nI t), .int (nI w), .int (nI c)] σ (some (.long (lN (cM P c e w t)))) σ' := by
  intro f
  induction f using Nat.strongRecOn with
  | ind f ih =>
    intro t w σ hf h6 ht hw hW hM hK
    have ok := hM.1
    have h14 := ok.1
    have p14 : 2 ^ pl_n P ≤ 16384 := Nat.pow_le_pow_right (by decide : 0 < 2) h14
    have pl : w * 65536 + t < 196608 := by omega
    have dt := dv_id hb ht
    have t14 : t < 16384 := Nat.lt_of_lt_of_le ht p14
    have ci := ci_lt hw t14
    have mlE : mlk P w t (pl_n P) = pl_ML P w t := by have := mlk_all P w t; rw [hb] at this; exact this
    have lenb := ml_len ok hb w t
    have l60 := aa_le_60 (pl_cn t 32)
    have mb : 0 < cpt t ∧ cpt t ≤ 518400000000 := wc_bd (show pl_cn t 32 - 1 ≤ 6 by omega)
    have t16 : t < 65536 := Nat.lt_trans t14 (by decide)
    have ms14 : msT P 14 = pl_n P := by
      rw [msT]
      split
      · omega
      · rfl
    -- from 207, with the result
    have t207 : ∀ (σ1 : aa_St) (z9 z11 : Int64) (i13 : Int32) (y14 y15 y16 y18 : Option Value), FrM σ σ1 → MMC P c e Q σ1 → aa_V mX12_chance (5 + f) 207 [some (.ref 63), some (.int (nI t)), some (.int (nI w)), some (.int (nI c)), some (.int (nI (w * 65536 + t))), some (.int (nI (w * 16384 + t))), some (.int (nI (pl_cn t 32))), some (.long (lN (cpt t))), none, some (.long z9), none, some (.long z11), none, some (.int i13), y14, y15, y16, none, y18, none] [.long (lN (cM P c e w t))] σ1 (fun ra σ' => ra = some (.long (lN (cM P c e w t))) ∧ FrM σ σ' ∧ MMC P c e Q σ') := by
      intro σ1 z9 z11 i13 y14 y15 y16 y18 hF hK1
      have hW1 := hF.W hW
      have hWs := hW1.sL 82 (w * 16384 + t) (lN (cM P c e w t))
      have hS := m_keeps hWs pl (show (aa_sL σ1 82 (w * 16384 + t) (lN (cM P c e w t))).1 63 24 = nI Q from hK1.1.1) (nI 0)
      have hFp := FrM.put (σ := σ1) (w * 65536 + t) (w * 16384 + t) (lN (cM P c e w t)) (nI Q) (nI 0)
      have hKp := hK1.put hw t14 (nI 0)
      refine aa_go (aa_lstore14 iX12_chance_207 rfl (by decide)) (aa_go (aa_aload0 iX12_chance_209) (aa_go (aa_getR iX12_chance_210 fl_X12_271 (sh_63 hW1) rfl) (aa_go (aa_iload5 iX12_chance_213) (aa_go (aa_lload14 iX12_chance_215) (aa_go (aa_lasN iX12_chance_217 (sh_82 hW1) (by omega) (ci)) ?_)))))
      refine aa_go (aa_aload0 iX12_chance_218) (aa_go (aa_iload4 iX12_chance_219) (aa_go (aa_iconst iX12_chance_221 ki_0) (aa_go (aa_cVi iX12_chance_222 (hS) (by omega) lc_X12_keeps lk_X12_186 (sh_63 hWs) rfl rfl (Nat.le_of_ble_eq_true rfl)) (aa_go (aa_pop iX12_chance_225 rfl) (aa_go (aa_lload14 iX12_chance_226) ?_)))))
      refine aa_lret iX12_chance_228 rfl ?_
      exact ⟨rfl, hF.tr hFp, hKp⟩
    have fin : ∀ (σ1 : aa_St) (y15 y16 y18 : Option Value), FrM σ σ1 → MMC P c e Q σ1 → aa_V mX12_chance (5 + f) 155 [some (.ref 63), some (.int (nI t)), some (.int (nI w)), some (.int (nI c)), some (.int (nI (w * 65536 + t))), some (.int (nI (w * 16384 + t))), some (.int (nI (pl_cn t 32))), some (.long (lN (cpt t))), none, some (.long (bL P c e w t (pl_ML P w t))), none, some (.long (lN (cMA P c e w t (pl_ML P w t)).1)), none, some (.int (nI (pl_ML P w t).length)), some (.int (nI 14)), y15, y16, none, y18, none] [] σ1 (fun ra σ' => ra = some (.long (lN (cM P c e w t))) ∧ FrM σ σ' ∧ MMC P c e Q σ') := by
      intro σ1 y15 y16 y18 hF hK1
      have hW1 := hF.W hW
      by_cases en : pl_ML P w t = []
      · have e0 : (pl_ML P w t).length = 0 := by rw [en]; rfl
        refine aa_go (aa_iload13 iX12_chance_155) ?_
        refine aa_if_neN iX12_chance_157 (by omega) (fun g1 => ?_) (fun g1 => ?_)
        · skip
          exact absurd e0 g1
        · skip
          refine aa_go (aa_aload0 iX12_chance_160) (aa_go (aa_getE iX12_chance_161 fl_X12_124 (sh_63 hW1) rfl hK1.2.1) (aa_go (aa_i2lN iX12_chance_164 (by omega)) (aa_go (aa_iload6 iX12_chance_165) (aa_go (aa_cSl iX12_chance_167 (m_whole h6) (by omega) lc_X12_whole lk_X12_308 rfl (Nat.le_of_ble_eq_true rfl)) (aa_go (aa_lmulN iX12_chance_170 ) (aa_go (aa_goto iX12_chance_171) ?_))))))
          refine aa_go (aa_topl (y := lN (cM P c e w t)) (by rw [cM_eq ok, if_pos en])) ?_
          exact t207 σ1 _ _ _ _ _ _ _ hF hK1
      · have bn : bL P c e w t (pl_ML P w t) = lN (cMA P c e w t (pl_ML P w t)).2 := by rw [bL, if_neg en]
        have l0 : 0 < (pl_ML P w t).length := List.length_pos_iff.mpr en
        have dl : aa_le (pl_cn t 32) / (pl_ML P w t).length ≤ 60 := Nat.le_trans (Nat.div_le_self _ _) l60
        rw [bn]
        refine aa_go (aa_iload13 iX12_chance_155) ?_
        refine aa_if_neN iX12_chance_157 (by omega) (fun g1 => ?_) (fun g1 => ?_)
        · skip
          refine aa_go (aa_bipush iX12_chance_174 kb_10) (aa_go (aa_iload3 iX12_chance_176) (aa_go (aa_isubN iX12_chance_177 (by omega)) (aa_go (aa_i2lN iX12_chance_178 (by omega)) (aa_go (aa_lload9 iX12_chance_179) (aa_go (aa_lmulN iX12_chance_181 ) (aa_go (aa_gets iX12_chance_182 fl_X12_268) (aa_go (aa_iload6 iX12_chance_185) ?_)))))))
          refine aa_go (aa_salN iX12_chance_187 (by omega)) ?_
          refine aa_go (aa_top (y := nI (aa_le (pl_cn t 32))) (ls7_le h6)) ?_
          refine aa_go (aa_i2lN iX12_chance_188 (by omega)) (aa_go (aa_lmulN iX12_chance_189 ) (aa_go (aa_iload3 iX12_chance_190) (aa_go (aa_i2lN iX12_chance_191 (by omega)) (aa_go (aa_lload11 iX12_chance_192) (aa_go (aa_lmulN iX12_chance_194 ) (aa_go (aa_gets iX12_chance_195 fl_X12_268) (aa_go (aa_iload6 iX12_chance_198) ?_)))))))
          refine aa_go (aa_salN iX12_chance_200 (by omega)) ?_
          refine aa_go (aa_top (y := nI (aa_le (pl_cn t 32))) (ls7_le h6)) ?_
          refine aa_go (aa_iload13 iX12_chance_201) (aa_go (aa_idivN iX12_chance_203 (by omega) (by omega) (by omega)) (aa_go (aa_i2lN iX12_chance_204 (by omega)) (aa_go (aa_lmulN iX12_chance_205 ) (aa_go (aa_laddN iX12_chance_206 ) ?_))))
          refine aa_go (aa_topl (y := lN (cM P c e w t)) (by rw [cM_eq ok, if_neg en, cMR])) ?_
          exact t207 σ1 _ _ _ _ _ _ _ hF hK1
        · skip
          omega
    have loop : ∀ d m (σ1 : aa_St) (y15 y16 y18 : Option Value), 14 - m < d → m ≤ 14 → FrM σ σ1 → MMC P c e Q σ1 → aa_V mX12_chance (5 + f) 72 [some (.ref 63), some (.int (nI t)), some (.int (nI w)), some (.int (nI c)), some (.int (nI (w * 65536 + t))), some (.int (nI (w * 16384 + t))), some (.int (nI (pl_cn t 32))), some (.long (lN (cpt t))), none, some (.long (bL P c e w t (mlk P w t (msT P m)))), none, some (.long (lN (cMA P c e w t (mlk P w t (msT P m))).1)), none, some (.int (nI (mlk P w t (msT P m)).length)), some (.int (nI m)), y15, y16, none, y18, none] [] σ1 (fun ra σ' => ra = some (.long (lN (cM P c e w t))) ∧ FrM σ σ' ∧ MMC P c e Q σ') := by
      intro d
      induction d with
      | zero => intro m σ1 y15 y16 y18 g1; omega
      | succ d ihd =>
        intro m σ1 y15 y16 y18 g1 g2 hF hK1
        have hW1 := hF.W hW
        have hM1 := hF.MP hM
        refine aa_go (aa_iload14 iX12_chance_72) (aa_go (aa_bipush iX12_chance_74 kb_14) ?_)
        refine aa_ic_geN iX12_chance_76 (by omega) (by omega) (fun g3 => ?_) (fun g3 => ?_)
        · skip
          have em : m = 14 := by omega
          subst em
          rw [ms14, mlE]
          exact fin σ1 _ _ _ hF hK1
        · skip
          refine aa_go (aa_aload0 iX12_chance_79) (aa_go (aa_iload1 iX12_chance_80) (aa_go (aa_iload2 iX12_chance_81) (aa_go (aa_iload14 iX12_chance_82) (aa_go (aa_cVi iX12_chance_84 (m_can hW1 hM1 t16 (by omega) (by omega)) (by omega) lc_X12_can lk_X12_140 (sh_63 hW1) rfl rfl (Nat.le_of_ble_eq_true rfl)) ?_))))
          have cl := cnM_lo ok (w := w) (t := t) g3
          refine aa_if_eqB iX12_chance_87 (fun g5 => ?_) (fun g5 => ?_)
          · skip
            have e1 := mlk_cn_f ok (show m < 28 by omega) g5
            rw [dt] at e1
            have nxt := ihd (m + 1) σ1 y15 y16 y18 (by omega) (by omega) hF hK1
            rw [e1] at nxt
            refine aa_go (aa_iincN14 (k := 1) iX12_chance_149 rfl (by decide)) (aa_go (aa_goto iX12_chance_152) ?_)
            exact nxt
          · skip
            rw [g5] at cl
            have cl := cl.symm
            rw [Bool.and_eq_true, decide_eq_true_eq, dt] at cl
            obtain ⟨mn, lg⟩ := cl
            have hj : pl_sp P m = some m := sp_lo mn
            have e1 := mlk_cn_t ok g5 hj
            rw [dt] at e1
            have bt : t.testBit m = true := by rw [pl_lg, if_pos mn, Bool.and_eq_true] at lg; exact lg.1
            have cn := cn_nx h14 mn bt
            have ea : af P t m = pl_nx P t m := by rw [af_lo g3, pl_nx, if_pos mn]
            have nl : pl_nx P t m < 2 ^ pl_n P := by rw [pl_nx, if_pos mn]; exact bb_bd ht
            obtain ⟨σ2, ⟨hF2, hK2⟩, hS2⟩ := ih (f - 1) (by omega) (pl_nx P t m) (1 - w) σ1 (by omega) (by omega) nl (by omega) hW1 hM1 hK1
            have hW2 := hF2.W hW1
            have hA := m_after hW1 hM1 (t := t) (show m < 28 by omega) hj
            rw [ea] at hA
            have wb := wc_bd (show pl_cn (pl_nx P t m) 32 ≤ 6 by omega)
            have cs := cm_sub ok hb (c := c) (e := e) (w := w) hc he h6 cn
            have cvb := cvl_le (P := P) t m (cM P c e (1 - w) (pl_nx P t m))
            have cmb := cMA_le2 (P := P) c e w t (mlk P w t (msT P m))
            have bl := bL_c (P := P) c e w t (mlk P w t (msT P m)) m (by omega) (by omega)
            have nxt := ihd (m + 1) σ2 (some (.int (nI (pl_nx P t m)))) (some (.long (lN (wc (pl_cn (pl_nx P t m) 32))))) (some (.long (lN (cvl P t m (cM P c e (1 - w) (pl_nx P t m)))))) (by omega) (by omega) (hF.tr hF2) hK2
            rw [e1, ← bl, cMA_c, List.length_append] at nxt
            refine aa_go (aa_aload0 iX12_chance_90) (aa_go (aa_iload1 iX12_chance_91) (aa_go (aa_iload14 iX12_chance_92) (aa_go (aa_cVi iX12_chance_94 (hA) (by omega) lc_X12_after lk_X12_137 (sh_63 hW1) rfl rfl (Nat.le_of_ble_eq_true rfl)) (aa_go (aa_istore15 iX12_chance_97 rfl (by decide)) (aa_go (aa_iload15 iX12_chance_99) (aa_go (aa_cSi iX12_chance_101 (c_bitCount (by omega)) (by omega) lc_J6_bitCount_0f7a4 lk_X12_212 rfl (Nat.le_of_ble_eq_true rfl)) (aa_go (aa_cSl iX12_chance_104 (m_whole (by omega)) (by omega) lc_X12_whole lk_X12_308 rfl (Nat.le_of_ble_eq_true rfl)) ?_)))))))
            refine aa_go (aa_lstore16 iX12_chance_107 rfl (by decide)) (aa_go (aa_lload7 iX12_chance_109) (aa_go (aa_aload0 iX12_chance_111) (aa_go (aa_iload15 iX12_chance_112) (aa_go (aa_iconst iX12_chance_114 ki_1) (aa_go (aa_iload2 iX12_chance_115) (aa_go (aa_isubN iX12_chance_116 (by omega)) (aa_go (aa_iload3 iX12_chance_117) ?_)))))))
            refine aa_go (aa_cVl iX12_chance_118 (hS2) (by omega) lc_X12_chance lk_X12_311 (sh_63 hW1) rfl rfl (Nat.le_of_ble_eq_true rfl)) ?_
            refine aa_go (aa_lload7 iX12_chance_121) (aa_go (aa_lload16 iX12_chance_123) (aa_go (aa_ldivN iX12_chance_125 (by omega) (by omega) (by omega)) (aa_go (aa_lmulN iX12_chance_126 ) (aa_go (aa_lsubN iX12_chance_127 cs) ?_))))
            refine aa_go (aa_topl (y := lN (cvl P t m (cM P c e (1 - w) (pl_nx P t m)))) (rfl)) ?_
            refine aa_go (aa_lstore18 iX12_chance_128 rfl (by decide)) (aa_go (aa_lload9 iX12_chance_130) (aa_go (aa_lload18 iX12_chance_132) (aa_go (aa_mmaxL iX12_chance_134 (by omega) lk_X12_315 (Nat.le_of_ble_eq_true rfl)) (aa_go (aa_lstore9 iX12_chance_137 rfl (by decide)) (aa_go (aa_lload11 iX12_chance_139) (aa_go (aa_lload18 iX12_chance_141) (aa_go (aa_laddN iX12_chance_143 ) ?_)))))))
            refine aa_go (aa_lstore11 iX12_chance_144 rfl (by decide)) (aa_go (aa_iincN13 (k := 1) iX12_chance_146 rfl (by decide)) (aa_go (aa_iincN14 (k := 1) iX12_chance_149 rfl (by decide)) (aa_go (aa_goto iX12_chance_152) ?_)))
            exact nxt
    have key : aa_V mX12_chance (5 + f) 0 [some (.ref 63), some (.int (nI t)), some (.int (nI w)), some (.int (nI c)), none, none, none, none, none, none, none, none, none, none, none, none, none, none, none, none] [] σ (fun ra σ' => ra = some (.long (lN (cM P c e w t))) ∧ FrM σ σ' ∧ MMC P c e Q σ') := by
      obtain ⟨q, hq1, hq2⟩ := hK.1.2.2 (w * 65536 + t) pl
      have hQ := hK.1.2.1
      have lp := loop 15 0 σ none none none (by omega) (by omega) FrM.rf hK
      rw [ms_0] at lp
      refine aa_go (aa_aload0 iX12_chance_0) (aa_go (aa_iload1 iX12_chance_1) (aa_go (aa_iload2 iX12_chance_2) (aa_go (aa_cVi iX12_chance_3 (m_placeOf hW) (by omega) lc_X12_placeOf lk_X12_177 (sh_63 hW) rfl rfl (Nat.le_of_ble_eq_true rfl)) (aa_go (aa_istore4 iX12_chance_6 rfl (by decide)) (aa_go (aa_iload2 iX12_chance_8) (aa_go (aa_sipush iX12_chance_9 ks_16384) (aa_go (aa_imulN iX12_chance_12 ) ?_)))))))
      refine aa_go (aa_iload1 iX12_chance_13) (aa_go (aa_iaddN iX12_chance_14 ) (aa_go (aa_istore5 iX12_chance_15 rfl (by decide)) (aa_go (aa_aload0 iX12_chance_17) (aa_go (aa_iload4 iX12_chance_18) (aa_go (aa_cVi iX12_chance_20 (m_isKnown hW pl hq2 hK.1.1 (by omega) (by omega)) (by omega) lc_X12_isKnown lk_X12_180 (sh_63 hW) rfl rfl (Nat.le_of_ble_eq_true rfl)) ?_)))))
      refine aa_if_eqB iX12_chance_23 (fun g1 => ?_) (fun g1 => ?_)
      · skip
        refine aa_go (aa_iload1 iX12_chance_34) (aa_go (aa_cSi iX12_chance_35 (c_bitCount (by omega)) (by omega) lc_J6_bitCount_0f7a4 lk_X12_212 rfl (Nat.le_of_ble_eq_true rfl)) (aa_go (aa_istore6 iX12_chance_38 rfl (by decide)) (aa_go (aa_iload6 iX12_chance_40) ?_)))
        refine aa_if_neN iX12_chance_42 (by omega) (fun g2 => ?_) (fun g2 => ?_)
        · skip
          refine aa_go (aa_iload6 iX12_chance_49) (aa_go (aa_iconst iX12_chance_51 ki_1) (aa_go (aa_isubN iX12_chance_52 (by omega)) (aa_go (aa_cSl iX12_chance_53 (m_whole (by omega)) (by omega) lc_X12_whole lk_X12_308 rfl (Nat.le_of_ble_eq_true rfl)) (aa_go (aa_lstore7 iX12_chance_56 rfl (by decide)) (aa_go (aa_ldc2 iX12_chance_58 ld_X12_204) (aa_go (aa_lstore9 iX12_chance_61 rfl (by decide)) (aa_go (aa_lconst iX12_chance_63 kl_0) ?_)))))))
          refine aa_go (aa_lstore11 iX12_chance_64 rfl (by decide)) (aa_go (aa_iconst iX12_chance_66 ki_0) (aa_go (aa_istore13 iX12_chance_67 rfl (by decide)) (aa_go (aa_iconst iX12_chance_69 ki_0) (aa_go (aa_istore14 iX12_chance_70 rfl (by decide)) ?_))))
          exact lp
        · skip
          have e9 : cpt t = 1 := by rw [cpt, g2]; rfl
          refine aa_go (aa_lconst iX12_chance_45 kl_1) (aa_go (aa_goto iX12_chance_46) ?_)
          refine aa_go (aa_topl (y := lN (cpt t)) (by rw [e9])) ?_
          refine aa_go (aa_lstore7 iX12_chance_56 rfl (by decide)) (aa_go (aa_ldc2 iX12_chance_58 ld_X12_204) (aa_go (aa_lstore9 iX12_chance_61 rfl (by decide)) (aa_go (aa_lconst iX12_chance_63 kl_0) (aa_go (aa_lstore11 iX12_chance_64 rfl (by decide)) (aa_go (aa_iconst iX12_chance_66 ki_0) (aa_go (aa_istore13 iX12_chance_67 rfl (by decide)) (aa_go (aa_iconst iX12_chance_69 ki_0) ?_)))))))
          refine aa_go (aa_istore14 iX12_chance_70 rfl (by decide)) ?_
          exact lp
      · skip
        have hq5 := of_decide_eq_true g1
        have hq4 := hK.2.2 w t hw t14 (by rw [hq2, hq5])
        refine aa_go (aa_aload0 iX12_chance_26) (aa_go (aa_getR iX12_chance_27 fl_X12_271 (sh_63 hW) rfl) (aa_go (aa_iload5 iX12_chance_30) (aa_go (aa_lalE iX12_chance_32 (sh_82 hW) (by omega) (ci) (hq4)) ?_)))
        refine aa_lret iX12_chance_33 rfl ?_
        exact ⟨rfl, FrM.rf, hK⟩
    obtain ⟨ra, σ', ⟨rfl, h1⟩, hS9⟩ := aa_S_of (avs := [.ref 63, .int (nI t), .int (nI w), .int (nI c)]) (by decide) 16 [some (.ref 63), some (.int (nI t)), some (.int (nI w)), some (.int (nI c)), none, none, none, none, none, none, none, none, none, none, none, none, none, none, none, none] rfl rfl key
    exact ⟨σ', h1, hS9⟩
end
