/-! THE REFERENCE: means -/
def FrM (σ σ' : aa_St) : Prop := σ'.2.2 = σ.2.2 ∧ (∀ x, x ∉ [74, 75] → σ'.1 x = σ.1 x) ∧ ∀ x, x ≠ 82 → σ'.2.1 x = σ.2.1 x
theorem FrM.rf {σ : aa_St} : FrM σ σ := ⟨rfl, fun _ _ => rfl, fun _ _ => rfl⟩
theorem FrM.tr {σ σ1 σ2 : aa_St} (h : FrM σ σ1) (g : FrM σ1 σ2) : FrM σ σ2 := ⟨g.1.trans h.1, fun x hx => (g.2.1 x hx).trans (h.2.1 x hx), fun x hx => (g.2.2 x hx).trans (h.2.2 x hx)⟩
theorem FrM.W {r : Nat → Nat} {dy : List aa_Shp} {σ σ' : aa_St} (h : FrM σ σ') (hW : aa_W r dy σ) : aa_W r dy σ' := hW.of2 h.1
theorem FrM.MP {P : pl_T} {σ σ' : aa_St} (hF : FrM σ σ') (h : MP P σ.1) : MP P σ'.1 := h.fr (by rw [hF.2.1 63 (by decide)]) (by rw [hF.2.1 63 (by decide)]) (fun x hx => hF.2.1 x (by simp; omega))
theorem FrM.put {σ : aa_St} (p i : Nat) (v : Int64) (a b : Int32) : FrM σ (aa_sI (aa_sI (aa_sL σ 82 i v) 74 p a) 75 p b) := ⟨rfl, fun x hx => by
  funext k
  simp at hx
  rw [sI_ne (by omega), sI_ne (by omega)]; rfl, fun x hx => by
  funext k
  show (aa_sL σ 82 i v).2.1 x k = _
  simp [aa_sL, aa_u2, hx]⟩
theorem ci_lt {w t : Nat} (hw : w ≤ 1) (ht : t < 16384) : w * 16384 + t < 32768 :=
  Nat.lt_of_lt_of_le (Nat.add_lt_add_left ht _) (by rw [← Nat.succ_mul]; exact Nat.mul_le_mul_right 16384 (Nat.succ_le_succ hw))
theorem ci_eq {w t w2 t2 : Nat} (ht : t < 16384) (ht2 : t2 < 16384) (h : w2 * 65536 + t2 = w * 65536 + t) : w2 = w ∧ t2 = t := by
  have a := pl_div (w := w2) (Nat.lt_trans ht2 (by decide))
  have b := pl_div (w := w) (Nat.lt_trans ht (by decide))
  rw [h] at a
  exact ⟨a.1.symm.trans b.1, a.2.symm.trans b.2⟩
def MML (P : pl_T) (Q : Nat) (σ : aa_St) : Prop := MMQ Q σ.1 ∧ ∀ w t, w ≤ 1 → t < 16384 → σ.1 74 (w * 65536 + t) = nI Q → σ.2.1 82 (w * 16384 + t) = lZ (mM P w t)
theorem MML.put {P : pl_T} {Q w t : Nat} {σ : aa_St} (h : MML P Q σ) (hw : w ≤ 1) (ht : t < 16384) (b : Int32) : MML P Q (aa_sI (aa_sI (aa_sL σ 82 (w * 16384 + t) (lZ (mM P w t))) 74 (w * 65536 + t) (nI Q)) 75 (w * 65536 + t) b) := by
  obtain ⟨⟨h1, h2, h3⟩, h4⟩ := h
  refine ⟨⟨by rw [sI_ne (by decide), sI_ne (by decide)]; exact h1, h2, fun p hp => ?_⟩, fun w2 t2 hw2 ht2 hm => ?_⟩
  · rw [sI_ne (by decide), sI_at]
    by_cases c : p = w * 65536 + t
    · rw [if_pos c]; exact ⟨Q, Nat.le_refl _, rfl⟩
    · rw [if_neg c]; exact h3 p hp
  · show (aa_sL σ 82 (w * 16384 + t) (lZ (mM P w t))).2.1 82 (w2 * 16384 + t2) = _
    rw [sL_at]
    by_cases c : w2 * 16384 + t2 = w * 16384 + t
    · have e1 : w2 = w := by omega
      have e2 : t2 = t := by omega
      rw [if_pos c, e1, e2]
    · rw [if_neg c]
      refine h4 w2 t2 hw2 ht2 ?_
      have nq : ¬ w2 * 65536 + t2 = w * 65536 + t := fun q => c (by rw [(ci_eq ht ht2 q).1, (ci_eq ht ht2 q).2])
      rw [sI_ne (by decide), sI_at, if_neg nq] at hm
      exact hm
section
variable {r : Nat → Nat} {dy : List aa_Shp} {P : pl_T} {Q : Nat}
theorem dv_id (hb : pl_b P = 0) {t : Nat} (ht : t < 2 ^ pl_n P) : dv P t = t := by
  apply bb_ext
  intro i
  by_cases c : i < pl_n P
  · exact dv_lo c
  · rw [bb_hi (dv_lt P t) (by omega), bb_hi ht (by omega)]
theorem wm_bd : ∀ k : Fin 7, 0 < wm k.val ∧ wm k.val ≤ 518400 := by decide
theorem m_means (hb : pl_b P = 0) : ∀ f t w (σ : aa_St), pl_cn t 32 ≤ f → pl_cn t 32 ≤ 6 → t < 2 ^ pl_n P → w ≤ 1 → aa_W r dy σ → MP P σ.1 → MML P Q σ → ∃ σ' : aa_St, (FrM σ σ' ∧ MML P Q σ') ∧ aa_SX mX12_means (5 + f) [.ref 63, .int (nI t), .int (nI w)] σ (some (.long (lZ (mM P w t)))) σ' := by
  intro f
  induction f using Nat.strongRecOn with
  | ind f ih =>
    intro t w σ hf h6 ht hw hW hM hK
    have ok := hM.1
    have h14 := ok.1
    have p14 : 2 ^ pl_n P ≤ 16384 := Nat.pow_le_pow_right (by decide : 0 < 2) h14
    have pl : w * 65536 + t < 196608 := by omega
    have dt := dv_id hb ht
    have t14 : t < 16384 := Nat.lt_of_lt_of_le ht p14
    have ci := ci_lt hw t14
    have mlE : mlk P w t (pl_n P) = pl_ML P w t := by have := mlk_all P w t; rw [hb] at this; exact this
    have lenb := ml_len ok hb w t
    have fin : ∀ (σ1 : aa_St) y12, FrM σ σ1 → MML P Q σ1 → aa_V mX12_means (5 + f) 139 [some (.ref 63), some (.int (nI t)), some (.int (nI w)), some (.int (nI (w * 65536 + t))), some (.int (nI (w * 16384 + t))), some (.int (nI (pl_cn t 32))), some (.long (lN (mpt t))), none, some (.long (lZ (mMA P w t (pl_ML P w t)))), none, some (.int (nI (pl_ML P w t).length)), some (.int (nI 14)), y12] [] σ1 (fun ra σ' => ra = some (.long (lZ (mM P w t))) ∧ FrM σ σ' ∧ MML P Q σ') := by
      intro σ1 y12 hF hK1
      have hW1 := hF.W hW
      have l60 := aa_le_60 (pl_cn t 32)
      have t167 : aa_V mX12_means (5 + f) 167 [some (.ref 63), some (.int (nI t)), some (.int (nI w)), some (.int (nI (w * 65536 + t))), some (.int (nI (w * 16384 + t))), some (.int (nI (pl_cn t 32))), some (.long (lN (mpt t))), none, some (.long (lZ (mMA P w t (pl_ML P w t)))), none, some (.int (nI (pl_ML P w t).length)), some (.int (nI 14)), y12] [.long (lZ (mM P w t)), .int (nI (w * 16384 + t)), .ref 82] σ1 (fun ra σ' => ra = some (.long (lZ (mM P w t))) ∧ FrM σ σ' ∧ MML P Q σ') := by
        have hWs := hW1.sL 82 (w * 16384 + t) (lZ (mM P w t))
        have hS := m_keeps hWs pl (show (aa_sL σ1 82 (w * 16384 + t) (lZ (mM P w t))).1 63 24 = nI Q from hK1.1.1) (nI 0)
        have hFp := FrM.put (σ := σ1) (w * 65536 + t) (w * 16384 + t) (lZ (mM P w t)) (nI Q) (nI 0)
        have hKp := hK1.put hw t14 (nI 0)
        have hWp := hFp.W hW1
        have hv : (aa_sI (aa_sI (aa_sL σ1 82 (w * 16384 + t) (lZ (mM P w t))) 74 (w * 65536 + t) (nI Q)) 75 (w * 65536 + t) (nI 0)).2.1 82 (w * 16384 + t) = lZ (mM P w t) := by
          show (aa_sL σ1 82 (w * 16384 + t) (lZ (mM P w t))).2.1 82 (w * 16384 + t) = _
          rw [sL_at, if_pos rfl]
        refine aa_go (aa_lasN iX12_means_167 (sh_82 hW1) (by omega) (ci)) ?_
        refine aa_go (aa_aload0 iX12_means_168) (aa_go (aa_iload3 iX12_means_169) (aa_go (aa_iconst iX12_means_170 ki_0) (aa_go (aa_cVi iX12_means_171 (hS) (by omega) lc_X12_keeps lk_X12_186 (sh_63 hWs) rfl rfl (Nat.le_of_ble_eq_true rfl)) ?_)))
        refine aa_go (aa_pop iX12_means_174 rfl) (aa_go (aa_aload0 iX12_means_175) (aa_go (aa_getR iX12_means_176 fl_X12_271 (sh_63 hWp) rfl) (aa_go (aa_iload4 iX12_means_179) (aa_go (aa_lalE iX12_means_181 (sh_82 hWp) (by omega) (ci) (hv)) ?_))))
        refine aa_lret iX12_means_182 rfl ?_
        exact ⟨rfl, hF.tr hFp, hKp⟩
      refine aa_go (aa_aload0 iX12_means_139) (aa_go (aa_getR iX12_means_140 fl_X12_271 (sh_63 hW1) rfl) (aa_go (aa_iload4 iX12_means_143) (aa_go (aa_iload10 iX12_means_145) ?_)))
      refine aa_if_neN iX12_means_147 (by omega) (fun g1 => ?_) (fun g1 => ?_)
      · skip
        have e : ¬ pl_ML P w t = [] := fun q => g1 (by rw [q]; rfl)
        have dl : aa_le (pl_cn t 32) / (pl_ML P w t).length ≤ 60 := Nat.le_trans (Nat.div_le_self _ _) l60
        refine aa_go (aa_lload8 iX12_means_154) (aa_go (aa_gets iX12_means_156 fl_X12_268) (aa_go (aa_iload5 iX12_means_159) (aa_go (aa_salN iX12_means_161 (by omega)) ?_)))
        refine aa_go (aa_top (y := nI (aa_le (pl_cn t 32))) (ls7_le h6)) ?_
        refine aa_go (aa_iload10 iX12_means_162) (aa_go (aa_idivN iX12_means_164 (by omega) (by omega) (by omega)) (aa_go (aa_i2lN iX12_means_165 (by omega)) (aa_go (aa_lmul iX12_means_166) ?_)))
        refine aa_go (aa_topl (y := lZ (mM P w t)) (by rw [lZ_N, lZ_mul, mM_eq ok, if_neg e])) ?_
        exact t167
      · skip
        have e : pl_ML P w t = [] := List.eq_nil_of_length_eq_zero g1
        refine aa_go (aa_lconst iX12_means_150 kl_0) (aa_go (aa_goto iX12_means_151) ?_)
        refine aa_go (aa_topl (y := lZ (mM P w t)) (by rw [mM_eq ok, if_pos e]; rfl)) ?_
        exact t167
    have mb : 0 < mpt t ∧ mpt t ≤ 518400 := wm_bd ⟨pl_cn t 32 - 1, by omega⟩
    have t16 : t < 65536 := Nat.lt_trans t14 (by decide)
    have ms14 : msT P 14 = pl_n P := by
      rw [msT]
      split
      · omega
      · rfl
    have loop : ∀ d m (σ1 : aa_St) y12, 14 - m < d → m ≤ 14 → FrM σ σ1 → MML P Q σ1 → aa_V mX12_means (5 + f) 65 [some (.ref 63), some (.int (nI t)), some (.int (nI w)), some (.int (nI (w * 65536 + t))), some (.int (nI (w * 16384 + t))), some (.int (nI (pl_cn t 32))), some (.long (lN (mpt t))), none, some (.long (lZ (mMA P w t (mlk P w t (msT P m))))), none, some (.int (nI (mlk P w t (msT P m)).length)), some (.int (nI m)), y12] [] σ1 (fun ra σ' => ra = some (.long (lZ (mM P w t))) ∧ FrM σ σ' ∧ MML P Q σ') := by
      intro d
      induction d with
      | zero => intro m σ1 y12 g1; omega
      | succ d ihd =>
        intro m σ1 y12 g1 g2 hF hK1
        have hW1 := hF.W hW
        have hM1 := hF.MP hM
        refine aa_go (aa_iload11 iX12_means_65) (aa_go (aa_bipush iX12_means_67 kb_14) ?_)
        refine aa_ic_geN iX12_means_69 (by omega) (by omega) (fun g3 => ?_) (fun g3 => ?_)
        · skip
          have em : m = 14 := by omega
          subst em
          rw [ms14, mlE]
          exact fin σ1 _ hF hK1
        · skip
          refine aa_go (aa_aload0 iX12_means_72) (aa_go (aa_iload1 iX12_means_73) (aa_go (aa_iload2 iX12_means_74) (aa_go (aa_iload11 iX12_means_75) (aa_go (aa_cVi iX12_means_77 (m_can hW1 hM1 t16 (by omega) (by omega)) (by omega) lc_X12_can lk_X12_140 (sh_63 hW1) rfl rfl (Nat.le_of_ble_eq_true rfl)) ?_))))
          have cl := cnM_lo ok (w := w) (t := t) g3
          refine aa_if_eqB iX12_means_80 (fun g5 => ?_) (fun g5 => ?_)
          · skip
            have e1 := mlk_cn_f ok (show m < 28 by omega) g5
            rw [dt] at e1
            have nxt := ihd (m + 1) σ1 y12 (by omega) (by omega) hF hK1
            rw [e1] at nxt
            refine aa_go (aa_iincN11 (k := 1) iX12_means_133 rfl (by decide)) (aa_go (aa_goto iX12_means_136) ?_)
            exact nxt
          · skip
            rw [g5] at cl
            have cl := cl.symm
            rw [Bool.and_eq_true, decide_eq_true_eq, dt] at cl
            obtain ⟨mn, lg⟩ := cl
            have hj : pl_sp P m = some m := sp_lo mn
            have e1 := mlk_cn_t ok g5 hj
            rw [dt] at e1
            have bt : t.testBit m = true := by rw [pl_lg, if_pos mn, Bool.and_eq_true] at lg; exact lg.1
            have cn := cn_nx h14 mn bt
            have ea : af P t m = pl_nx P t m := by rw [af_lo g3, pl_nx, if_pos mn]
            have nl : pl_nx P t m < 2 ^ pl_n P := by rw [pl_nx, if_pos mn]; exact bb_bd ht
            obtain ⟨σ2, ⟨hF2, hK2⟩, hS2⟩ := ih (f - 1) (by omega) (pl_nx P t m) (1 - w) σ1 (by omega) (by omega) nl (by omega) hW1 hM1 hK1
            have hW2 := hF2.W hW1
            have hA := m_after hW1 hM1 (t := t) (show m < 28 by omega) hj
            rw [ea] at hA
            have hO := m_worthOf hW1 hM1 t16 (show m < 28 by omega) hj
            rw [dt] at hO
            have wb := wm_bd ⟨pl_cn (pl_nx P t m) 32, by omega⟩
            have wb1 : 0 < wm (pl_cn (pl_nx P t m) 32) := wb.1
            have wb2 : wm (pl_cn (pl_nx P t m) 32) ≤ 518400 := wb.2
            have wo1 := pl_sm_le ok (bd t (pl_nx P t m)) (pl_n P)
            have wo2 : pl_wo P (bd t (pl_nx P t m)) ≤ 9 * pl_n P := wo1
            have nxt := ihd (m + 1) σ2 (some (.int (nI (pl_nx P t m)))) (by omega) (by omega) (hF.tr hF2) hK2
            rw [e1, mMA_c, List.length_append] at nxt
            refine aa_go (aa_aload0 iX12_means_83) (aa_go (aa_iload1 iX12_means_84) (aa_go (aa_iload11 iX12_means_85) (aa_go (aa_cVi iX12_means_87 (hA) (by omega) lc_X12_after lk_X12_137 (sh_63 hW1) rfl rfl (Nat.le_of_ble_eq_true rfl)) (aa_go (aa_istore12 iX12_means_90 rfl (by decide)) (aa_go (aa_lload8 iX12_means_92) (aa_go (aa_aload0 iX12_means_94) (aa_go (aa_iload1 iX12_means_95) ?_)))))))
            refine aa_go (aa_iload11 iX12_means_96) (aa_go (aa_cVi iX12_means_98 (hO) (by omega) lc_X12_worthOf lk_X12_160 (sh_63 hW1) rfl rfl (Nat.le_of_ble_eq_true rfl)) (aa_go (aa_i2lN iX12_means_101 (by omega)) (aa_go (aa_lload6 iX12_means_102) (aa_go (aa_lmulN iX12_means_104 ) (aa_go (aa_aload0 iX12_means_105) (aa_go (aa_iload12 iX12_means_106) (aa_go (aa_iconst iX12_means_108 ki_1) ?_)))))))
            refine aa_go (aa_iload2 iX12_means_109) (aa_go (aa_isubN iX12_means_110 (by omega)) (aa_go (aa_cVl iX12_means_111 (hS2) (by omega) lc_X12_means lk_X12_278 (sh_63 hW1) rfl rfl (Nat.le_of_ble_eq_true rfl)) ?_))
            refine aa_go (aa_lload6 iX12_means_114) (aa_go (aa_iload12 iX12_means_116) (aa_go (aa_cSi iX12_means_118 (c_bitCount (by omega)) (by omega) lc_J6_bitCount_0f7a4 lk_X12_212 rfl (Nat.le_of_ble_eq_true rfl)) (aa_go (aa_cSl iX12_means_121 (m_wholeOfMean (by omega)) (by omega) lc_X12_wholeOfMean lk_X12_274 rfl (Nat.le_of_ble_eq_true rfl)) (aa_go (aa_ldivN iX12_means_124 (by omega) (by omega) (by omega)) (aa_go (aa_lmul iX12_means_125) (aa_go (aa_lsub iX12_means_126) (aa_go (aa_ladd iX12_means_127) ?_)))))))
            refine aa_go (aa_topl (y := lZ (mMA P w t (mlk P w t (msT P m)) + ((pl_wo P (bd t (pl_nx P t m)) * mpt t : Nat) - mM P (1 - w) (pl_nx P t m) * (mpt t / wm (pl_cn (pl_nx P t m) 32) : Nat)))) (by rw [lZ_N, lZ_N, lZ_mul, lZ_sub, lZ_add])) ?_
            refine aa_go (aa_lstore8 iX12_means_128 rfl (by decide)) (aa_go (aa_iincN10 (k := 1) iX12_means_130 rfl (by decide)) (aa_go (aa_iincN11 (k := 1) iX12_means_133 rfl (by decide)) (aa_go (aa_goto iX12_means_136) ?_)))
            exact nxt
    have key : aa_V mX12_means (5 + f) 0 [some (.ref 63), some (.int (nI t)), some (.int (nI w)), none, none, none, none, none, none, none, none, none, none] [] σ (fun ra σ' => ra = some (.long (lZ (mM P w t))) ∧ FrM σ σ' ∧ MML P Q σ') := by
      obtain ⟨q, hq1, hq2⟩ := hK.1.2.2 (w * 65536 + t) pl
      have hQ := hK.1.2.1
      have lp := loop 15 0 σ none (by omega) (by omega) FrM.rf hK
      rw [ms_0] at lp
      refine aa_go (aa_aload0 iX12_means_0) (aa_go (aa_iload1 iX12_means_1) (aa_go (aa_iload2 iX12_means_2) (aa_go (aa_cVi iX12_means_3 (m_placeOf hW) (by omega) lc_X12_placeOf lk_X12_177 (sh_63 hW) rfl rfl (Nat.le_of_ble_eq_true rfl)) (aa_go (aa_istore3 iX12_means_6 rfl (by decide)) (aa_go (aa_iload2 iX12_means_7) (aa_go (aa_sipush iX12_means_8 ks_16384) (aa_go (aa_imulN iX12_means_11 ) ?_)))))))
      refine aa_go (aa_iload1 iX12_means_12) (aa_go (aa_iaddN iX12_means_13 ) (aa_go (aa_istore4 iX12_means_14 rfl (by decide)) (aa_go (aa_aload0 iX12_means_16) (aa_go (aa_iload3 iX12_means_17) (aa_go (aa_cVi iX12_means_18 (m_isKnown hW pl hq2 hK.1.1 (by omega) (by omega)) (by omega) lc_X12_isKnown lk_X12_180 (sh_63 hW) rfl rfl (Nat.le_of_ble_eq_true rfl)) ?_)))))
      refine aa_if_eqB iX12_means_21 (fun g1 => ?_) (fun g1 => ?_)
      · skip
        refine aa_go (aa_iload1 iX12_means_32) (aa_go (aa_cSi iX12_means_33 (c_bitCount (by omega)) (by omega) lc_J6_bitCount_0f7a4 lk_X12_212 rfl (Nat.le_of_ble_eq_true rfl)) (aa_go (aa_istore5 iX12_means_36 rfl (by decide)) (aa_go (aa_iload5 iX12_means_38) ?_)))
        refine aa_if_neN iX12_means_40 (by omega) (fun g2 => ?_) (fun g2 => ?_)
        · skip
          refine aa_go (aa_iload5 iX12_means_47) (aa_go (aa_iconst iX12_means_49 ki_1) (aa_go (aa_isubN iX12_means_50 (by omega)) (aa_go (aa_cSl iX12_means_51 (m_wholeOfMean (by omega)) (by omega) lc_X12_wholeOfMean lk_X12_274 rfl (Nat.le_of_ble_eq_true rfl)) (aa_go (aa_lstore6 iX12_means_54 rfl (by decide)) (aa_go (aa_lconst iX12_means_56 kl_0) (aa_go (aa_lstore8 iX12_means_57 rfl (by decide)) (aa_go (aa_iconst iX12_means_59 ki_0) ?_)))))))
          refine aa_go (aa_istore10 iX12_means_60 rfl (by decide)) (aa_go (aa_iconst iX12_means_62 ki_0) (aa_go (aa_istore11 iX12_means_63 rfl (by decide)) ?_))
          exact lp
        · skip
          have e : mpt t = 1 := by rw [mpt, g2]; rfl
          refine aa_go (aa_lconst iX12_means_43 kl_1) (aa_go (aa_goto iX12_means_44) ?_)
          refine aa_go (aa_topl (y := lN (mpt t)) (by rw [e])) ?_
          refine aa_go (aa_lstore6 iX12_means_54 rfl (by decide)) (aa_go (aa_lconst iX12_means_56 kl_0) (aa_go (aa_lstore8 iX12_means_57 rfl (by decide)) (aa_go (aa_iconst iX12_means_59 ki_0) (aa_go (aa_istore10 iX12_means_60 rfl (by decide)) (aa_go (aa_iconst iX12_means_62 ki_0) (aa_go (aa_istore11 iX12_means_63 rfl (by decide)) ?_))))))
          exact lp
      · skip
        have hq5 := of_decide_eq_true g1
        have hq4 := hK.2 w t hw t14 (by rw [hq2, hq5])
        refine aa_go (aa_aload0 iX12_means_24) (aa_go (aa_getR iX12_means_25 fl_X12_271 (sh_63 hW) rfl) (aa_go (aa_iload4 iX12_means_28) (aa_go (aa_lalE iX12_means_30 (sh_82 hW) (by omega) (ci) (hq4)) ?_)))
        refine aa_lret iX12_means_31 rfl ?_
        exact ⟨rfl, FrM.rf, hK⟩
    obtain ⟨ra, σ', ⟨rfl, h1⟩, hS9⟩ := aa_S_of (avs := [.ref 63, .int (nI t), .int (nI w)]) (by decide) 10 [some (.ref 63), some (.int (nI t)), some (.int (nI w)), none, none, none, none, none, none, none, none, none, none] rfl rfl key
    exact ⟨σ', h1, hS9⟩
end
