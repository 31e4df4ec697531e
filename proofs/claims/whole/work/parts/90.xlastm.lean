/-! THE REFERENCE: lasts -/
def vS (P : pl_T) (e p : Nat) : Int32 := nI (lc e (so P e (p / 65536) (dv P (p % 65536))))
theorem vS_at (P : pl_T) {e w t : Nat} (ht : t < 65536) : vS P e (w * 65536 + t) = nI (lc e (so P e w (dv P t))) := by
  rw [vS, (pl_div ht).1, (pl_div ht).2]
section
variable {r : Nat → Nat} {dy : List aa_Shp} {P : pl_T} {Q : Nat}
def lcb (x a : Nat) : Prop := (100 ≤ x ∧ a < 100) ∨ (100 ≤ x ∧ 100 ≤ a ∧ x < a) ∨ (x < 100 ∧ a < 100 ∧ a < x)
theorem lcb_sob {e x a : Nat} (h1 : x < 100) (h2 : a < 100) : lcb (lc e x) (lc e a) ↔ sob e x a := by
  unfold lcb sob
  rcases lc_c e x with ⟨q1, q2⟩ | ⟨q1, q2⟩ <;> rcases lc_c e a with ⟨q3, q4⟩ | ⟨q3, q4⟩ <;> rw [q2, q4] <;> omega
theorem m_lastCmp {D u x m t w p : Nat} {x5 : Int32} {σ : aa_St} {y7 y9 : Option Value} {K : Option Value → aa_St → Prop} (hW : aa_W r dy σ) (hu : u < 1000) (hx : x < 1000)
    (hY : lcb x u → aa_V mX12_lasts D 180 [some (.ref 63), some (.int (nI t)), some (.int (nI w)), some (.int (nI p)), some (.int (nI u)), some (.int x5), some (.int (nI m)), y7, some (.int (nI x)), y9] [.int (nI 1)] σ K)
    (hN : ¬ lcb x u → aa_V mX12_lasts D 180 [some (.ref 63), some (.int (nI t)), some (.int (nI w)), some (.int (nI p)), some (.int (nI u)), some (.int x5), some (.int (nI m)), y7, some (.int (nI x)), y9] [.int (nI 0)] σ K) :
    aa_V mX12_lasts D 94 [some (.ref 63), some (.int (nI t)), some (.int (nI w)), some (.int (nI p)), some (.int (nI u)), some (.int x5), some (.int (nI m)), y7, some (.int (nI x)), y9] [] σ K := by
  have tY := hY
  have tN := hN
  unfold lcb at tY tN
  clear hY hN
  refine aa_go (aa_iload4 iX12_lasts_94) ?_
  refine aa_go (aa_if_ltN iX12_lasts_96 (by omega)) ?_
  refine aa_go (aa_iload8 iX12_lasts_99) (aa_go (aa_bipush iX12_lasts_101 kb_100) ?_)
  refine aa_ic_ltN iX12_lasts_103 (by omega) (by omega) (fun g6 => ?_) (fun g6 => ?_)
  · skip
    refine aa_go (aa_iconst iX12_lasts_110 ki_0) (aa_go (aa_iload4 iX12_lasts_111) (aa_go (aa_bipush iX12_lasts_113 kb_100) ?_))
    refine aa_ic_ltN iX12_lasts_115 (by omega) (by omega) (fun g7 => ?_) (fun g7 => ?_)
    · skip
      refine aa_go (aa_iconst iX12_lasts_122 ki_0) ?_
      refine aa_ic_eqN iX12_lasts_123 (by omega) (by omega) (fun g8 => ?_) (fun g8 => ?_)
      · skip
        refine aa_go (aa_iload8 iX12_lasts_133) (aa_go (aa_bipush iX12_lasts_135 kb_100) ?_)
        refine aa_ic_ltN iX12_lasts_137 (by omega) (by omega) (fun g9 => ?_) (fun g9 => ?_)
        · skip
          refine aa_go (aa_iload8 iX12_lasts_154) (aa_go (aa_bipush iX12_lasts_156 kb_100) ?_)
          refine aa_ic_geN iX12_lasts_158 (by omega) (by omega) (fun g10 => ?_) (fun g10 => ?_)
          · skip
            omega
          · skip
            refine aa_go (aa_iload4 iX12_lasts_161) (aa_go (aa_bipush iX12_lasts_163 kb_100) ?_)
            refine aa_ic_geN iX12_lasts_165 (by omega) (by omega) (fun g11 => ?_) (fun g11 => ?_)
            · skip
              omega
            · skip
              refine aa_go (aa_iload8 iX12_lasts_168) (aa_go (aa_iload4 iX12_lasts_170) ?_)
              refine aa_ic_leN iX12_lasts_172 (by omega) (by omega) (fun g12 => ?_) (fun g12 => ?_)
              · skip
                refine aa_go (aa_iconst iX12_lasts_179 ki_0) ?_
                exact tN (by omega)
              · skip
                refine aa_go (aa_iconst iX12_lasts_175 ki_1) (aa_go (aa_goto iX12_lasts_176) ?_)
                exact tY (by omega)
        · skip
          omega
      · skip
        omega
    · skip
      refine aa_go (aa_iconst iX12_lasts_118 ki_1) (aa_go (aa_goto iX12_lasts_119) ?_)
      refine aa_ic_eqN iX12_lasts_123 (by omega) (by omega) (fun g8 => ?_) (fun g8 => ?_)
      · skip
        omega
      · skip
        refine aa_go (aa_iload8 iX12_lasts_126) (aa_go (aa_bipush iX12_lasts_128 kb_100) ?_)
        refine aa_ic_geN iX12_lasts_130 (by omega) (by omega) (fun g9 => ?_) (fun g9 => ?_)
        · skip
          omega
        · skip
          refine aa_go (aa_iload8 iX12_lasts_133) (aa_go (aa_bipush iX12_lasts_135 kb_100) ?_)
          refine aa_ic_ltN iX12_lasts_137 (by omega) (by omega) (fun g10 => ?_) (fun g10 => ?_)
          · skip
            refine aa_go (aa_iload8 iX12_lasts_154) (aa_go (aa_bipush iX12_lasts_156 kb_100) ?_)
            refine aa_ic_geN iX12_lasts_158 (by omega) (by omega) (fun g11 => ?_) (fun g11 => ?_)
            · skip
              omega
            · skip
              refine aa_go (aa_iload4 iX12_lasts_161) (aa_go (aa_bipush iX12_lasts_163 kb_100) ?_)
              refine aa_ic_geN iX12_lasts_165 (by omega) (by omega) (fun g12 => ?_) (fun g12 => ?_)
              · skip
                refine aa_go (aa_iconst iX12_lasts_179 ki_0) ?_
                exact tN (by omega)
              · skip
                omega
          · skip
            omega
  · skip
    refine aa_go (aa_iconst iX12_lasts_106 ki_1) (aa_go (aa_goto iX12_lasts_107) (aa_go (aa_iload4 iX12_lasts_111) (aa_go (aa_bipush iX12_lasts_113 kb_100) ?_)))
    refine aa_ic_ltN iX12_lasts_115 (by omega) (by omega) (fun g7 => ?_) (fun g7 => ?_)
    · skip
      refine aa_go (aa_iconst iX12_lasts_122 ki_0) ?_
      refine aa_ic_eqN iX12_lasts_123 (by omega) (by omega) (fun g8 => ?_) (fun g8 => ?_)
      · skip
        omega
      · skip
        refine aa_go (aa_iload8 iX12_lasts_126) (aa_go (aa_bipush iX12_lasts_128 kb_100) ?_)
        refine aa_ic_geN iX12_lasts_130 (by omega) (by omega) (fun g9 => ?_) (fun g9 => ?_)
        · skip
          refine aa_go (aa_iconst iX12_lasts_175 ki_1) (aa_go (aa_goto iX12_lasts_176) ?_)
          exact tY (by omega)
        · skip
          omega
    · skip
      refine aa_go (aa_iconst iX12_lasts_118 ki_1) (aa_go (aa_goto iX12_lasts_119) ?_)
      refine aa_ic_eqN iX12_lasts_123 (by omega) (by omega) (fun g8 => ?_) (fun g8 => ?_)
      · skip
        refine aa_go (aa_iload8 iX12_lasts_133) (aa_go (aa_bipush iX12_lasts_135 kb_100) ?_)
        refine aa_ic_ltN iX12_lasts_137 (by omega) (by omega) (fun g9 => ?_) (fun g9 => ?_)
        · skip
          omega
        · skip
          refine aa_go (aa_iload4 iX12_lasts_140) (aa_go (aa_bipush iX12_lasts_142 kb_100) ?_)
          refine aa_ic_ltN iX12_lasts_144 (by omega) (by omega) (fun g10 => ?_) (fun g10 => ?_)
          · skip
            omega
          · skip
            refine aa_go (aa_iload8 iX12_lasts_147) (aa_go (aa_iload4 iX12_lasts_149) ?_)
            refine aa_ic_ltN iX12_lasts_151 (by omega) (by omega) (fun g11 => ?_) (fun g11 => ?_)
            · skip
              refine aa_go (aa_iconst iX12_lasts_175 ki_1) (aa_go (aa_goto iX12_lasts_176) ?_)
              exact tY (by omega)
            · skip
              refine aa_go (aa_iload8 iX12_lasts_154) (aa_go (aa_bipush iX12_lasts_156 kb_100) ?_)
              refine aa_ic_geN iX12_lasts_158 (by omega) (by omega) (fun g12 => ?_) (fun g12 => ?_)
              · skip
                refine aa_go (aa_iconst iX12_lasts_179 ki_0) ?_
                exact tN (by omega)
              · skip
                omega
      · skip
        omega
theorem m_lasts {e : Nat} (he : e ≤ 1) : ∀ f t w (σ : aa_St), pl_mu P (dv P t) ≤ f → t < 65536 → w ≤ 1 → aa_W r dy σ → MP P σ.1 → MMK Q (vS P e) σ.1 → σ.1 63 12 = nI e →
    ∃ σ' : aa_St, (FrQ σ σ' ∧ MMK Q (vS P e) σ'.1 ∧ (FRE Q (w * 65536 + t) σ.1 → σ'.1 63 25 = iZ (mvZ P (fsm P e w (dv P t) (pl_n P + pl_b P))))) ∧ aa_SX mX12_lasts (5 + f) [.ref 63, .int (nI t), .int (nI w)] σ (some (.int (nI (lc e (so P e w (dv P t)))))) σ' := by
  intro f
  induction f using Nat.strongRecOn with
  | ind f ih =>
    intro t w σ hf ht hw hW hM hK hE
    have ok := hM.1
    have pl : w * 65536 + t < 196608 := by omega
    have va := vS_at P (e := e) (w := w) ht
    have sl := so_le ok he w (dv P t)
    have lcs := lc_c e (so P e w (dv P t))
    have loop : ∀ d m (σ1 : aa_St) (x4 : Int32) (b : Option Nat) y7 y8 y9, 28 - m < d → m ≤ 28 → FrQ σ σ1 → MMK Q (vS P e) σ1.1 → (mlk P w (dv P t) (msT P m) = [] ∧ x4 = iZ (-1) ∧ b = none ∨ mlk P w (dv P t) (msT P m) ≠ [] ∧ x4 = nI (lc e (som P e w (dv P t) (msT P m))) ∧ b = fsm P e w (dv P t) (msT P m)) → aa_V mX12_lasts (5 + f) 31 [some (.ref 63), some (.int (nI t)), some (.int (nI w)), some (.int (nI (w * 65536 + t))), some (.int x4), some (.int (iZ (mvZ P b))), some (.int (nI m)), y7, y8, y9] [] σ1 (fun ra σ' => ra = some (.int (nI (lc e (so P e w (dv P t))))) ∧ FrQ σ σ' ∧ MMK Q (vS P e) σ'.1 ∧ σ'.1 63 25 = iZ (mvZ P (fsm P e w (dv P t) (pl_n P + pl_b P)))) := by
      intro d
      induction d with
      | zero => intro m σ1 x4 b y7 y8 y9 g1; omega
      | succ d ihd =>
        intro m σ1 x4 b y7 y8 y9 g1 g2 hF hK1 hab
        have hW1 := hF.W hW
        have hM1 := hF.MP hM
        have hE1 : σ1.1 63 12 = nI e := by rw [hF.2.2 12 (by decide)]; exact hE
        refine aa_go (aa_iload6 iX12_lasts_31) (aa_go (aa_bipush iX12_lasts_33 kb_28) ?_)
        refine aa_ic_geN iX12_lasts_35 (by omega) (by omega) (fun g3 => ?_) (fun g3 => ?_)
        · skip
          have em : m = 28 := by omega
          subst em
          rw [ms_28 ok] at hab
          have hb : b = fsm P e w (dv P t) (pl_n P + pl_b P) := by
            rcases hab with ⟨h1, -, h3⟩ | ⟨-, -, h3⟩
            · rw [fsm, h1, h3]; rfl
            · exact h3
          rw [hb]
          have hWf := hW1.sI 63 25 (iZ (mvZ P (fsm P e w (dv P t) (pl_n P + pl_b P))))
          have hKf := hK1.f (iZ (mvZ P (fsm P e w (dv P t) (pl_n P + pl_b P))))
          have hS := m_keeps hWf pl hKf.1 (nI (lc e (so P e w (dv P t))))
          have hx := hKf.set (p := w * 65536 + t)
          rw [va] at hx
          have hz : (aa_sI (aa_sI (aa_sI σ1 63 25 (iZ (mvZ P (fsm P e w (dv P t) (pl_n P + pl_b P))))) 74 (w * 65536 + t) (nI Q)) 75 (w * 65536 + t) (nI (lc e (so P e w (dv P t))))).1 63 25 = iZ (mvZ P (fsm P e w (dv P t) (pl_n P + pl_b P))) := by
            rw [sI_ne (by decide), sI_ne (by decide), sI_eq]
          have hy : FrQ σ (aa_sI (aa_sI (aa_sI σ1 63 25 (iZ (mvZ P (fsm P e w (dv P t) (pl_n P + pl_b P))))) 74 (w * 65536 + t) (nI Q)) 75 (w * 65536 + t) (nI (lc e (so P e w (dv P t))))) := ((hF.f _).s (Or.inl rfl) _ _).s (Or.inr rfl) _ _
          refine aa_go (aa_aload0 iX12_lasts_201) (aa_go (aa_iload5 iX12_lasts_202) (aa_go (aa_putI iX12_lasts_204 fl_X12_198 (fun h => nomatch h) (sh_63 hW1) rfl ⟨rfl, rfl⟩) (aa_go (aa_aload0 iX12_lasts_207) (aa_go (aa_iload3 iX12_lasts_208) (aa_go (aa_iload4 iX12_lasts_209) ?_)))))
          refine aa_if_ge iX12_lasts_211 (fun g4 => ?_) (fun g4 => ?_)
          · skip
            have hx4 : x4 = nI (lc e (so P e w (dv P t))) := by
              rcases hab with ⟨-, h2, -⟩ | ⟨-, h2, -⟩
              · rw [h2] at g4; exact absurd g4 (by decide)
              · rw [h2, som_all ok]
            refine aa_go (aa_iload4 iX12_lasts_224) ?_
            refine aa_go (aa_top (y := nI (lc e (so P e w (dv P t)))) (hx4)) ?_
            refine aa_go (aa_cVi iX12_lasts_226 (hS) (by omega) lc_X12_keeps lk_X12_186 (sh_63 hWf) rfl rfl (Nat.le_of_ble_eq_true rfl)) ?_
            refine aa_iret iX12_lasts_229 rfl ?_
            exact ⟨rfl, hy, hx, hz⟩
          · skip
            have h0 : pl_mv P w (dv P t) = 0 ∧ so P e w (dv P t) = 0 := by
              rcases hab with ⟨h1, -, -⟩ | ⟨-, h2, -⟩
              · rw [mlk_all] at h1
                refine ⟨mv_0.mpr h1, ?_⟩
                rw [so_eq ok, soA, mlk_all, h1]; rfl
              · rw [h2, som_all ok] at g4; exact absurd (Int32.not_lt.mp (nI_nneg (by omega))) g4
            have hE2 : (aa_sI σ1 63 25 (iZ (mvZ P (fsm P e w (dv P t) (pl_n P + pl_b P))))).1 63 12 = nI e := by rw [sI_nk (by decide)]; exact hE1
            have hE3 : nI (100 * e) = nI (lc e (so P e w (dv P t))) := by
              rw [h0.2]
              rcases (show e = 0 ∨ e = 1 by omega) with rfl | rfl <;> rfl
            refine aa_go (aa_bipush iX12_lasts_214 kb_100) (aa_go (aa_aload0 iX12_lasts_216) (aa_go (aa_getE iX12_lasts_217 fl_X12_124 (sh_63 hWf) rfl hE2) (aa_go (aa_imulN iX12_lasts_220 ) (aa_go (aa_goto iX12_lasts_221) ?_))))
            refine aa_go (aa_top (y := nI (lc e (so P e w (dv P t)))) (hE3)) ?_
            refine aa_go (aa_cVi iX12_lasts_226 (hS) (by omega) lc_X12_keeps lk_X12_186 (sh_63 hWf) rfl rfl (Nat.le_of_ble_eq_true rfl)) ?_
            refine aa_iret iX12_lasts_229 rfl ?_
            exact ⟨rfl, hy, hx, hz⟩
        · skip
          refine aa_go (aa_aload0 iX12_lasts_38) (aa_go (aa_iload1 iX12_lasts_39) (aa_go (aa_iload2 iX12_lasts_40) (aa_go (aa_iload6 iX12_lasts_41) (aa_go (aa_cVi iX12_lasts_43 (m_can hW1 hM1 ht (by omega) (by omega)) (by omega) lc_X12_can lk_X12_140 (sh_63 hW1) rfl rfl (Nat.le_of_ble_eq_true rfl)) ?_))))
          refine aa_if_neB iX12_lasts_46 (fun g5 => ?_) (fun g5 => ?_)
          · skip
            obtain ⟨j, hj, jl, -, lg, m1, m2⟩ := cn_t ok g5
            have mu := pl_mu_lt ok lg
            have al := af_lt ok ht g3
            have da := dv_af (t := t) ok hj
            obtain ⟨σ2, ⟨hF2, hK2, -⟩, hS2⟩ := ih (f - 1) (by omega) (af P t m) (1 - w) σ1 (by rw [da]; omega) al (by omega) hW1 hM1 hK1 hE1
            rw [da] at hS2
            have hW2 := hF2.W hW1
            have sl2 := so_le ok he (1 - w) (pl_nx P (dv P t) j)
            have lc2 := lc_c e (so P e (1 - w) (pl_nx P (dv P t) j))
            have lc3 := lc_c e (sox P e w (dv P t) j)
            have sxe : sox P e w (dv P t) j = so P e (1 - w) (pl_nx P (dv P t) j) + 1 := rfl
            have em : mvZ P (some j) = m := by show (pl_mo P j : Int) = m; rw [mo_sp ok hj]
            have nlt : mlk P w (dv P t) (msT P (m + 1)) ≠ [] := by rw [m2, mlk_t lg]; simp
            have yes : (mlk P w (dv P t) (msT P m) = [] ∨ sob e (sox P e w (dv P t) j) (som P e w (dv P t) (msT P m))) → ∀ y7 y9, aa_V mX12_lasts (5 + f) 31 [some (.ref 63), some (.int (nI t)), some (.int (nI w)), some (.int (nI (w * 65536 + t))), some (.int (nI (lc e (sox P e w (dv P t) j)))), some (.int (iZ (mvZ P (some j)))), some (.int (nI (m + 1))), y7, some (.int (nI (lc e (sox P e w (dv P t) j)))), y9] [] σ2 (fun ra σ' => ra = some (.int (nI (lc e (so P e w (dv P t))))) ∧ FrQ σ σ' ∧ MMK Q (vS P e) σ'.1 ∧ σ'.1 63 25 = iZ (mvZ P (fsm P e w (dv P t) (pl_n P + pl_b P)))) := by
              intro hy y7 y9
              rw [m1] at hy
              obtain ⟨x1, x2⟩ := fsm_new lg hy
              exact ihd (m + 1) σ2 _ _ _ _ _ (by omega) (by omega) (hF.tr hF2) hK2 (Or.inr ⟨nlt, by rw [m2, x1], by rw [m2, x2]⟩)
            rw [em] at yes
            have t94 : ∀ y7, aa_V mX12_lasts (5 + f) 94 [some (.ref 63), some (.int (nI t)), some (.int (nI w)), some (.int (nI (w * 65536 + t))), some (.int x4), some (.int (iZ (mvZ P b))), some (.int (nI m)), y7, some (.int (nI (lc e (sox P e w (dv P t) j)))), y9] [] σ2 (fun ra σ' => ra = some (.int (nI (lc e (so P e w (dv P t))))) ∧ FrQ σ σ' ∧ MMK Q (vS P e) σ'.1 ∧ σ'.1 63 25 = iZ (mvZ P (fsm P e w (dv P t) (pl_n P + pl_b P)))) := by
              intro y7
              rcases hab with ⟨h1, h2, h3⟩ | ⟨h1, h2, h3⟩
              · skip
                subst h2
                have ys := yes (Or.inl h1)
                refine aa_go (aa_iload4 iX12_lasts_94) ?_
                refine aa_if_lt iX12_lasts_96 (fun g6 => ?_) (fun g6 => ?_)
                · skip
                  refine aa_go (aa_iconst iX12_lasts_175 ki_1) (aa_go (aa_goto iX12_lasts_176) (aa_go (aa_istore9 iX12_lasts_180 rfl (by decide)) (aa_go (aa_iload9 iX12_lasts_182) ?_)))
                  refine aa_if_eqN iX12_lasts_184 (by omega) (fun g7 => ?_) (fun g7 => ?_)
                  · skip
                    exact absurd g7 (by decide)
                  · skip
                    refine aa_go (aa_iload8 iX12_lasts_187) (aa_go (aa_istore4 iX12_lasts_189 rfl (by decide)) (aa_go (aa_iload6 iX12_lasts_191) (aa_go (aa_istore5 iX12_lasts_193 rfl (by decide)) (aa_go (aa_iincN6 (k := 1) iX12_lasts_195 rfl (by decide)) (aa_go (aa_goto iX12_lasts_198) ?_)))))
                    exact ys _ _
                · skip
                  exact absurd (show iZ (-1) < 0 by decide) g6
              · skip
                subst h2
                have sm := som_le ok he w (dv P t) (msT P m)
                have lc4 := lc_c e (som P e w (dv P t) (msT P m))
                have ys : sob e (sox P e w (dv P t) j) (som P e w (dv P t) (msT P m)) → _ := fun q => yes (Or.inr q)
                have no : ¬ sob e (sox P e w (dv P t) j) (som P e w (dv P t) (msT P m)) → ∀ y7 y8 y9, aa_V mX12_lasts (5 + f) 31 [some (.ref 63), some (.int (nI t)), some (.int (nI w)), some (.int (nI (w * 65536 + t))), some (.int (nI (lc e (som P e w (dv P t) (msT P m))))), some (.int (iZ (mvZ P b))), some (.int (nI (m + 1))), y7, y8, y9] [] σ2 (fun ra σ' => ra = some (.int (nI (lc e (so P e w (dv P t))))) ∧ FrQ σ σ' ∧ MMK Q (vS P e) σ'.1 ∧ σ'.1 63 25 = iZ (mvZ P (fsm P e w (dv P t) (pl_n P + pl_b P)))) := by
                  intro hn y7 y8 y9
                  rw [m1] at hn h1
                  obtain ⟨x1, x2⟩ := fsm_old lg h1 hn
                  exact ihd (m + 1) σ2 _ _ _ _ _ (by omega) (by omega) (hF.tr hF2) hK2 (Or.inr ⟨nlt, by rw [m2, x1, m1], by rw [m2, x2, ← m1]; exact h3⟩)
                have t182 : ∀ (c : Bool), (c = true → sob e (sox P e w (dv P t) j) (som P e w (dv P t) (msT P m))) → (c = false → ¬ sob e (sox P e w (dv P t) j) (som P e w (dv P t) (msT P m))) → aa_V mX12_lasts (5 + f) 180 [some (.ref 63), some (.int (nI t)), some (.int (nI w)), some (.int (nI (w * 65536 + t))), some (.int (nI (lc e (som P e w (dv P t) (msT P m))))), some (.int (iZ (mvZ P b))), some (.int (nI m)), y7, some (.int (nI (lc e (sox P e w (dv P t) j)))), y9] [.int (nI c.toNat)] σ2 (fun ra σ' => ra = some (.int (nI (lc e (so P e w (dv P t))))) ∧ FrQ σ σ' ∧ MMK Q (vS P e) σ'.1 ∧ σ'.1 63 25 = iZ (mvZ P (fsm P e w (dv P t) (pl_n P + pl_b P)))) := by
                  intro c c1 c2
                  refine aa_go (aa_istore9 iX12_lasts_180 rfl (by decide)) (aa_go (aa_iload9 iX12_lasts_182) ?_)
                  refine aa_if_eqB iX12_lasts_184 (fun g7 => ?_) (fun g7 => ?_)
                  · skip
                    refine aa_go (aa_iincN6 (k := 1) iX12_lasts_195 rfl (by decide)) (aa_go (aa_goto iX12_lasts_198) ?_)
                    exact no (c2 g7) _ _ _
                  · skip
                    refine aa_go (aa_iload8 iX12_lasts_187) (aa_go (aa_istore4 iX12_lasts_189 rfl (by decide)) (aa_go (aa_iload6 iX12_lasts_191) (aa_go (aa_istore5 iX12_lasts_193 rfl (by decide)) (aa_go (aa_iincN6 (k := 1) iX12_lasts_195 rfl (by decide)) (aa_go (aa_goto iX12_lasts_198) ?_)))))
                    exact ys (c1 g7) _ _
                have tY := fun (q : sob e (sox P e w (dv P t) j) (som P e w (dv P t) (msT P m))) => t182 true (fun _ => q) (fun q2 => by simp at q2)
                have tN := fun (q : ¬ sob e (sox P e w (dv P t) j) (som P e w (dv P t) (msT P m))) => t182 false (fun q2 => by simp at q2) (fun _ => q)
                have l1 := lcb_sob (e := e) (x := sox P e w (dv P t) j) (a := som P e w (dv P t) (msT P m)) (by omega) (by omega)
                exact m_lastCmp hW2 (by omega) (by omega) (fun q => tY (l1.mp q)) (fun q => tN (fun q2 => q (l1.mpr q2)))
            refine aa_go (aa_aload0 iX12_lasts_52) (aa_go (aa_aload0 iX12_lasts_53) (aa_go (aa_iload1 iX12_lasts_54) (aa_go (aa_iload6 iX12_lasts_55) (aa_go (aa_cVi iX12_lasts_57 (m_after hW1 hM1 g3 hj) (by omega) lc_X12_after lk_X12_137 (sh_63 hW1) rfl rfl (Nat.le_of_ble_eq_true rfl)) (aa_go (aa_iconst iX12_lasts_60 ki_1) (aa_go (aa_iload2 iX12_lasts_61) (aa_go (aa_isubN iX12_lasts_62 (by omega)) ?_)))))))
            refine aa_go (aa_cVi iX12_lasts_63 (hS2) (by omega) lc_X12_lasts lk_X12_195 (sh_63 hW1) rfl rfl (Nat.le_of_ble_eq_true rfl)) (aa_go (aa_istore7 iX12_lasts_66 rfl (by decide)) (aa_go (aa_iload7 iX12_lasts_68) (aa_go (aa_bipush iX12_lasts_70 kb_100) ?_)))
            refine aa_ic_geN iX12_lasts_72 (by omega) (by omega) (fun g6 => ?_) (fun g6 => ?_)
            · skip
              refine aa_go (aa_iload7 iX12_lasts_85) (aa_go (aa_bipush iX12_lasts_87 kb_100) (aa_go (aa_isubN iX12_lasts_89 (by omega)) (aa_go (aa_iconst iX12_lasts_90 ki_1) (aa_go (aa_iaddN iX12_lasts_91 ) ?_))))
              refine aa_go (aa_top (y := nI (lc e (sox P e w (dv P t) j))) (by congr 1; omega)) ?_
              refine aa_go (aa_istore8 iX12_lasts_92 rfl (by decide)) ?_
              exact t94 _
            · skip
              refine aa_go (aa_bipush iX12_lasts_75 kb_100) (aa_go (aa_iload7 iX12_lasts_77) (aa_go (aa_iaddN iX12_lasts_79 ) (aa_go (aa_iconst iX12_lasts_80 ki_1) (aa_go (aa_iaddN iX12_lasts_81 ) (aa_go (aa_goto iX12_lasts_82) ?_)))))
              refine aa_go (aa_top (y := nI (lc e (sox P e w (dv P t) j))) (by congr 1; omega)) ?_
              refine aa_go (aa_istore8 iX12_lasts_92 rfl (by decide)) ?_
              exact t94 _
          · skip
            have e1 := mlk_cn_f ok g3 g5
            refine aa_go (aa_goto iX12_lasts_49) (aa_go (aa_iincN6 (k := 1) iX12_lasts_195 rfl (by decide)) (aa_go (aa_goto iX12_lasts_198) ?_))
            refine ihd (m + 1) σ1 x4 b _ _ _ (by omega) (by omega) hF hK1 ?_
            rw [fsm, som, soA, e1]; exact hab
    have key : aa_V mX12_lasts (5 + f) 0 [some (.ref 63), some (.int (nI t)), some (.int (nI w)), none, none, none, none, none, none, none] [] σ (fun ra σ' => ra = some (.int (nI (lc e (so P e w (dv P t))))) ∧ FrQ σ σ' ∧ MMK Q (vS P e) σ'.1 ∧ (FRE Q (w * 65536 + t) σ.1 → σ'.1 63 25 = iZ (mvZ P (fsm P e w (dv P t) (pl_n P + pl_b P))))) := by
      obtain ⟨q, hq1, hq2, hq3⟩ := hK.2.2 (w * 65536 + t) pl
      have hQ := hK.2.1
      have lp := loop 29 0 σ (iZ (-1)) none none none none (by omega) (by omega) FrQ.rf hK (Or.inl ⟨by rw [ms_0]; rfl, rfl, rfl⟩)
      obtain ⟨rb, σb, ⟨h1, h2, h3, h4⟩, hV⟩ := lp
      refine aa_go (aa_aload0 iX12_lasts_0) (aa_go (aa_iload1 iX12_lasts_1) (aa_go (aa_iload2 iX12_lasts_2) (aa_go (aa_cVi iX12_lasts_3 (m_placeOf hW) (by omega) lc_X12_placeOf lk_X12_177 (sh_63 hW) rfl rfl (Nat.le_of_ble_eq_true rfl)) (aa_go (aa_istore3 iX12_lasts_6 rfl (by decide)) (aa_go (aa_aload0 iX12_lasts_7) (aa_go (aa_iload3 iX12_lasts_8) (aa_go (aa_cVi iX12_lasts_9 (m_isKnown hW pl hq2 hK.1 (by omega) (by omega)) (by omega) lc_X12_isKnown lk_X12_180 (sh_63 hW) rfl rfl (Nat.le_of_ble_eq_true rfl)) ?_)))))))
      refine aa_if_eqB iX12_lasts_12 (fun g1 => ?_) (fun g1 => ?_)
      · skip
        refine aa_go (aa_iconst iX12_lasts_22 ki_m1) (aa_go (aa_istore4 iX12_lasts_23 rfl (by decide)) (aa_go (aa_iconst iX12_lasts_25 ki_m1) (aa_go (aa_istore5 iX12_lasts_26 rfl (by decide)) (aa_go (aa_iconst iX12_lasts_28 ki_0) (aa_go (aa_istore6 iX12_lasts_29 rfl (by decide)) ?_)))))
        exact ⟨rb, σb, ⟨h1, h2, h3, fun _ => h4⟩, hV⟩
      · skip
        have hq5 := of_decide_eq_true g1
        have hq4 := hq3 hq5
        rw [va] at hq4
        refine aa_go (aa_aload0 iX12_lasts_15) (aa_go (aa_getR iX12_lasts_16 fl_X12_174 (sh_63 hW) rfl) (aa_go (aa_iload3 iX12_lasts_19) (aa_go (aa_ialE iX12_lasts_20 (sh_75 hW) (by omega) (by omega) (hq4)) ?_)))
        refine aa_iret iX12_lasts_21 rfl ?_
        exact ⟨rfl, FrQ.rf, hK, fun hfr => absurd (by rw [hq2, hq5]) hfr⟩
    obtain ⟨ra, σ', ⟨rfl, h1⟩, hS9⟩ := aa_S_of (avs := [.ref 63, .int (nI t), .int (nI w)]) (by decide) 7 [some (.ref 63), some (.int (nI t)), some (.int (nI w)), none, none, none, none, none, none, none] rfl rfl key
    exact ⟨σ', h1, hS9⟩
end
