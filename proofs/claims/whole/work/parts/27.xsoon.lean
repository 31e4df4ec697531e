section
variable {r : Nat → Nat} {dy : List aa_Shp} {P : pl_T} {hs : List Nat}
def lsI (z : Bool) (a : Nat) : Int32 := if a = 0 ∧ z = false then -1 else nI a
theorem c_X9_wonIn {σ : aa_St} {l e : Nat} (hl : l < 2147483648) (he : e ≤ 1) : aa_SX mX9_wonIn 1 [.int (nI l), .int (nI e)] σ (some (.int (nI (decide (l % 2 ≠ e)).toNat))) σ := by
  refine aa_E_of (by decide) 0 [some (.int (nI l)), some (.int (nI e))] rfl rfl ?_
  refine aa_go (aa_iload0 iX9_wonIn_0) (aa_go (aa_iconst iX9_wonIn_1 ki_1) (aa_go (aa_iandN iX9_wonIn_2 ) ?_))
  refine aa_go (aa_top (y := nI (l % 2)) (by rw [Nat.and_one_is_mod])) ?_
  refine aa_go (aa_iload1 iX9_wonIn_3) ?_
  refine aa_ic_eqN iX9_wonIn_4 (by omega) (by omega) (fun h1 => ?_) (fun h1 => ?_)
  · skip
    refine aa_go (aa_iconst iX9_wonIn_11 ki_0) ?_
    refine aa_zretF iX9_wonIn_12 rfl ?_
    exact ⟨by rw [decide_eq_false (by omega)]; rfl, rfl⟩
  · skip
    refine aa_go (aa_iconst iX9_wonIn_7 ki_1) (aa_go (aa_goto iX9_wonIn_8) ?_)
    refine aa_zretT iX9_wonIn_12 rfl ?_
    exact ⟨by rw [decide_eq_true (by omega)]; rfl, rfl⟩
theorem soA_bd {P : pl_T} (ok : pl_ok P) {e : Nat} (he : e ≤ 1) (h s : Nat) : ∀ k, (∀ w, (soA P e h s k).1 = some w → w ≤ 19) ∧ (soA P e h s k).2 ≤ 19
  | 0 => ⟨fun w hw => by simp [soA, mlk_0] at hw, Nat.zero_le _⟩
  | k + 1 => by
    obtain ⟨i1, i2⟩ := soA_bd ok he h s k
    cases hl : pl_lg P h s k with
    | false => rw [soA_f hl]; exact ⟨i1, i2⟩
    | true =>
      have := so_le ok he (1 - h) (pl_nx P s k)
      rw [soA_t hl, soS]
      generalize soA P e h s k = A at *
      obtain ⟨A1, A2⟩ := A
      dsimp only at i1 i2 ⊢
      split
      · exact ⟨i1, by dsimp only; omega⟩
      · refine ⟨fun w hw => ?_, i2⟩
        simp only [Option.some.injEq] at hw
        cases A1 with
        | none => simp only [soM] at hw; omega
        | some w0 =>
          have := i1 w0 rfl
          simp only [soM] at hw
          split at hw <;> omega
theorem c_X9_soonestFrom (hr0 : ∀ σ : aa_St, aa_W r dy σ → σ.2.2.1[r 0]? = some (.inl (1, 2 ^ (pl_n P + pl_b P)))) {e : Nat} (he : e ≤ 1) : ∀ m s h dp (σ : aa_St), pl_mu P s ≤ m → s < 2 ^ (pl_n P + pl_b P) → h ≤ 1 → dp + pl_mu P s ≤ 40 → aa_W r dy σ → XP P hs σ.1 → KI P (σ.2.1 (r 0)) →
    ∃ σ' : aa_St, (FrL (r 0) σ σ' ∧ KI P (σ'.2.1 (r 0))) ∧ aa_SX mX9_soonestFrom (5 + m) [.ref 24, .int (nI s), .int (nI h), .int (nI e), .int (nI dp)] σ (some (.int (nI (so P e h s)))) σ' := by
  intro m
  induction m using Nat.strongRecOn with
  | ind m ih =>
    intro s h dp σ hm hs2 hh hdp hW hX hKI
    have ok := hX.ok
    have hn := hX.n14
    have hb := hX.b2
    have p16 := pw16 (k := pl_n P + pl_b P) (by omega)
    have hs_r0 := hr0 σ hW
    obtain ⟨v, hv, hv28, hK⟩ := hKI s hs2
    have sole := so_le ok he h s
    have lmv := pl_mv_lt P h s
    generalize hQ : (fun (r1 : Option Value) (σ' : aa_St) => r1 = some (.int (nI (so P e h s))) ∧ (FrL (r 0) σ σ' ∧ KI P (σ'.2.1 (r 0)))) = Q
    -- the end, from where the winner is on the stack: 203
    have fin2 : ∀ (σ1 : aa_St) y9 y10 y12, FrL (r 0) σ σ1 → KI P (σ1.2.1 (r 0)) → aa_V mX9_soonestFrom (5 + m) 203 [some (.ref 24), some (.int (nI s)), some (.int (nI h)), some (.int (nI e)), some (.int (nI dp)), some (.int (nI (8 + 10 * h + 5 * e))), some (.int (nI 0)), some (.int (nI (pl_mv P h s))), some (.int (nI (pl_n P + pl_b P))), y9, y10, some (.int (nI (so P e h s))), y12, none] [.long (lN (if wi P e h s then 2 else 1))] σ1 Q := by
      intro σ1 y9 y10 y12 hF hKI1
      have hW1 := hW.of2 hF.2.1
      have hs_r0 := hr0 σ1 hW1
      obtain ⟨v1, hv1, hv28', hK1⟩ := hKI1 s hs2
      have kw := KIs_w (s := s) hh he hv28' hK1
      have c4 : (if wi P e h s then 2 else 1) < 2 ^ 2 := by split <;> decide
      have v2lt : v1 ||| (if wi P e h s then 2 else 1) <<< (4 * h + 2 * e) < 2 ^ 28 := bb_or hv28' (shl_lt c4 (by omega))
      have ks := KIs_s ok hh he kw v2lt
      have e31 : so P e h s + 1 &&& 31 = so P e h s + 1 := by
        have := Nat.and_two_pow_sub_one_eq_mod (so P e h s + 1) 5
        rw [show (2 : Nat) ^ 5 - 1 = 31 from rfl] at this
        rw [this, Nat.mod_eq_of_lt (by omega)]
      refine aa_go (aa_iconst iX9_soonestFrom_203 ki_4) (aa_go (aa_iload2 iX9_soonestFrom_204) (aa_go (aa_imulN iX9_soonestFrom_205 ) (aa_go (aa_iconst iX9_soonestFrom_206 ki_2) (aa_go (aa_iload3 iX9_soonestFrom_207) (aa_go (aa_imulN iX9_soonestFrom_208 ) (aa_go (aa_iaddN iX9_soonestFrom_209 ) (aa_go (aa_lshlN iX9_soonestFrom_210 (by omega)) ?_)))))))
      refine aa_go (aa_lstore12 iX9_soonestFrom_211 rfl (by decide)) (aa_go (aa_aload0 iX9_soonestFrom_213) (aa_go (aa_getR iX9_soonestFrom_214 fl_X9_12 (sh_24 hW1) rfl) (aa_go (aa_iload1 iX9_soonestFrom_217) (aa_go (aa_aload0 iX9_soonestFrom_218) (aa_go (aa_getR iX9_soonestFrom_219 fl_X9_12 (sh_24 hW1) rfl) (aa_go (aa_iload1 iX9_soonestFrom_222) (aa_go (aa_cVl iX9_soonestFrom_223 (hv1 ▸ c_at25 hW1 hs_r0 (by omega) hs2) (by omega) lc_X4_at lk_X9_43 (sh_25 hW1) rfl rfl (Nat.le_of_ble_eq_true rfl)) ?_)))))))
      refine aa_go (aa_lload12 iX9_soonestFrom_226) (aa_go (aa_lorN iX9_soonestFrom_228 ) (aa_go (aa_iload11 iX9_soonestFrom_229) (aa_go (aa_iconst iX9_soonestFrom_231 ki_1) (aa_go (aa_iaddN iX9_soonestFrom_232 ) (aa_go (aa_bipush iX9_soonestFrom_233 kb_31) (aa_go (aa_iandN iX9_soonestFrom_235 ) ?_))))))
      refine aa_go (aa_top (y := nI (so P e h s + 1)) (by rw [e31])) ?_
      refine aa_go (aa_i2lN iX9_soonestFrom_236 (by omega)) (aa_go (aa_iload5 iX9_soonestFrom_237) (aa_go (aa_lshlN iX9_soonestFrom_239 (by omega)) (aa_go (aa_lorN iX9_soonestFrom_240 ) (aa_go (aa_cVv iX9_soonestFrom_241 (c_set25 hW1 hs_r0 (by omega) hs2 _) (by omega) lc_X4_set lk_X9_60 (sh_25 hW1) rfl rfl (Nat.le_of_ble_eq_true rfl)) (aa_go (aa_iload11 iX9_soonestFrom_244) ?_)))))
      refine aa_iret iX9_soonestFrom_246 rfl ?_
      rw [← hQ]
      exact ⟨rfl, hF.sL s _, hKI1.set ks⟩
    -- the end: 172
    have fin : ∀ (σ1 : aa_St) y11 y12, FrL (r 0) σ σ1 → KI P (σ1.2.1 (r 0)) → aa_V mX9_soonestFrom (5 + m) 172 [some (.ref 24), some (.int (nI s)), some (.int (nI h)), some (.int (nI e)), some (.int (nI dp)), some (.int (nI (8 + 10 * h + 5 * e))), some (.int (nI 0)), some (.int (nI (pl_mv P h s))), some (.int (nI (pl_n P + pl_b P))), some (.int (oI (soA P e h s (pl_n P + pl_b P)).1)), some (.int (lsI (decide (pl_mv P h s = 0)) (soA P e h s (pl_n P + pl_b P)).2)), some (.int y11), y12, none] [] σ1 Q := by
      intro σ1 y11 y12 hF hKI1
      have sw := so_wi ok he h s
      have T185 : ∀ y9 y10, aa_V mX9_soonestFrom (5 + m) 185 [some (.ref 24), some (.int (nI s)), some (.int (nI h)), some (.int (nI e)), some (.int (nI dp)), some (.int (nI (8 + 10 * h + 5 * e))), some (.int (nI 0)), some (.int (nI (pl_mv P h s))), some (.int (nI (pl_n P + pl_b P))), y9, some (.int y10), some (.int y11), y12, none] [.int (nI (so P e h s))] σ1 Q := by
        intro y9 y10
        refine aa_go (aa_istore11 iX9_soonestFrom_185 rfl (by decide)) (aa_go (aa_iload11 iX9_soonestFrom_187) (aa_go (aa_iload3 iX9_soonestFrom_189) (aa_go (aa_cSi iX9_soonestFrom_190 (c_X9_wonIn (by omega) he) (by omega) lc_X9_wonIn lk_X9_72 rfl (Nat.le_of_ble_eq_true rfl)) ?_)))
        refine aa_if_eqB iX9_soonestFrom_193 (fun h1 => ?_) (fun h1 => ?_)
        · skip
          rw [← sw] at h1
          have := fin2 σ1 y9 (some (.int y10)) y12 hF hKI1
          rw [h1] at this
          refine aa_go (aa_lconst iX9_soonestFrom_202 kl_1) ?_
          exact this
        · skip
          rw [← sw] at h1
          have := fin2 σ1 y9 (some (.int y10)) y12 hF hKI1
          rw [h1] at this
          refine aa_go (aa_ldc2 iX9_soonestFrom_196 ld_X9_81) (aa_go (aa_goto iX9_soonestFrom_199) ?_)
          exact this
      have se := so_eq ok e h s
      cases hA : (soA P e h s (pl_n P + pl_b P)).1 with
      | none =>
        have e2 : so P e h s = (soA P e h s (pl_n P + pl_b P)).2 := by rw [se, soR, hA]
        have e3 : lsI (decide (pl_mv P h s = 0)) (soA P e h s (pl_n P + pl_b P)).2 = nI (so P e h s) := by
          rw [lsI, e2]
          by_cases h0 : pl_mv P h s = 0
          · rw [if_neg (by simp [h0])]
          · rw [if_neg]
            rintro ⟨q1, -⟩
            -- no step would be won, and none lost
            have hpar : wi P e h s = wiA P e h s (pl_n P + pl_b P) := by rw [wi_of ok, if_neg h0]
            have h00 : so P e h s = 0 := by rw [e2, q1]
            have hz : ∀ k, k ≤ pl_n P + pl_b P → (soA P e h s k).1 = none → (soA P e h s k).2 = 0 → mlk P h s k = [] := by
              intro k
              induction k with
              | zero => intro _ _ _; rfl
              | succ k ihk =>
                intro hk n1 n2
                cases hl : pl_lg P h s k with
                | false => rw [soA_f hl] at n1 n2; rw [mlk_f hl]; exact ihk (by omega) n1 n2
                | true =>
                  rw [soA_t hl, soS] at n1 n2
                  split at n1
                  · rename_i hc
                    rw [if_pos hc] at n2
                    simp only at n2
                    have := Nat.le_max_right (soA P e h s k).2 (so P e (1 - h) (pl_nx P s k) + 1)
                    omega
                  · simp at n1
            exact h0 (mv_0.mpr (hz _ (Nat.le_refl _) hA q1))
        rw [e3]
        refine aa_go (aa_iload9 iX9_soonestFrom_172) (aa_go (aa_iconst iX9_soonestFrom_174 ki_m1) ?_)
        refine aa_go (aa_ic_neF iX9_soonestFrom_175 (rfl)) ?_
        refine aa_go (aa_iload10 iX9_soonestFrom_178) (aa_go (aa_goto iX9_soonestFrom_180) ?_)
        exact T185 _ _
      | some w =>
        have e2 : so P e h s = w := by rw [se, soR, hA]
        rw [← e2]
        refine aa_go (aa_iload9 iX9_soonestFrom_172) (aa_go (aa_iconst iX9_soonestFrom_174 ki_m1) ?_)
        refine aa_go (aa_ic_neT iX9_soonestFrom_175 (nI_m1ne (by omega))) ?_
        refine aa_go (aa_iload9 iX9_soonestFrom_183) ?_
        exact T185 _ _
    -- the loop: 85
    have loop : ∀ f k (σ1 : aa_St) y12, pl_n P + pl_b P - k < f → k ≤ pl_n P + pl_b P → FrL (r 0) σ σ1 → KI P (σ1.2.1 (r 0)) → aa_V mX9_soonestFrom (5 + m) 85 [some (.ref 24), some (.int (nI s)), some (.int (nI h)), some (.int (nI e)), some (.int (nI dp)), some (.int (nI (8 + 10 * h + 5 * e))), some (.int (nI 0)), some (.int (nI (pl_mv P h s))), some (.int (nI (pl_n P + pl_b P))), some (.int (oI (soA P e h s k).1)), some (.int (lsI (decide (pl_mv P h s = 0)) (soA P e h s k).2)), some (.int (nI k)), y12, none] [] σ1 Q := by
      intro f
      induction f with
      | zero => intro k σ1 y12 g1; omega
      | succ f ihf =>
        intro k σ1 y12 g1 g2 hF hKI1
        have hW1 := hW.of2 hF.2.1
        have hX1 : XP P hs σ1.1 := by rw [hF.1]; exact hX
        refine aa_go (aa_iload11 iX9_soonestFrom_85) (aa_go (aa_iload8 iX9_soonestFrom_87) ?_)
        refine aa_ic_geN iX9_soonestFrom_89 (by omega) (by omega) (fun g3 => ?_) (fun g3 => ?_)
        · skip
          have e1 : k = pl_n P + pl_b P := by omega
          subst e1
          exact fin σ1 _ _ hF hKI1
        · skip
          refine aa_go (aa_iload7 iX9_soonestFrom_92) (aa_go (aa_iload11 iX9_soonestFrom_94) (aa_go (aa_ishrN iX9_soonestFrom_96 (by omega) (by omega)) (aa_go (aa_iconst iX9_soonestFrom_97 ki_1) (aa_go (aa_ibit iX9_soonestFrom_98) ?_))))
          refine aa_if_eqB iX9_soonestFrom_99 (fun g5 => ?_) (fun g5 => ?_)
          · skip
            rw [mv_bit g3] at g5
            refine aa_go (aa_iincN11 (k := 1) iX9_soonestFrom_166 rfl (by decide)) (aa_go (aa_goto iX9_soonestFrom_169) ?_)
            have := ihf (k + 1) σ1 y12 (by omega) (by omega) hF hKI1
            rw [soA_f g5] at this
            exact this
          · skip
            rw [mv_bit g3] at g5
            have mu := pl_mu_lt ok g5
            have nlt := pl_nx_lt ok hs2 g3
            obtain ⟨σ2, ⟨hF2, hKI2⟩, hS2⟩ := ih (pl_mu P (pl_nx P s k)) (by omega) (pl_nx P s k) (1 - h) (dp + 1) σ1 (Nat.le_refl _) nlt (by omega) (by omega) hW1 hX1 hKI1
            have hm0 : ¬ pl_mv P h s = 0 := fun q => by
              have := mv_bit (P := P) (h := h) (s := s) g3
              rw [q, g5] at this; simp at this
            have sol2 := so_le ok he (1 - h) (pl_nx P s k)
            have nxt := fun y => ihf (k + 1) σ2 y (by omega) (by omega) (hF.tr hF2) hKI2
            rw [soA_t g5] at nxt
            have bd9 := soA_bd ok he h s k
            generalize hv9 : so P e (1 - h) (pl_nx P s k) = v9 at *
            generalize soA P e h s k = A at *
            obtain ⟨A1, A2⟩ := A
            unfold soS at nxt
            simp only [decide_eq_false hm0] at nxt ⊢
            dsimp only at nxt bd9 ⊢
            refine aa_go (aa_iconst iX9_soonestFrom_102 ki_1) (aa_go (aa_aload0 iX9_soonestFrom_103) (aa_go (aa_aload0 iX9_soonestFrom_104) (aa_go (aa_getR iX9_soonestFrom_105 fl_X9_31 (sh_24 hW1) rfl) (aa_go (aa_iload1 iX9_soonestFrom_108) (aa_go (aa_iload11 iX9_soonestFrom_109) (aa_go (aa_cVi iX9_soonestFrom_111 (c_X6_behind hW1 hX1 g3) (by omega) lc_X6_behind lk_X9_57 (sh_7 hW1) rfl rfl (Nat.le_of_ble_eq_true rfl)) (aa_go (aa_iconst iX9_soonestFrom_114 ki_1) ?_)))))))
            refine aa_go (aa_iload2 iX9_soonestFrom_115) (aa_go (aa_isubN iX9_soonestFrom_116 (by omega)) (aa_go (aa_iload3 iX9_soonestFrom_117) (aa_go (aa_iload4 iX9_soonestFrom_118) (aa_go (aa_iconst iX9_soonestFrom_120 ki_1) (aa_go (aa_iaddN iX9_soonestFrom_121 ) (aa_go (aa_cVi iX9_soonestFrom_122 (hS2) (by omega) lc_X9_soonestFrom lk_X9_68 (sh_24 hW1) rfl rfl (Nat.le_of_ble_eq_true rfl)) (aa_go (aa_iaddN iX9_soonestFrom_125 ) ?_)))))))
            refine aa_go (aa_top (y := nI (v9 + 1)) (by rw [Nat.add_comm])) ?_
            refine aa_go (aa_istore12 iX9_soonestFrom_126 rfl (by decide)) (aa_go (aa_iload12 iX9_soonestFrom_128) (aa_go (aa_iload3 iX9_soonestFrom_130) (aa_go (aa_cSi iX9_soonestFrom_131 (c_X9_wonIn (by omega) he) (by omega) lc_X9_wonIn lk_X9_72 rfl (Nat.le_of_ble_eq_true rfl)) ?_)))
            refine aa_if_neB iX9_soonestFrom_134 (fun g6 => ?_) (fun g6 => ?_)
            · skip
              have g7 := of_decide_eq_true g6
              rw [if_neg g7] at nxt
              dsimp only at nxt
              have T162 : ∀ x, oI (some (soM A1 (v9 + 1))) = nI (v9 + 1) → aa_V mX9_soonestFrom (5 + m) 162 [some (.ref 24), some (.int (nI s)), some (.int (nI h)), some (.int (nI e)), some (.int (nI dp)), some (.int (nI (8 + 10 * h + 5 * e))), some (.int (nI 0)), some (.int (nI (pl_mv P h s))), some (.int (nI (pl_n P + pl_b P))), some (.int x), some (.int (lsI false A2)), some (.int (nI k)), some (.int (nI (v9 + 1))), none] [] σ2 Q := by
                intro x hx
                refine aa_go (aa_iload12 iX9_soonestFrom_162) (aa_go (aa_istore9 iX9_soonestFrom_164 rfl (by decide)) (aa_go (aa_iincN11 (k := 1) iX9_soonestFrom_166 rfl (by decide)) (aa_go (aa_goto iX9_soonestFrom_169) ?_)))
                rw [hx] at nxt
                exact nxt _
              cases A1 with
              | none =>
                refine aa_go (aa_iload9 iX9_soonestFrom_149) (aa_go (aa_iconst iX9_soonestFrom_151 ki_m1) ?_)
                refine aa_go (aa_ic_eqT iX9_soonestFrom_152 (rfl)) ?_
                exact T162 _ rfl
              | some w =>
                have hw9 := bd9.1 w rfl
                refine aa_go (aa_iload9 iX9_soonestFrom_149) (aa_go (aa_iconst iX9_soonestFrom_151 ki_m1) ?_)
                refine aa_go (aa_ic_eqF iX9_soonestFrom_152 (nI_m1ne (by omega))) ?_
                refine aa_go (aa_iload12 iX9_soonestFrom_155) (aa_go (aa_iload9 iX9_soonestFrom_157) ?_)
                refine aa_ic_geN iX9_soonestFrom_159 (by omega) (by omega) (fun g8 => ?_) (fun g8 => ?_)
                · skip
                  refine aa_go (aa_iincN11 (k := 1) iX9_soonestFrom_166 rfl (by decide)) (aa_go (aa_goto iX9_soonestFrom_169) ?_)
                  simp only [soM, if_neg (Nat.not_lt.mpr g8)] at nxt
                  exact nxt _
                · skip
                  exact T162 _ (by simp only [soM, if_pos g8]; rfl)
            · skip
              have g7 : (v9 + 1) % 2 = e := by
                have := of_decide_eq_false g6
                omega
              rw [if_pos g7] at nxt
              dsimp only at nxt
              have hmx : (if lsI false A2 < nI (v9 + 1) then nI (v9 + 1) else lsI false A2) = lsI false (max A2 (v9 + 1)) := by
                rw [show lsI false (max A2 (v9 + 1)) = nI (max A2 (v9 + 1)) by rw [lsI, if_neg]; rintro ⟨q, -⟩; have := Nat.le_max_right A2 (v9 + 1); omega]
                by_cases h0 : A2 = 0
                · have e9 : lsI false A2 = -1 := if_pos ⟨h0, rfl⟩
                  rw [e9, if_pos, h0, Nat.zero_max]
                  rw [Int32.lt_iff_toInt_lt, nI_toInt (by omega)]
                  exact Int.lt_of_lt_of_le (by decide) (Int.natCast_nonneg _)
                · have e9 : lsI false A2 = nI A2 := if_neg (fun q => h0 q.1)
                  rw [e9]
                  by_cases h1 : A2 < v9 + 1
                  · rw [if_pos ((nI_lti (by omega) (by omega)).mpr h1), Nat.max_eq_right (by omega)]
                  · rw [if_neg (fun q => h1 ((nI_lti (by omega) (by omega)).mp q)), Nat.max_eq_left (by omega)]
              refine aa_go (aa_iload10 iX9_soonestFrom_137) (aa_go (aa_iload12 iX9_soonestFrom_139) (aa_go (aa_mmax iX9_soonestFrom_141 (by omega) lk_X9_76 (Nat.le_of_ble_eq_true rfl)) ?_))
              refine aa_go (aa_top (y := lsI false (max A2 (v9 + 1))) (hmx)) ?_
              refine aa_go (aa_istore10 iX9_soonestFrom_144 rfl (by decide)) (aa_go (aa_goto iX9_soonestFrom_146) (aa_go (aa_iincN11 (k := 1) iX9_soonestFrom_166 rfl (by decide)) (aa_go (aa_goto iX9_soonestFrom_169) ?_)))
              exact nxt _
    have key : aa_V mX9_soonestFrom (5 + m) 0 [some (.ref 24), some (.int (nI s)), some (.int (nI h)), some (.int (nI e)), some (.int (nI dp)), none, none, none, none, none, none, none, none, none] [] σ Q := by
      refine aa_go (aa_bipush iX9_soonestFrom_0 kb_8) (aa_go (aa_bipush iX9_soonestFrom_2 kb_10) (aa_go (aa_iload2 iX9_soonestFrom_4) (aa_go (aa_imulN iX9_soonestFrom_5 ) (aa_go (aa_iaddN iX9_soonestFrom_6 ) (aa_go (aa_iconst iX9_soonestFrom_7 ki_5) (aa_go (aa_iload3 iX9_soonestFrom_8) (aa_go (aa_imulN iX9_soonestFrom_9 ) ?_)))))))
      refine aa_go (aa_iaddN iX9_soonestFrom_10 ) (aa_go (aa_istore5 iX9_soonestFrom_11 rfl (by decide)) (aa_go (aa_aload0 iX9_soonestFrom_13) (aa_go (aa_getR iX9_soonestFrom_14 fl_X9_12 (sh_24 hW) rfl) (aa_go (aa_iload1 iX9_soonestFrom_17) (aa_go (aa_cVl iX9_soonestFrom_18 (hv ▸ c_at25 hW hs_r0 (by omega) hs2) (by omega) lc_X4_at lk_X9_43 (sh_25 hW) rfl rfl (Nat.le_of_ble_eq_true rfl)) (aa_go (aa_iload5 iX9_soonestFrom_21) (aa_go (aa_lshrN iX9_soonestFrom_23 (by omega) (by omega)) ?_)))))))
      refine aa_go (aa_l2iN iX9_soonestFrom_24) (aa_go (aa_bipush iX9_soonestFrom_25 kb_31) (aa_go (aa_iandN iX9_soonestFrom_27 ) ?_))
      refine aa_go (aa_top (y := nI (fd v (8 + 10 * h + 5 * e) 5)) (by rw [and31])) ?_
      refine aa_go (aa_istore6 iX9_soonestFrom_28 rfl (by decide)) (aa_go (aa_iload6 iX9_soonestFrom_30) ?_)
      have fl := fd_lt v (8 + 10 * h + 5 * e) 5
      have hk1 := (hK h e hh he).2
      refine aa_if_neN iX9_soonestFrom_32 (by omega) (fun h1 => ?_) (fun h1 => ?_)
      · skip
        have h2 : fd v (8 + 10 * h + 5 * e) 5 = so P e h s + 1 := hk1.resolve_left h1
        rw [h2]
        refine aa_go (aa_iload6 iX9_soonestFrom_42) (aa_go (aa_iconst iX9_soonestFrom_44 ki_1) (aa_go (aa_isubN iX9_soonestFrom_45 (by omega)) ?_))
        refine aa_iret iX9_soonestFrom_46 rfl ?_
        rw [← hQ]
        exact ⟨rfl, FrL.rf, hKI⟩
      · skip
        rw [h1]
        refine aa_go (aa_iload4 iX9_soonestFrom_35) (aa_go (aa_bipush iX9_soonestFrom_37 kb_40) ?_)
        refine aa_ic_leN iX9_soonestFrom_39 (by omega) (by omega) (fun h3 => ?_) (fun h3 => ?_)
        · skip
          refine aa_go (aa_aload0 iX9_soonestFrom_47) (aa_go (aa_getR iX9_soonestFrom_48 fl_X9_31 (sh_24 hW) rfl) (aa_go (aa_iload1 iX9_soonestFrom_51) (aa_go (aa_iload2 iX9_soonestFrom_52) (aa_go (aa_cVi iX9_soonestFrom_53 (c_X6_moves hW hX (by omega)) (by omega) lc_X6_moves lk_X9_47 (sh_7 hW) rfl rfl (Nat.le_of_ble_eq_true rfl)) (aa_go (aa_istore7 iX9_soonestFrom_56 rfl (by decide)) (aa_go (aa_aload0 iX9_soonestFrom_58) (aa_go (aa_getR iX9_soonestFrom_59 fl_X9_31 (sh_24 hW) rfl) ?_)))))))
          refine aa_go (aa_cVi iX9_soonestFrom_62 (c_X6_steps hW hX) (by omega) lc_X6_steps lk_X9_53 (sh_7 hW) rfl rfl (Nat.le_of_ble_eq_true rfl)) (aa_go (aa_istore8 iX9_soonestFrom_65 rfl (by decide)) (aa_go (aa_iconst iX9_soonestFrom_67 ki_m1) (aa_go (aa_istore9 iX9_soonestFrom_68 rfl (by decide)) (aa_go (aa_iload7 iX9_soonestFrom_70) ?_))))
          have := loop (pl_n P + pl_b P + 1) 0 σ none (by omega) (by omega) FrL.rf hKI
          refine aa_if_neN iX9_soonestFrom_72 (by omega) (fun h4 => ?_) (fun h4 => ?_)
          · skip
            rw [decide_eq_false h4] at this
            refine aa_go (aa_iconst iX9_soonestFrom_79 ki_m1) (aa_go (aa_istore10 iX9_soonestFrom_80 rfl (by decide)) (aa_go (aa_iconst iX9_soonestFrom_82 ki_0) (aa_go (aa_istore11 iX9_soonestFrom_83 rfl (by decide)) ?_)))
            exact this
          · skip
            rw [decide_eq_true h4] at this
            refine aa_go (aa_iconst iX9_soonestFrom_75 ki_0) (aa_go (aa_goto iX9_soonestFrom_76) (aa_go (aa_istore10 iX9_soonestFrom_80 rfl (by decide)) (aa_go (aa_iconst iX9_soonestFrom_82 ki_0) (aa_go (aa_istore11 iX9_soonestFrom_83 rfl (by decide)) ?_))))
            exact this
        · skip
          omega
    rw [← hQ] at key
    obtain ⟨r1, σ', ⟨rfl, h1⟩, hS⟩ := aa_S_of (avs := [.ref 24, .int (nI s), .int (nI h), .int (nI e), .int (nI dp)]) (by decide) 9 [some (.ref 24), some (.int (nI s)), some (.int (nI h)), some (.int (nI e)), some (.int (nI dp)), none, none, none, none, none, none, none, none, none] rfl rfl key
    exact ⟨σ', h1, hS⟩
end
