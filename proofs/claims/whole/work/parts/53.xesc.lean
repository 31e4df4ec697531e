/-! PARROTS: two heirs alone, the first step, who keeps it without the third -/
def fst1 (P : pl_T) (p : Nat → Bool) (h s k : Nat) : Option Nat := (mlk P h s k).find? p
theorem fst1_f {P : pl_T} {p : Nat → Bool} {h s k : Nat} (hl : pl_lg P h s k = false) : fst1 P p h s (k + 1) = fst1 P p h s k := by
  rw [fst1, mlk_f hl]; rfl
theorem fst1_t {P : pl_T} {p : Nat → Bool} {h s k : Nat} (hl : pl_lg P h s k = true) (hf : fst1 P p h s k = none) : fst1 P p h s (k + 1) = if p k = true then some k else none := by
  rw [fst1, mlk_t hl, List.find?_append]
  rw [fst1] at hf
  rw [hf]
  by_cases q : p k = true
  · rw [if_pos q]; simp [q]
  · rw [if_neg q]; simp [q]
theorem fst1_done {P : pl_T} {p : Nat → Bool} {h s k N j : Nat} (hk : k ≤ N) (hj : fst1 P p h s k = some j) : fst1 P p h s N = some j := by
  have : ∀ d, fst1 P p h s (k + d) = some j := by
    intro d
    induction d with
    | zero => exact hj
    | succ d ihd =>
      cases hl : pl_lg P h s (k + d) with
      | false => rw [show k + (d + 1) = k + d + 1 by omega, fst1_f hl]; exact ihd
      | true => rw [fst1, show k + (d + 1) = k + d + 1 by omega, mlk_t hl, List.find?_append]; rw [fst1] at ihd; rw [ihd]; rfl
  have := this (N - k)
  rw [show k + (N - k) = N by omega] at this
  exact this
def esA (P : pl_T) (h k s i : Nat) : Bool := (mlk P h s i).any (fun j => !es P k h (pl_nx P s j))
theorem esA_t {P : pl_T} {h k s i : Nat} (hl : pl_lg P h s i = true) : esA P h k s (i + 1) = (esA P h k s i || !es P k h (pl_nx P s i)) := by
  rw [esA, mlk_t hl, List.any_append]; simp [esA]
theorem esA_f {P : pl_T} {h k s i : Nat} (hl : pl_lg P h s i = false) : esA P h k s (i + 1) = esA P h k s i := by
  rw [esA, mlk_f hl]; rfl
theorem esA_mono {P : pl_T} {h k s i i' : Nat} (hk : i ≤ i') (h1 : esA P h k s i = true) : esA P h k s i' = true := by
  induction i' with
  | zero => rw [show i = 0 by omega] at h1; exact h1
  | succ q ih =>
    by_cases e1 : i = q + 1
    · rw [← e1]; exact h1
    · have ih := ih (by omega)
      cases hl : pl_lg P h s q with
      | true => rw [esA_t hl, ih]; rfl
      | false => rw [esA_f hl]; exact ih
theorem es_of {P : pl_T} (ok : pl_ok P) {h k s : Nat} : es P h k s = if pl_mv P h s = 0 then true else esA P h k s (pl_n P + pl_b P) := es_eq ok h k s
theorem eo_le {h : Nat} (hh : h ≤ 2) (k : Nat) : eo h k ≤ 58 := by
  unfold eo
  split <;> omega
theorem KKs_e {P : pl_T} {s v h k : Nat} (hh : h ≤ 2) (hk : k ≤ 2) (hne : k ≠ h) (hv : v < 2 ^ 60) (hK : ∀ lk h, lk < 8 → h ≤ 2 → fd v (6 * lk + 2 * h) 2 = 0 ∨ fd v (6 * lk + 2 * h) 2 = kp P lk h s + 1) (hE : ∀ h k, h ≤ 2 → k ≤ 2 → k ≠ h → fd v (eo h k) 2 = 0 ∨ fd v (eo h k) 2 = if es P h k s then 2 else 1) : KKs P s (lN (v ||| (if es P h k s then 2 else 1) <<< eo h k)) := by
  have c4 : (if es P h k s then 2 else 1) < 2 ^ 2 := by split <;> decide
  have el := eo_le hh k
  refine ⟨_, rfl, bb_or hv (shl_lt c4 (by omega)), fun lk' h' hl' hh' => ?_, fun h' k' hh' hk' hne' => ?_⟩
  · rw [fd_or c4 (by unfold eo; omega)]
    exact hK lk' h' hl' hh'
  · by_cases c : h' = h ∧ k' = k
    · obtain ⟨rfl, rfl⟩ := c
      right
      rw [fd_self c4]
      rcases hE h' k' hh' hk' hne' with e | e
      · rw [e, Nat.zero_or]
      · rw [e, Nat.or_self]
    · rw [fd_or c4 (by
        unfold eo nx3
        repeat' split
        all_goals omega)]
      exact hE h' k' hh' hk' hne'
section
variable {r : Nat → Nat} {dy : List aa_Shp} {P : pl_T} {hs : List Nat}
theorem c_X5_escapes (hr5 : ∀ σ : aa_St, aa_W r dy σ → σ.2.2.1[r 5]? = some (.inl (1, 2 ^ (pl_n P + pl_b P)))) : ∀ m s h k dp (σ : aa_St), pl_mu P s ≤ m → s < 2 ^ (pl_n P + pl_b P) → h ≤ 2 → k ≤ 2 → k ≠ h → dp + pl_mu P s ≤ 40 → aa_W r dy σ → XP P hs σ.1 → KK P (σ.2.1 (r 5)) →
    ∃ σ' : aa_St, (FrL (r 5) σ σ' ∧ KK P (σ'.2.1 (r 5))) ∧ aa_SX mX5_escapes (5 + m) [.ref 46, .int (nI s), .int (nI h), .int (nI k), .int (nI dp)] σ (some (.int (nI (es P h k s).toNat))) σ' := by
  intro m
  induction m using Nat.strongRecOn with
  | ind m ih =>
    intro s h k dp σ hm hs2 hh hk hne hdp hW hX hKK
    have ok := hX.ok
    have hn := hX.n14
    have hb := hX.b2
    have p16 := pw16 (k := pl_n P + pl_b P) (by omega)
    have hs_r5 := hr5 σ hW
    have lmv := pl_mv_lt P h s
    have n2 := nx3_le hh
    have el := eo_le hh k
    -- the end: 155
    have fin : ∀ (σ1 : aa_St) y6 y10, FrL (r 5) σ σ1 → KK P (σ1.2.1 (r 5)) → aa_V mX5_escapes (5 + m) 155 [some (.ref 46), some (.int (nI s)), some (.int (nI h)), some (.int (nI k)), some (.int (nI dp)), some (.int (nI (eo h k))), some (.int y6), some (.int (nI (pl_mv P h s))), some (.int (nI (pl_n P + pl_b P))), some (.int (nI (es P h k s).toNat)), y10] [] σ1 (fun r1 σ' => r1 = some (.int (nI (es P h k s).toNat)) ∧ (FrL (r 5) σ σ' ∧ KK P (σ'.2.1 (r 5)))) := by
      intro σ1 y6 y10 hF hK1
      have hW1 := hW.of2 hF.2.1
      have hs_r5 := hr5 σ1 hW1
      obtain ⟨v, hv, hv60, hvK, hvE⟩ := hK1 s hs2
      have kw := KKs_e hh hk hne hv60 hvK hvE
      refine aa_go (aa_aload0 iX5_escapes_155) (aa_go (aa_getR iX5_escapes_156 fl_X5_12 (sh_46 hW1) rfl) (aa_go (aa_iload1 iX5_escapes_159) (aa_go (aa_aload0 iX5_escapes_160) (aa_go (aa_getR iX5_escapes_161 fl_X5_12 (sh_46 hW1) rfl) (aa_go (aa_iload1 iX5_escapes_164) (aa_go (aa_cVl iX5_escapes_165 (hv ▸ c_at47 hW1 hs_r5 (by omega) hs2) (by omega) lc_X4_at lk_X5_44 (sh_47 hW1) rfl rfl (Nat.le_of_ble_eq_true rfl)) (aa_go (aa_iload9 iX5_escapes_168) ?_)))))))
      refine aa_if_eqB iX5_escapes_170 (fun h1 => ?_) (fun h1 => ?_)
      · skip
        rw [h1] at kw ⊢
        refine aa_go (aa_lconst iX5_escapes_179 kl_1) (aa_go (aa_iload5 iX5_escapes_180) (aa_go (aa_lshlN iX5_escapes_182 (by omega)) (aa_go (aa_lorN iX5_escapes_183 ) (aa_go (aa_cVv iX5_escapes_184 (c_set47 hW1 hs_r5 (by omega) hs2 _) (by omega) lc_X4_set lk_X5_58 (sh_47 hW1) rfl rfl (Nat.le_of_ble_eq_true rfl)) (aa_go (aa_iload9 iX5_escapes_187) ?_)))))
        refine aa_zretB iX5_escapes_189 rfl ?_
        exact ⟨rfl, hF.sL s _, hK1.set kw⟩
      · skip
        rw [h1] at kw ⊢
        refine aa_go (aa_ldc2 iX5_escapes_173 ld_X5_69) (aa_go (aa_goto iX5_escapes_176) (aa_go (aa_iload5 iX5_escapes_180) (aa_go (aa_lshlN iX5_escapes_182 (by omega)) (aa_go (aa_lorN iX5_escapes_183 ) (aa_go (aa_cVv iX5_escapes_184 (c_set47 hW1 hs_r5 (by omega) hs2 _) (by omega) lc_X4_set lk_X5_58 (sh_47 hW1) rfl rfl (Nat.le_of_ble_eq_true rfl)) (aa_go (aa_iload9 iX5_escapes_187) ?_))))))
        refine aa_zretB iX5_escapes_189 rfl ?_
        exact ⟨rfl, hF.sL s _, hK1.set kw⟩
    have loop : ∀ f i (σ1 : aa_St) y6 (w : Bool), pl_n P + pl_b P - i < f → i ≤ pl_n P + pl_b P → FrL (r 5) σ σ1 → KK P (σ1.2.1 (r 5)) → w = (if pl_mv P h s = 0 then true else esA P h k s i) → aa_V mX5_escapes (5 + m) 97 [some (.ref 46), some (.int (nI s)), some (.int (nI h)), some (.int (nI k)), some (.int (nI dp)), some (.int (nI (eo h k))), some (.int y6), some (.int (nI (pl_mv P h s))), some (.int (nI (pl_n P + pl_b P))), some (.int (nI w.toNat)), some (.int (nI i))] [] σ1 (fun r1 σ' => r1 = some (.int (nI (es P h k s).toNat)) ∧ (FrL (r 5) σ σ' ∧ KK P (σ'.2.1 (r 5)))) := by
      intro f
      induction f with
      | zero => intro i σ1 y6 w g1; omega
      | succ f ihf =>
        intro i σ1 y6 w g1 g2 hF hK1 hw
        have hW1 := hW.of2 hF.2.1
        have hX1 : XP P hs σ1.1 := by rw [hF.1]; exact hX
        refine aa_go (aa_iload10 iX5_escapes_97) (aa_go (aa_iload8 iX5_escapes_99) ?_)
        refine aa_ic_geN iX5_escapes_101 (by omega) (by omega) (fun g3 => ?_) (fun g3 => ?_)
        · skip
          have e1 : i = pl_n P + pl_b P := by omega
          have e2 : w = es P h k s := by rw [hw, es_of ok, e1]
          rw [e2]
          exact fin σ1 y6 _ hF hK1
        · skip
          refine aa_go (aa_iload9 iX5_escapes_104) ?_
          refine aa_if_neB iX5_escapes_106 (fun g4 => ?_) (fun g4 => ?_)
          · skip
            have e2 : w = es P h k s := by
              rw [es_of ok]
              by_cases h0 : pl_mv P h s = 0
              · rw [if_pos h0] at hw ⊢; exact hw
              · rw [if_neg h0] at hw ⊢
                rw [hw] at g4
                rw [hw, g4, esA_mono g2 g4]
            rw [e2]
            exact fin σ1 y6 _ hF hK1
          · skip
            refine aa_go (aa_iload7 iX5_escapes_109) (aa_go (aa_iload10 iX5_escapes_111) (aa_go (aa_ishrN iX5_escapes_113 (by omega) (by omega)) (aa_go (aa_iconst iX5_escapes_114 ki_1) (aa_go (aa_ibit iX5_escapes_115) ?_))))
            refine aa_if_eqB iX5_escapes_116 (fun g5 => ?_) (fun g5 => ?_)
            · skip
              rw [mv_bit g3] at g5
              refine aa_go (aa_iincN10 (k := 1) iX5_escapes_149 rfl (by decide)) (aa_go (aa_goto iX5_escapes_152) ?_)
              refine ihf (i + 1) σ1 y6 w (by omega) (by omega) hF hK1 ?_
              rw [hw, esA_f g5]
            · skip
              rw [mv_bit g3] at g5
              have mu := pl_mu_lt ok g5
              have nlt := pl_nx_lt ok hs2 g3
              obtain ⟨σ2, ⟨hF2, hK2⟩, hS2⟩ := ih (pl_mu P (pl_nx P s i)) (by omega) (pl_nx P s i) k h (dp + 1) σ1 (Nat.le_refl _) nlt hk hh hne.symm (by omega) hW1 hX1 hK1
              have hm0 : ¬ pl_mv P h s = 0 := fun q => by
                have := mv_bit (P := P) (h := h) (s := s) g3
                rw [q, g5] at this; simp at this
              have hstep : (w || !es P k h (pl_nx P s i)) = (if pl_mv P h s = 0 then true else esA P h k s (i + 1)) := by
                rw [if_neg hm0, esA_t g5, hw, if_neg hm0]
              refine aa_go (aa_aload0 iX5_escapes_119) (aa_go (aa_aload0 iX5_escapes_120) (aa_go (aa_getR iX5_escapes_121 fl_X5_22 (sh_46 hW1) rfl) (aa_go (aa_iload1 iX5_escapes_124) (aa_go (aa_iload10 iX5_escapes_125) (aa_go (aa_cVi iX5_escapes_127 (c_X6_behind hW1 hX1 g3) (by omega) lc_X6_behind lk_X5_52 (sh_7 hW1) rfl rfl (Nat.le_of_ble_eq_true rfl)) (aa_go (aa_iload3 iX5_escapes_130) (aa_go (aa_iload2 iX5_escapes_131) ?_)))))))
              refine aa_go (aa_iload4 iX5_escapes_132) (aa_go (aa_iconst iX5_escapes_134 ki_1) (aa_go (aa_iaddN iX5_escapes_135 ) (aa_go (aa_cVi iX5_escapes_136 (hS2) (by omega) lc_X5_escapes lk_X5_65 (sh_46 hW1) rfl rfl (Nat.le_of_ble_eq_true rfl)) ?_)))
              refine aa_if_neB iX5_escapes_139 (fun g6 => ?_) (fun g6 => ?_)
              · skip
                refine aa_go (aa_iconst iX5_escapes_146 ki_0) (aa_go (aa_istore9 iX5_escapes_147 rfl (by decide)) (aa_go (aa_iincN10 (k := 1) iX5_escapes_149 rfl (by decide)) (aa_go (aa_goto iX5_escapes_152) ?_)))
                refine ihf (i + 1) σ2 y6 false (by omega) (by omega) (hF.tr hF2) hK2 ?_
                rw [← hstep, g6, g4]; rfl
              · skip
                refine aa_go (aa_iconst iX5_escapes_142 ki_1) (aa_go (aa_goto iX5_escapes_143) (aa_go (aa_istore9 iX5_escapes_147 rfl (by decide)) (aa_go (aa_iincN10 (k := 1) iX5_escapes_149 rfl (by decide)) (aa_go (aa_goto iX5_escapes_152) ?_))))
                refine ihf (i + 1) σ2 y6 true (by omega) (by omega) (hF.tr hF2) hK2 ?_
                rw [← hstep, g6]; simp
    have mid : aa_V mX5_escapes (5 + m) 20 [some (.ref 46), some (.int (nI s)), some (.int (nI h)), some (.int (nI k)), some (.int (nI dp)), none, none, none, none, none, none] [.int (nI (eo h k))] σ (fun r1 σ' => r1 = some (.int (nI (es P h k s).toNat)) ∧ (FrL (r 5) σ σ' ∧ KK P (σ'.2.1 (r 5)))) := by
      obtain ⟨v, hv, hv60, hvK, hvE⟩ := hKK s hs2
      have fl := fd_lt v (eo h k) 2
      refine aa_go (aa_istore5 iX5_escapes_20 rfl (by decide)) (aa_go (aa_aload0 iX5_escapes_22) (aa_go (aa_getR iX5_escapes_23 fl_X5_12 (sh_46 hW) rfl) (aa_go (aa_iload1 iX5_escapes_26) (aa_go (aa_cVl iX5_escapes_27 (hv ▸ c_at47 hW hs_r5 (by omega) hs2) (by omega) lc_X4_at lk_X5_44 (sh_47 hW) rfl rfl (Nat.le_of_ble_eq_true rfl)) (aa_go (aa_iload5 iX5_escapes_30) (aa_go (aa_lshrN iX5_escapes_32 (by omega) (by omega)) (aa_go (aa_l2iN iX5_escapes_33) ?_)))))))
      refine aa_go (aa_iconst iX5_escapes_34 ki_3) (aa_go (aa_iandN iX5_escapes_35 ) ?_)
      refine aa_go (aa_top (y := nI (fd v (eo h k) 2)) (by rw [and3])) ?_
      refine aa_go (aa_istore6 iX5_escapes_36 rfl (by decide)) (aa_go (aa_iload6 iX5_escapes_38) ?_)
      refine aa_if_neN iX5_escapes_40 (by omega) (fun h1 => ?_) (fun h1 => ?_)
      · skip
        have h2 := (hvE h k hh hk hne).resolve_left h1
        refine aa_go (aa_iload6 iX5_escapes_50) (aa_go (aa_iconst iX5_escapes_52 ki_2) ?_)
        refine aa_ic_neN iX5_escapes_53 (by omega) (by omega) (fun h3 => ?_) (fun h3 => ?_)
        · skip
          refine aa_go (aa_iconst iX5_escapes_60 ki_0) ?_
          refine aa_zretF iX5_escapes_61 rfl ?_
          have : es P h k s = false := by
            cases h4 : es P h k s with
            | false => rfl
            | true => rw [h4] at h2; exact absurd h2 h3
          exact ⟨by rw [this]; rfl, FrL.rf, hKK⟩
        · skip
          refine aa_go (aa_iconst iX5_escapes_56 ki_1) (aa_go (aa_goto iX5_escapes_57) ?_)
          refine aa_zretT iX5_escapes_61 rfl ?_
          have : es P h k s = true := by
            cases h4 : es P h k s with
            | true => rfl
            | false => rw [h4, h3] at h2; exact absurd h2 (by decide)
          exact ⟨by rw [this]; rfl, FrL.rf, hKK⟩
      · skip
        refine aa_go (aa_iload4 iX5_escapes_43) (aa_go (aa_bipush iX5_escapes_45 kb_40) ?_)
        refine aa_ic_leN iX5_escapes_47 (by omega) (by omega) (fun h2 => ?_) (fun h2 => ?_)
        · skip
          refine aa_go (aa_aload0 iX5_escapes_62) (aa_go (aa_getR iX5_escapes_63 fl_X5_22 (sh_46 hW) rfl) (aa_go (aa_iload1 iX5_escapes_66) (aa_go (aa_iload2 iX5_escapes_67) (aa_go (aa_cVi iX5_escapes_68 (c_X6_moves hW hX (by omega)) (by omega) lc_X6_moves lk_X5_34 (sh_7 hW) rfl rfl (Nat.le_of_ble_eq_true rfl)) (aa_go (aa_istore7 iX5_escapes_71 rfl (by decide)) (aa_go (aa_aload0 iX5_escapes_73) (aa_go (aa_getR iX5_escapes_74 fl_X5_22 (sh_46 hW) rfl) ?_)))))))
          refine aa_go (aa_cVi iX5_escapes_77 (c_X6_steps hW hX) (by omega) lc_X6_steps lk_X5_48 (sh_7 hW) rfl rfl (Nat.le_of_ble_eq_true rfl)) (aa_go (aa_istore8 iX5_escapes_80 rfl (by decide)) (aa_go (aa_iload7 iX5_escapes_82) ?_))
          refine aa_if_neN iX5_escapes_84 (by omega) (fun h4 => ?_) (fun h4 => ?_)
          · skip
            refine aa_go (aa_iconst iX5_escapes_91 ki_0) (aa_go (aa_istore9 iX5_escapes_92 rfl (by decide)) (aa_go (aa_iconst iX5_escapes_94 ki_0) (aa_go (aa_istore10 iX5_escapes_95 rfl (by decide)) ?_)))
            exact loop (pl_n P + pl_b P + 1) 0 σ _ false (by omega) (by omega) FrL.rf hKK (by rw [if_neg h4]; rfl)
          · skip
            refine aa_go (aa_iconst iX5_escapes_87 ki_1) (aa_go (aa_goto iX5_escapes_88) (aa_go (aa_istore9 iX5_escapes_92 rfl (by decide)) (aa_go (aa_iconst iX5_escapes_94 ki_0) (aa_go (aa_istore10 iX5_escapes_95 rfl (by decide)) ?_))))
            exact loop (pl_n P + pl_b P + 1) 0 σ _ true (by omega) (by omega) FrL.rf hKK (by rw [if_pos h4])
        · skip
          omega
    have key : aa_V mX5_escapes (5 + m) 0 [some (.ref 46), some (.int (nI s)), some (.int (nI h)), some (.int (nI k)), some (.int (nI dp)), none, none, none, none, none, none] [] σ (fun r1 σ' => r1 = some (.int (nI (es P h k s).toNat)) ∧ (FrL (r 5) σ σ' ∧ KK P (σ'.2.1 (r 5)))) := by
      refine aa_go (aa_bipush iX5_escapes_0 kb_48) (aa_go (aa_iconst iX5_escapes_2 ki_4) (aa_go (aa_iload2 iX5_escapes_3) (aa_go (aa_imulN iX5_escapes_4 ) (aa_go (aa_iaddN iX5_escapes_5 ) (aa_go (aa_iload3 iX5_escapes_6) (aa_go (aa_iload2 iX5_escapes_7) (aa_go (aa_cSi iX5_escapes_8 (c_X5_next hh) (by omega) lc_X5_next lk_X5_26 rfl (Nat.le_of_ble_eq_true rfl)) ?_)))))))
      refine aa_ic_neN iX5_escapes_11 (by omega) (by omega) (fun h1 => ?_) (fun h1 => ?_)
      · skip
        refine aa_go (aa_iconst iX5_escapes_18 ki_2) (aa_go (aa_iaddN iX5_escapes_19 ) ?_)
        refine aa_go (aa_top (y := nI (eo h k)) (by rw [eo, if_neg h1])) ?_
        exact mid
      · skip
        refine aa_go (aa_iconst iX5_escapes_14 ki_0) (aa_go (aa_goto iX5_escapes_15) (aa_go (aa_iaddN iX5_escapes_19 ) ?_))
        refine aa_go (aa_top (y := nI (eo h k)) (by rw [eo, if_pos h1])) ?_
        exact mid
    obtain ⟨r1, σ', ⟨rfl, h1⟩, hS9⟩ := aa_S_of (avs := [.ref 46, .int (nI s), .int (nI h), .int (nI k), .int (nI dp)]) (by decide) 6 [some (.ref 46), some (.int (nI s)), some (.int (nI h)), some (.int (nI k)), some (.int (nI dp)), none, none, none, none, none, none] rfl rfl key
    exact ⟨σ', h1, hS9⟩
end
def kwL (g : Nat) : Nat := if g = 0 then 1 else 0
def kwG (g : Nat) : Nat := if g = 2 then 1 else 2
def kwo (P : pl_T) (l q s : Nat) : Nat := if pl_mv P l s = 0 then 3 else if es P l q s then q else l
def ffk (P : pl_T) (lk h s k : Nat) : Option Nat := fst1 P (fun j => kp P lk (nx3 h) (pl_nx P s j) == kpB P lk h s) h s k
section
variable {r : Nat → Nat} {dy : List aa_Shp} {σ : aa_St} {P : pl_T} {hs : List Nat} {v lk : Nat}
theorem c_X5_keeperWithout (hW : aa_W r dy σ) (hX : XP P hs σ.1) (hv : σ.1 7 15 = nI v) (hS : S5 P v r σ) {s g : Nat} (hs2 : s < 2 ^ (pl_n P + pl_b P)) (hg : g ≤ 2) : ∃ r' dy' σ', (MX (2 ^ (pl_n P + pl_b P)) v 5 47 r dy σ r' dy' σ' ∧ R5 P v r' σ') ∧ aa_SX mX5_keeperWithout 24 [.ref 46, .int (nI s), .int (nI g)] σ (some (.int (nI (kwo P (kwL g) (kwG g) s)))) σ' := by
  have hn := hX.n14
  have hb := hX.b2
  have p16 := pw16 (k := pl_n P + pl_b P) (by omega)
  have mu := pl_mu_le hX.ok s
  obtain ⟨r1, dy1, σ1, ⟨hM1, hR1⟩, hS1⟩ := c_fit5 hW hX hv hS
  have hW1 := hM1.W
  have hX1 := hM1.XP (by decide) hX
  have hr5 : ∀ σ2 : aa_St, aa_W r1 dy1 σ2 → σ2.2.2.1[r1 5]? = some (.inl (1, 2 ^ (pl_n P + pl_b P))) := fun σ2 h2 => by rw [h2, ← hW1]; exact hR1.2.1
  have tail : ∀ l q, l ≤ 2 → q ≤ 2 → q ≠ l → aa_V mX5_keeperWithout 24 22 [some (.ref 46), some (.int (nI s)), some (.int (nI g)), some (.int (nI l)), some (.int (nI q))] [] σ (fun ra σ' => ra = some (.int (nI (kwo P l q s))) ∧ MX (2 ^ (pl_n P + pl_b P)) v 5 47 r dy σ r1 dy1 σ' ∧ R5 P v r1 σ') := by
    intro l q hl hq hne
    have lmv := pl_mv_lt P l s
    obtain ⟨σ2, ⟨hF2, hK2⟩, hS2⟩ := c_X5_escapes hr5 18 s l q 0 σ1 mu hs2 hl hq hne (by omega) hW1 hX1 hR1.2.2
    refine aa_go (aa_aload0 iX5_keeperWithout_22) (aa_go (aa_getR iX5_keeperWithout_23 fl_X5_12 (sh_46 hW) rfl) (aa_go (aa_aload0 iX5_keeperWithout_26) (aa_go (aa_getR iX5_keeperWithout_27 fl_X5_22 (sh_46 hW) rfl) (aa_go (aa_cVv iX5_keeperWithout_30 (hS1) (by decide) lc_X4_fit lk_X5_30 (sh_47 hW) rfl rfl (Nat.le_of_ble_eq_true rfl)) ?_))))
    refine aa_go (aa_aload0 iX5_keeperWithout_33) (aa_go (aa_getR iX5_keeperWithout_34 fl_X5_22 (sh_46 hW1) rfl) (aa_go (aa_iload1 iX5_keeperWithout_37) (aa_go (aa_iload3 iX5_keeperWithout_38) (aa_go (aa_cVi iX5_keeperWithout_39 (c_X6_moves hW1 hX1 (by omega)) (by decide) lc_X6_moves lk_X5_34 (sh_7 hW1) rfl rfl (Nat.le_of_ble_eq_true rfl)) ?_))))
    refine aa_if_neN iX5_keeperWithout_42 (by omega) (fun h1 => ?_) (fun h1 => ?_)
    · skip
      refine aa_go (aa_aload0 iX5_keeperWithout_47) (aa_go (aa_iload1 iX5_keeperWithout_48) (aa_go (aa_iload3 iX5_keeperWithout_49) (aa_go (aa_iload4 iX5_keeperWithout_50) (aa_go (aa_iconst iX5_keeperWithout_52 ki_0) (aa_go (aa_cVi iX5_keeperWithout_53 (hS2) (by decide) lc_X5_escapes lk_X5_65 (sh_46 hW1) rfl rfl (Nat.le_of_ble_eq_true rfl)) ?_)))))
      refine aa_if_eqB iX5_keeperWithout_56 (fun h2 => ?_) (fun h2 => ?_)
      · skip
        refine aa_go (aa_iload3 iX5_keeperWithout_64) ?_
        refine aa_iret iX5_keeperWithout_65 rfl ?_
        exact ⟨by rw [kwo, if_neg h1, h2]; rfl, hM1.tr (MX.L hW1 hF2), by rw [hF2.1]; exact hR1.1, by rw [hF2.2.1]; exact hR1.2.1, hK2⟩
      · skip
        refine aa_go (aa_iload4 iX5_keeperWithout_59) (aa_go (aa_goto iX5_keeperWithout_61) ?_)
        refine aa_iret iX5_keeperWithout_65 rfl ?_
        exact ⟨by rw [kwo, if_neg h1, h2]; rfl, hM1.tr (MX.L hW1 hF2), by rw [hF2.1]; exact hR1.1, by rw [hF2.2.1]; exact hR1.2.1, hK2⟩
    · skip
      refine aa_go (aa_iconst iX5_keeperWithout_45 ki_3) ?_
      refine aa_iret iX5_keeperWithout_46 rfl ?_
      exact ⟨by rw [kwo, if_pos h1], hM1, hR1⟩
  have key : aa_V mX5_keeperWithout 24 0 [some (.ref 46), some (.int (nI s)), some (.int (nI g)), none, none] [] σ (fun ra σ' => ra = some (.int (nI (kwo P (kwL g) (kwG g) s))) ∧ MX (2 ^ (pl_n P + pl_b P)) v 5 47 r dy σ r1 dy1 σ' ∧ R5 P v r1 σ') := by
    refine aa_go (aa_iload2 iX5_keeperWithout_0) ?_
    refine aa_if_neN iX5_keeperWithout_1 (by omega) (fun h1 => ?_) (fun h1 => ?_)
    · skip
      refine aa_go (aa_iconst iX5_keeperWithout_8 ki_0) (aa_go (aa_istore3 iX5_keeperWithout_9 rfl (by decide)) (aa_go (aa_iload2 iX5_keeperWithout_10) (aa_go (aa_iconst iX5_keeperWithout_11 ki_2) ?_)))
      refine aa_ic_neN iX5_keeperWithout_12 (by omega) (by omega) (fun h2 => ?_) (fun h2 => ?_)
      · skip
        refine aa_go (aa_iconst iX5_keeperWithout_19 ki_2) (aa_go (aa_istore4 iX5_keeperWithout_20 rfl (by decide)) ?_)
        have := tail 0 2 (by omega) (by omega) (by omega)
        rw [kwL, if_neg h1, kwG, if_neg h2]
        exact this
      · skip
        refine aa_go (aa_iconst iX5_keeperWithout_15 ki_1) (aa_go (aa_goto iX5_keeperWithout_16) (aa_go (aa_istore4 iX5_keeperWithout_20 rfl (by decide)) ?_))
        have := tail 0 1 (by omega) (by omega) (by omega)
        rw [kwL, if_neg h1, kwG, if_pos h2]
        exact this
    · skip
      refine aa_go (aa_iconst iX5_keeperWithout_4 ki_1) (aa_go (aa_goto iX5_keeperWithout_5) (aa_go (aa_istore3 iX5_keeperWithout_9 rfl (by decide)) (aa_go (aa_iload2 iX5_keeperWithout_10) (aa_go (aa_iconst iX5_keeperWithout_11 ki_2) ?_))))
      refine aa_ic_neN iX5_keeperWithout_12 (by omega) (by omega) (fun h2 => ?_) (fun h2 => ?_)
      · skip
        refine aa_go (aa_iconst iX5_keeperWithout_19 ki_2) (aa_go (aa_istore4 iX5_keeperWithout_20 rfl (by decide)) ?_)
        have := tail 1 2 (by omega) (by omega) (by omega)
        rw [kwL, if_pos h1, kwG, if_neg h2]
        exact this
      · skip
        omega
  obtain ⟨ra, σ', ⟨rfl, h1⟩, hS9⟩ := aa_S_of (avs := [.ref 46, .int (nI s), .int (nI g)]) (by decide) 2 [some (.ref 46), some (.int (nI s)), some (.int (nI g)), none, none] rfl rfl key
  exact ⟨r1, dy1, σ', h1, hS9⟩
theorem kpB_le (ok : pl_ok P) {h : Nat} (hh : h ≤ 2) (s : Nat) : kpB P lk h s ≤ 3 := by
  have := kp_2 (lk := lk) ok hh s
  unfold kpB
  split <;> omega
theorem c_X5_firstStep (hW : aa_W r dy σ) (hX : XP P hs σ.1) (hv : σ.1 7 15 = nI v) (hL : σ.1 46 2 = nI lk) (hl8 : lk < 8) (hS : S5 P v r σ) {s h : Nat} (hs2 : s < 2 ^ (pl_n P + pl_b P)) (hh : h ≤ 2) : ∃ r' dy' σ', (MX (2 ^ (pl_n P + pl_b P)) v 5 47 r dy σ r' dy' σ' ∧ R5 P v r' σ') ∧ aa_SX mX5_firstStep 25 [.ref 46, .int (nI s), .int (nI h)] σ (some (.int (oI (ffk P lk h s (pl_n P + pl_b P))))) σ' := by
  have ok := hX.ok
  have hn := hX.n14
  have hb := hX.b2
  have p16 := pw16 (k := pl_n P + pl_b P) (by omega)
  have lmv := pl_mv_lt P h s
  have n2 := nx3_le hh
  have kb := kpB_le (lk := lk) ok hh s
  obtain ⟨r1, dy1, σ1, ⟨hM1, hR1⟩, hS1⟩ := c_X5_keeper hW hX hv hL hl8 hS hs2 hh
  have hW1 := hM1.W
  have hX1 := hM1.XP (by decide) hX
  have hL1 : σ1.1 46 2 = nI lk := by rw [hM1.I (by decide) (by decide)]; exact hL
  have hr5 : ∀ σ2 : aa_St, aa_W r1 dy1 σ2 → σ2.2.2.1[r1 5]? = some (.inl (1, 2 ^ (pl_n P + pl_b P))) := fun σ2 h2 => by rw [h2, ← hW1]; exact hR1.2.1
  have loop : ∀ f k (σ2 : aa_St), pl_n P + pl_b P - k < f → k ≤ pl_n P + pl_b P → FrL (r1 5) σ1 σ2 → KK P (σ2.2.1 (r1 5)) → ffk P lk h s k = none → aa_V mX5_firstStep 25 21 [some (.ref 46), some (.int (nI s)), some (.int (nI h)), some (.int (nI (kpB P lk h s))), some (.int (nI (pl_mv P h s))), some (.int (nI k))] [] σ2 (fun ra σ' => ra = some (.int (oI (ffk P lk h s (pl_n P + pl_b P)))) ∧ FrL (r1 5) σ1 σ' ∧ KK P (σ'.2.1 (r1 5))) := by
    intro f
    induction f with
    | zero => intro k σ2 g1; omega
    | succ f ih =>
      intro k σ2 g1 g2 hF hK hf
      have hW2 := hW1.of2 hF.2.1
      have hX2 : XP P hs σ2.1 := by rw [hF.1]; exact hX1
      have hL2 : σ2.1 46 2 = nI lk := by rw [hF.1]; exact hL1
      refine aa_go (aa_iload5 iX5_firstStep_21) (aa_go (aa_aload0 iX5_firstStep_23) (aa_go (aa_getR iX5_firstStep_24 fl_X5_22 (sh_46 hW2) rfl) (aa_go (aa_cVi iX5_firstStep_27 (c_X6_steps hW2 hX2) (by decide) lc_X6_steps lk_X5_48 (sh_7 hW2) rfl rfl (Nat.le_of_ble_eq_true rfl)) ?_)))
      refine aa_ic_geN iX5_firstStep_30 (by omega) (by omega) (fun g3 => ?_) (fun g3 => ?_)
      · skip
        have e1 : k = pl_n P + pl_b P := by omega
        subst e1
        refine aa_go (aa_iconst iX5_firstStep_75 ki_m1) ?_
        refine aa_iret iX5_firstStep_76 rfl ?_
        exact ⟨by rw [hf]; rfl, hF, hK⟩
      · skip
        refine aa_go (aa_iload4 iX5_firstStep_33) (aa_go (aa_iload5 iX5_firstStep_35) (aa_go (aa_ishrN iX5_firstStep_37 (by omega) (by omega)) (aa_go (aa_iconst iX5_firstStep_38 ki_1) (aa_go (aa_ibit iX5_firstStep_39) ?_))))
        refine aa_if_eqB iX5_firstStep_40 (fun g4 => ?_) (fun g4 => ?_)
        · skip
          rw [mv_bit g3] at g4
          refine aa_go (aa_iincN5 (k := 1) iX5_firstStep_69 rfl (by decide)) (aa_go (aa_goto iX5_firstStep_72) ?_)
          exact ih (k + 1) σ2 (by omega) (by omega) hF hK (by rw [ffk, fst1_f g4]; exact hf)
        · skip
          rw [mv_bit g3] at g4
          have nlt := pl_nx_lt ok hs2 g3
          have mu := pl_mu_le ok (pl_nx P s k)
          have q2 := kp_2 (lk := lk) ok n2 (pl_nx P s k)
          obtain ⟨σ3, ⟨hF3, hK3⟩, hS3⟩ := c_X5_keeperFrom hr5 hl8 18 (pl_nx P s k) (nx3 h) 0 σ2 mu nlt n2 (by omega) hW2 hX2 hL2 hK
          have e9 := fst1_t (p := fun j => kp P lk (nx3 h) (pl_nx P s j) == kpB P lk h s) g4 hf
          refine aa_go (aa_aload0 iX5_firstStep_43) (aa_go (aa_aload0 iX5_firstStep_44) (aa_go (aa_getR iX5_firstStep_45 fl_X5_22 (sh_46 hW2) rfl) (aa_go (aa_iload1 iX5_firstStep_48) (aa_go (aa_iload5 iX5_firstStep_49) (aa_go (aa_cVi iX5_firstStep_51 (c_X6_behind hW2 hX2 g3) (by decide) lc_X6_behind lk_X5_52 (sh_7 hW2) rfl rfl (Nat.le_of_ble_eq_true rfl)) (aa_go (aa_iload2 iX5_firstStep_54) (aa_go (aa_cSi iX5_firstStep_55 (c_X5_next hh) (by decide) lc_X5_next lk_X5_26 rfl (Nat.le_of_ble_eq_true rfl)) ?_)))))))
          refine aa_go (aa_iconst iX5_firstStep_58 ki_0) (aa_go (aa_cVi iX5_firstStep_59 (hS3) (by decide) lc_X5_keeperFrom lk_X5_40 (sh_46 hW2) rfl rfl (Nat.le_of_ble_eq_true rfl)) (aa_go (aa_iload3 iX5_firstStep_62) ?_))
          refine aa_ic_neN iX5_firstStep_63 (by omega) (by omega) (fun g5 => ?_) (fun g5 => ?_)
          · skip
            refine aa_go (aa_iincN5 (k := 1) iX5_firstStep_69 rfl (by decide)) (aa_go (aa_goto iX5_firstStep_72) ?_)
            exact ih (k + 1) σ3 (by omega) (by omega) (hF.tr hF3) hK3 (by rw [ffk, e9, if_neg (by rw [beq_iff_eq]; exact g5)])
          · skip
            refine aa_go (aa_iload5 iX5_firstStep_66) ?_
            refine aa_iret iX5_firstStep_68 rfl ?_
            refine ⟨?_, hF.tr hF3, hK3⟩
            rw [ffk, fst1_done (by omega : k + 1 ≤ pl_n P + pl_b P) (by rw [e9, if_pos (by rw [beq_iff_eq]; exact g5)])]
            rfl
  have key : aa_V mX5_firstStep 25 0 [some (.ref 46), some (.int (nI s)), some (.int (nI h)), none, none, none] [] σ (fun ra σ' => ra = some (.int (oI (ffk P lk h s (pl_n P + pl_b P)))) ∧ FrL (r1 5) σ1 σ' ∧ KK P (σ'.2.1 (r1 5))) := by
    refine aa_go (aa_aload0 iX5_firstStep_0) (aa_go (aa_iload1 iX5_firstStep_1) (aa_go (aa_iload2 iX5_firstStep_2) (aa_go (aa_cVi iX5_firstStep_3 (hS1) (by decide) lc_X5_keeper lk_X5_62 (sh_46 hW) rfl rfl (Nat.le_of_ble_eq_true rfl)) ?_)))
    refine aa_go (aa_istore3 iX5_firstStep_6 rfl (by decide)) (aa_go (aa_aload0 iX5_firstStep_7) (aa_go (aa_getR iX5_firstStep_8 fl_X5_22 (sh_46 hW1) rfl) (aa_go (aa_iload1 iX5_firstStep_11) (aa_go (aa_iload2 iX5_firstStep_12) (aa_go (aa_cVi iX5_firstStep_13 (c_X6_moves hW1 hX1 (by omega)) (by decide) lc_X6_moves lk_X5_34 (sh_7 hW1) rfl rfl (Nat.le_of_ble_eq_true rfl)) (aa_go (aa_istore4 iX5_firstStep_16 rfl (by decide)) (aa_go (aa_iconst iX5_firstStep_18 ki_0) ?_)))))))
    refine aa_go (aa_istore5 iX5_firstStep_19 rfl (by decide)) ?_
    exact loop (pl_n P + pl_b P + 1) 0 σ1 (by omega) (by omega) FrL.rf hR1.2.2 rfl
  obtain ⟨ra, σ', ⟨rfl, hF, hK⟩, hS9⟩ := aa_S_of (avs := [.ref 46, .int (nI s), .int (nI h)]) (by decide) 3 [some (.ref 46), some (.int (nI s)), some (.int (nI h)), none, none, none] rfl rfl key
  exact ⟨r1, dy1, σ', ⟨hM1.tr (MX.L hW1 hF), by rw [hF.1]; exact hR1.1, by rw [hF.2.1]; exact hR1.2.1, hK⟩, hS9⟩
end
