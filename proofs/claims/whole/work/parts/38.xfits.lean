/-! HEAPS COMPARED -/
def blk (h k : Nat) : List Nat := (List.range k).filter (fun i => h.testBit i)
theorem blk_t {h k : Nat} (e : h.testBit k = true) : blk h (k + 1) = blk h k ++ [k] := by rw [blk, List.range_succ, List.filter_append, blk]; simp [e]
theorem blk_f {h k : Nat} (e : h.testBit k = false) : blk h (k + 1) = blk h k := by rw [blk, List.range_succ, List.filter_append, blk]; simp [e]
theorem blk_len (h : Nat) : ∀ k, (blk h k).length = pl_cn h k
  | 0 => rfl
  | k + 1 => by
    have := blk_len h k
    rw [pl_cn]
    cases e : h.testBit k with
    | true => rw [blk_t e, List.length_append, this]; rfl
    | false => rw [blk_f e, this]; rfl
section
variable {r : Nat → Nat} {dy : List aa_Shp} {σ : aa_St} {P : pl_T} {hs : List Nat}
theorem c_X3_list33 (hW : aa_W r dy σ) {h : Nat} (hh : h < 2147483648) : ∃ σ' : aa_St, (FrI 33 σ σ' ∧ ∀ p x, p < 6 → (blk h 14)[p]? = some x → σ'.1 33 p = nI x) ∧ aa_SX mX3_list 1 [.int (nI h), .ref 33] σ (some (.int (nI (blk h 14).length))) σ' := by
  have loop : ∀ f k (σ1 : aa_St), 14 - k < f → k ≤ 14 → FrI 33 σ σ1 → (∀ p x, p < 6 → (blk h k)[p]? = some x → σ1.1 33 p = nI x) → aa_V mX3_list 1 4 [some (.int (nI h)), some (.ref 33), some (.int (nI (blk h k).length)), some (.int (nI k))] [] σ1 (fun ra σ' => ra = some (.int (nI (blk h 14).length)) ∧ (FrI 33 σ σ' ∧ ∀ p x, p < 6 → (blk h 14)[p]? = some x → σ'.1 33 p = nI x)) := by
    intro f
    induction f with
    | zero => intro k σ1 g1; omega
    | succ f ih =>
      intro k σ1 g1 g2 hF hz
      have hW1 := hW.of2 (by rw [hF.1] : σ1.2.2 = σ.2.2)
      have cl := cn_le h k
      rw [← blk_len] at cl
      refine aa_go (aa_iload3 iX3_list_4) (aa_go (aa_bipush iX3_list_5 kb_14) ?_)
      refine aa_ic_geN iX3_list_7 (by omega) (by omega) (fun g3 => ?_) (fun g3 => ?_)
      · skip
        have e : k = 14 := by omega
        subst e
        refine aa_go (aa_iload2 iX3_list_37) ?_
        refine aa_iret iX3_list_38 rfl ?_
        exact ⟨rfl, hF, hz⟩
      · skip
        refine aa_go (aa_iload0 iX3_list_10) (aa_go (aa_iload3 iX3_list_11) (aa_go (aa_ishrN iX3_list_12 (by omega) (by omega)) (aa_go (aa_iconst iX3_list_13 ki_1) (aa_go (aa_ibit iX3_list_14) ?_))))
        refine aa_if_eqB iX3_list_15 (fun g4 => ?_) (fun g4 => ?_)
        · skip
          refine aa_go (aa_iincN3 (k := 1) iX3_list_31 rfl (by decide)) (aa_go (aa_goto iX3_list_34) ?_)
          have := ih (k + 1) σ1 (by omega) (by omega) hF (by rw [blk_f g4]; exact hz)
          rw [blk_f g4] at this
          exact this
        · skip
          have e9 : (blk h (k + 1)).length = (blk h k).length + 1 := by rw [blk_t g4, List.length_append]; rfl
          refine aa_go (aa_iload2 iX3_list_18) (aa_go (aa_aload1 iX3_list_19) (aa_go (aa_alen iX3_list_20 (sh_33 hW1) (by decide)) ?_))
          refine aa_ic_geN iX3_list_21 (by omega) (by omega) (fun g5 => ?_) (fun g5 => ?_)
          · skip
            refine aa_go (aa_iincN2 (k := 1) iX3_list_28 rfl (by decide)) (aa_go (aa_iincN3 (k := 1) iX3_list_31 rfl (by decide)) (aa_go (aa_goto iX3_list_34) ?_))
            have := ih (k + 1) σ1 (by omega) (by omega) hF (fun p x h1 h2 => by
              rw [blk_t g4, List.getElem?_append_left (by omega)] at h2
              exact hz p x h1 h2)
            rw [e9] at this
            exact this
          · skip
            refine aa_go (aa_aload1 iX3_list_24) (aa_go (aa_iload2 iX3_list_25) (aa_go (aa_iload3 iX3_list_26) (aa_go (aa_iasN iX3_list_27 (sh_33 hW1) (by omega) (by omega)) (aa_go (aa_iincN2 (k := 1) iX3_list_28 rfl (by decide)) (aa_go (aa_iincN3 (k := 1) iX3_list_31 rfl (by decide)) (aa_go (aa_goto iX3_list_34) ?_))))))
            have := ih (k + 1) (aa_sI σ1 33 (blk h k).length (nI k)) (by omega) (by omega) (hF.s _ _) (fun p x h1 h2 => by
              rw [sI_at]
              by_cases c : p = (blk h k).length
              · rw [if_pos c]
                rw [blk_t g4, c, List.getElem?_append_right (Nat.le_refl _), Nat.sub_self] at h2
                simp at h2; rw [h2]
              · rw [if_neg c]
                have h3 : p < (blk h k).length := by
                  have := (List.getElem?_eq_some_iff.mp h2).1
                  omega
                rw [blk_t g4, List.getElem?_append_left h3] at h2
                exact hz p x h1 h2)
            rw [e9] at this
            exact this
  have key : aa_V mX3_list 1 0 [some (.int (nI h)), some (.ref 33), none, none] [] σ (fun ra σ' => ra = some (.int (nI (blk h 14).length)) ∧ (FrI 33 σ σ' ∧ ∀ p x, p < 6 → (blk h 14)[p]? = some x → σ'.1 33 p = nI x)) := by
    refine aa_go (aa_iconst iX3_list_0 ki_0) (aa_go (aa_istore2 iX3_list_1 rfl (by decide)) (aa_go (aa_iconst iX3_list_2 ki_0) (aa_go (aa_istore3 iX3_list_3 rfl (by decide)) ?_)))
    exact loop 15 0 σ (by omega) (by omega) FrI.rf (fun p x _ h2 => by simp [blk] at h2)
  obtain ⟨ra, σ', ⟨rfl, h1⟩, hS9⟩ := aa_S_of (avs := [.int (nI h), .ref 33]) (by decide) 2 [some (.int (nI h)), some (.ref 33), none, none] rfl rfl key
  exact ⟨σ', h1, hS9⟩
theorem c_X3_list34 (hW : aa_W r dy σ) {h : Nat} (hh : h < 2147483648) : ∃ σ' : aa_St, (FrI 34 σ σ' ∧ ∀ p x, p < 6 → (blk h 14)[p]? = some x → σ'.1 34 p = nI x) ∧ aa_SX mX3_list 1 [.int (nI h), .ref 34] σ (some (.int (nI (blk h 14).length))) σ' := by
  have loop : ∀ f k (σ1 : aa_St), 14 - k < f → k ≤ 14 → FrI 34 σ σ1 → (∀ p x, p < 6 → (blk h k)[p]? = some x → σ1.1 34 p = nI x) → aa_V mX3_list 1 4 [some (.int (nI h)), some (.ref 34), some (.int (nI (blk h k).length)), some (.int (nI k))] [] σ1 (fun ra σ' => ra = some (.int (nI (blk h 14).length)) ∧ (FrI 34 σ σ' ∧ ∀ p x, p < 6 → (blk h 14)[p]? = some x → σ'.1 34 p = nI x)) := by
    intro f
    induction f with
    | zero => intro k σ1 g1; omega
    | succ f ih =>
      intro k σ1 g1 g2 hF hz
      have hW1 := hW.of2 (by rw [hF.1] : σ1.2.2 = σ.2.2)
      have cl := cn_le h k
      rw [← blk_len] at cl
      refine aa_go (aa_iload3 iX3_list_4) (aa_go (aa_bipush iX3_list_5 kb_14) ?_)
      refine aa_ic_geN iX3_list_7 (by omega) (by omega) (fun g3 => ?_) (fun g3 => ?_)
      · skip
        have e : k = 14 := by omega
        subst e
        refine aa_go (aa_iload2 iX3_list_37) ?_
        refine aa_iret iX3_list_38 rfl ?_
        exact ⟨rfl, hF, hz⟩
      · skip
        refine aa_go (aa_iload0 iX3_list_10) (aa_go (aa_iload3 iX3_list_11) (aa_go (aa_ishrN iX3_list_12 (by omega) (by omega)) (aa_go (aa_iconst iX3_list_13 ki_1) (aa_go (aa_ibit iX3_list_14) ?_))))
        refine aa_if_eqB iX3_list_15 (fun g4 => ?_) (fun g4 => ?_)
        · skip
          refine aa_go (aa_iincN3 (k := 1) iX3_list_31 rfl (by decide)) (aa_go (aa_goto iX3_list_34) ?_)
          have := ih (k + 1) σ1 (by omega) (by omega) hF (by rw [blk_f g4]; exact hz)
          rw [blk_f g4] at this
          exact this
        · skip
          have e9 : (blk h (k + 1)).length = (blk h k).length + 1 := by rw [blk_t g4, List.length_append]; rfl
          refine aa_go (aa_iload2 iX3_list_18) (aa_go (aa_aload1 iX3_list_19) (aa_go (aa_alen iX3_list_20 (sh_34 hW1) (by decide)) ?_))
          refine aa_ic_geN iX3_list_21 (by omega) (by omega) (fun g5 => ?_) (fun g5 => ?_)
          · skip
            refine aa_go (aa_iincN2 (k := 1) iX3_list_28 rfl (by decide)) (aa_go (aa_iincN3 (k := 1) iX3_list_31 rfl (by decide)) (aa_go (aa_goto iX3_list_34) ?_))
            have := ih (k + 1) σ1 (by omega) (by omega) hF (fun p x h1 h2 => by
              rw [blk_t g4, List.getElem?_append_left (by omega)] at h2
              exact hz p x h1 h2)
            rw [e9] at this
            exact this
          · skip
            refine aa_go (aa_aload1 iX3_list_24) (aa_go (aa_iload2 iX3_list_25) (aa_go (aa_iload3 iX3_list_26) (aa_go (aa_iasN iX3_list_27 (sh_34 hW1) (by omega) (by omega)) (aa_go (aa_iincN2 (k := 1) iX3_list_28 rfl (by decide)) (aa_go (aa_iincN3 (k := 1) iX3_list_31 rfl (by decide)) (aa_go (aa_goto iX3_list_34) ?_))))))
            have := ih (k + 1) (aa_sI σ1 34 (blk h k).length (nI k)) (by omega) (by omega) (hF.s _ _) (fun p x h1 h2 => by
              rw [sI_at]
              by_cases c : p = (blk h k).length
              · rw [if_pos c]
                rw [blk_t g4, c, List.getElem?_append_right (Nat.le_refl _), Nat.sub_self] at h2
                simp at h2; rw [h2]
              · rw [if_neg c]
                have h3 : p < (blk h k).length := by
                  have := (List.getElem?_eq_some_iff.mp h2).1
                  omega
                rw [blk_t g4, List.getElem?_append_left h3] at h2
                exact hz p x h1 h2)
            rw [e9] at this
            exact this
  have key : aa_V mX3_list 1 0 [some (.int (nI h)), some (.ref 34), none, none] [] σ (fun ra σ' => ra = some (.int (nI (blk h 14).length)) ∧ (FrI 34 σ σ' ∧ ∀ p x, p < 6 → (blk h 14)[p]? = some x → σ'.1 34 p = nI x)) := by
    refine aa_go (aa_iconst iX3_list_0 ki_0) (aa_go (aa_istore2 iX3_list_1 rfl (by decide)) (aa_go (aa_iconst iX3_list_2 ki_0) (aa_go (aa_istore3 iX3_list_3 rfl (by decide)) ?_)))
    exact loop 15 0 σ (by omega) (by omega) FrI.rf (fun p x _ h2 => by simp [blk] at h2)
  obtain ⟨ra, σ', ⟨rfl, h1⟩, hS9⟩ := aa_S_of (avs := [.int (nI h), .ref 34]) (by decide) 2 [some (.int (nI h)), some (.ref 34), none, none] rfl rfl key
  exact ⟨σ', h1, hS9⟩
/-- whether x lies to the partners as the left one at k to those ahead of it -/
def fitB (P : pl_T) (lf ρ : Nat → Nat) (k x : Nat) : Bool := (List.range k).all (fun j => ((pl_u P (lf k)).testBit (lf j) == (pl_u P x).testBit (ρ j)) && ((pl_u P (lf j)).testBit (lf k) == (pl_u P (ρ j)).testBit x))
def prB (P : pl_T) (lf rf : Nat → Nat) (many : Nat) : Nat → Nat → Nat → (Nat → Nat) → Bool
  | 0, _, _, _ => true
  | d + 1, k, used, ρ => (List.range many).any (fun p => !used.testBit p && (fitB P lf ρ k (rf p) && prB P lf rf many d (k + 1) (used ||| 2 ^ p) (nup ρ k (rf p))))
theorem c_X3_fits (hW : aa_W r dy σ) (hX : XP P hs σ.1) {lf ρ : Nat → Nat} {k x : Nat} (hk : k < 6) (hl : ∀ j, j ≤ k → σ.1 33 j = nI (lf j) ∧ lf j < pl_n P) (hρ : ∀ j, j < k → σ.1 35 j = nI (ρ j) ∧ ρ j < pl_n P) (hx : x < pl_n P) : aa_SX mX3_fits 3 [.ref 29, .int (nI k), .int (nI x)] σ (some (.int (nI (fitB P lf ρ k x).toNat))) σ := by
  have hn := hX.n14
  have ok := hX.ok
  have ub : ∀ i, i < pl_n P → pl_u P i < 16384 := fun i hi => Nat.lt_of_lt_of_le (ok.2.2.1 i hi).2.2.2 (pw14 (by omega))
  have loop : ∀ f j y4 y5, k - j < f → j ≤ k → fitB P lf ρ k x = (List.range' j (k - j)).all (fun j => ((pl_u P (lf k)).testBit (lf j) == (pl_u P x).testBit (ρ j)) && ((pl_u P (lf j)).testBit (lf k) == (pl_u P (ρ j)).testBit x)) → aa_V mX3_fits 3 2 [some (.ref 29), some (.int (nI k)), some (.int (nI x)), some (.int (nI j)), y4, y5] [] σ (fun ra σ' => ra = some (.int (nI (fitB P lf ρ k x).toNat)) ∧ σ' = σ) := by
    intro f
    induction f with
    | zero => intro j y4 y5 g1; omega
    | succ f ih =>
      intro j y4 y5 g1 g2 hf
      have lk := (hl k (Nat.le_refl _)).2
      refine aa_go (aa_iload3 iX3_fits_2) (aa_go (aa_iload1 iX3_fits_3) ?_)
      refine aa_ic_geN iX3_fits_4 (by omega) (by omega) (fun g3 => ?_) (fun g3 => ?_)
      · skip
        rw [show k - j = 0 by omega] at hf
        rw [hf]
        refine aa_go (aa_iconst iX3_fits_123 ki_1) ?_
        refine aa_zretT iX3_fits_124 rfl ?_
        exact ⟨rfl, rfl⟩
      · skip
        rw [show k - j = (k - (j + 1)) + 1 by omega, List.range'_succ, List.all_cons] at hf
        have lj := (hl j (by omega)).2
        have rj := (hρ j g3).2
        have u1 := ub _ lk
        have u2 := ub _ lj
        have u3 := ub _ rj
        have u4 := ub _ hx
        have fin : ∀ b1 b2 : Bool, b1 = ((pl_u P (lf k)).testBit (lf j) == (pl_u P x).testBit (ρ j)) → b2 = ((pl_u P (lf j)).testBit (lf k) == (pl_u P (ρ j)).testBit x) → aa_V mX3_fits 3 105 [some (.ref 29), some (.int (nI k)), some (.int (nI x)), some (.int (nI j)), some (.int (nI b1.toNat)), some (.int (nI b2.toNat))] [] σ (fun ra σ' => ra = some (.int (nI (fitB P lf ρ k x).toNat)) ∧ σ' = σ) := by
          intro b1 b2 e1 e2
          rw [← e1, ← e2] at hf
          refine aa_go (aa_iload4 iX3_fits_105) ?_
          refine aa_if_eqB iX3_fits_107 (fun h1 => ?_) (fun h1 => ?_)
          · skip
            rw [h1] at hf
            refine aa_go (aa_iconst iX3_fits_115 ki_0) ?_
            refine aa_zretF iX3_fits_116 rfl ?_
            exact ⟨by rw [hf]; rfl, rfl⟩
          · skip
            refine aa_go (aa_iload5 iX3_fits_110) ?_
            refine aa_if_neB iX3_fits_112 (fun h2 => ?_) (fun h2 => ?_)
            · skip
              rw [h1, h2, Bool.true_and, Bool.true_and] at hf
              refine aa_go (aa_iincN3 (k := 1) iX3_fits_117 rfl (by decide)) (aa_go (aa_goto iX3_fits_120) ?_)
              exact ih (j + 1) _ _ (by omega) (by omega) hf
            · skip
              rw [h1, h2] at hf
              refine aa_go (aa_iconst iX3_fits_115 ki_0) ?_
              refine aa_zretF iX3_fits_116 rfl ?_
              exact ⟨by rw [hf]; rfl, rfl⟩
        have mid : ∀ b1 : Bool, b1 = ((pl_u P (lf k)).testBit (lf j) == (pl_u P x).testBit (ρ j)) → aa_V mX3_fits 3 56 [some (.ref 29), some (.int (nI k)), some (.int (nI x)), some (.int (nI j)), some (.int (nI b1.toNat)), y5] [] σ (fun ra σ' => ra = some (.int (nI (fitB P lf ρ k x).toNat)) ∧ σ' = σ) := by
          intro b1 e1
          have t1 : ((pl_u P (lf j)).testBit (lf k)).toNat ≤ 1 := Bool.toNat_le _
          have t2 : ((pl_u P (ρ j)).testBit x).toNat ≤ 1 := Bool.toNat_le _
          refine aa_go (aa_aload0 iX3_fits_56) (aa_go (aa_getR iX3_fits_57 fl_X3_31 (sh_29 hW) rfl) (aa_go (aa_aload0 iX3_fits_60) (aa_go (aa_getR iX3_fits_61 fl_X3_22 (sh_29 hW) rfl) (aa_go (aa_iload3 iX3_fits_64) (aa_go (aa_ialE iX3_fits_65 (sh_33 hW) (by omega) (by omega) ((hl j (by omega)).1)) (aa_go (aa_cVi iX3_fits_66 (if_pos lj ▸ c_X6_under hW hX (k := lf j) (by omega)) (by decide) lc_X6_under lk_X3_76 (sh_7 hW) rfl rfl (Nat.le_of_ble_eq_true rfl)) (aa_go (aa_aload0 iX3_fits_69) ?_)))))))
          refine aa_go (aa_getR iX3_fits_70 fl_X3_22 (sh_29 hW) rfl) (aa_go (aa_iload1 iX3_fits_73) (aa_go (aa_ialE iX3_fits_74 (sh_33 hW) (by omega) (by omega) ((hl k (Nat.le_refl _)).1)) (aa_go (aa_ishrN iX3_fits_75 (by omega) (by omega)) (aa_go (aa_iconst iX3_fits_76 ki_1) (aa_go (aa_ibit iX3_fits_77) (aa_go (aa_aload0 iX3_fits_78) (aa_go (aa_getR iX3_fits_79 fl_X3_31 (sh_29 hW) rfl) ?_)))))))
          refine aa_go (aa_aload0 iX3_fits_82) (aa_go (aa_getR iX3_fits_83 fl_X3_28 (sh_29 hW) rfl) (aa_go (aa_iload3 iX3_fits_86) (aa_go (aa_ialE iX3_fits_87 (sh_35 hW) (by omega) (by omega) ((hρ j g3).1)) (aa_go (aa_cVi iX3_fits_88 (if_pos rj ▸ c_X6_under hW hX (k := ρ j) (by omega)) (by decide) lc_X6_under lk_X3_76 (sh_7 hW) rfl rfl (Nat.le_of_ble_eq_true rfl)) (aa_go (aa_iload2 iX3_fits_91) (aa_go (aa_ishrN iX3_fits_92 (by omega) (by omega)) (aa_go (aa_iconst iX3_fits_93 ki_1) ?_)))))))
          refine aa_go (aa_ibit iX3_fits_94) ?_
          refine aa_ic_neN iX3_fits_95 (by omega) (by omega) (fun h1 => ?_) (fun h1 => ?_)
          · skip
            refine aa_go (aa_iconst iX3_fits_102 ki_0) (aa_go (aa_istore5 iX3_fits_103 rfl (by decide)) ?_)
            refine fin b1 false e1 ?_
            cases q1 : (pl_u P (lf j)).testBit (lf k) <;> cases q2 : (pl_u P (ρ j)).testBit x <;> rw [q1, q2] at h1 <;> first | rfl | exact absurd rfl h1
          · skip
            refine aa_go (aa_iconst iX3_fits_98 ki_1) (aa_go (aa_goto iX3_fits_99) (aa_go (aa_istore5 iX3_fits_103 rfl (by decide)) ?_))
            refine fin b1 true e1 ?_
            cases q1 : (pl_u P (lf j)).testBit (lf k) <;> cases q2 : (pl_u P (ρ j)).testBit x <;> rw [q1, q2] at h1 <;> first | rfl | exact absurd h1 (by decide)
        have t1 : ((pl_u P (lf k)).testBit (lf j)).toNat ≤ 1 := Bool.toNat_le _
        have t2 : ((pl_u P x).testBit (ρ j)).toNat ≤ 1 := Bool.toNat_le _
        refine aa_go (aa_aload0 iX3_fits_7) (aa_go (aa_getR iX3_fits_8 fl_X3_31 (sh_29 hW) rfl) (aa_go (aa_aload0 iX3_fits_11) (aa_go (aa_getR iX3_fits_12 fl_X3_22 (sh_29 hW) rfl) (aa_go (aa_iload1 iX3_fits_15) (aa_go (aa_ialE iX3_fits_16 (sh_33 hW) (by omega) (by omega) ((hl k (Nat.le_refl _)).1)) (aa_go (aa_cVi iX3_fits_17 (if_pos lk ▸ c_X6_under hW hX (k := lf k) (by omega)) (by decide) lc_X6_under lk_X3_76 (sh_7 hW) rfl rfl (Nat.le_of_ble_eq_true rfl)) (aa_go (aa_aload0 iX3_fits_20) ?_)))))))
        refine aa_go (aa_getR iX3_fits_21 fl_X3_22 (sh_29 hW) rfl) (aa_go (aa_iload3 iX3_fits_24) (aa_go (aa_ialE iX3_fits_25 (sh_33 hW) (by omega) (by omega) ((hl j (by omega)).1)) (aa_go (aa_ishrN iX3_fits_26 (by omega) (by omega)) (aa_go (aa_iconst iX3_fits_27 ki_1) (aa_go (aa_ibit iX3_fits_28) (aa_go (aa_aload0 iX3_fits_29) (aa_go (aa_getR iX3_fits_30 fl_X3_31 (sh_29 hW) rfl) ?_)))))))
        refine aa_go (aa_iload2 iX3_fits_33) (aa_go (aa_cVi iX3_fits_34 (if_pos hx ▸ c_X6_under hW hX (k := x) (by omega)) (by decide) lc_X6_under lk_X3_76 (sh_7 hW) rfl rfl (Nat.le_of_ble_eq_true rfl)) (aa_go (aa_aload0 iX3_fits_37) (aa_go (aa_getR iX3_fits_38 fl_X3_28 (sh_29 hW) rfl) (aa_go (aa_iload3 iX3_fits_41) (aa_go (aa_ialE iX3_fits_42 (sh_35 hW) (by omega) (by omega) ((hρ j g3).1)) (aa_go (aa_ishrN iX3_fits_43 (by omega) (by omega)) (aa_go (aa_iconst iX3_fits_44 ki_1) ?_)))))))
        refine aa_go (aa_ibit iX3_fits_45) ?_
        refine aa_ic_neN iX3_fits_46 (by omega) (by omega) (fun h1 => ?_) (fun h1 => ?_)
        · skip
          refine aa_go (aa_iconst iX3_fits_53 ki_0) (aa_go (aa_istore4 iX3_fits_54 rfl (by decide)) ?_)
          refine mid false ?_
          cases q1 : (pl_u P (lf k)).testBit (lf j) <;> cases q2 : (pl_u P x).testBit (ρ j) <;> rw [q1, q2] at h1 <;> first | rfl | exact absurd rfl h1
        · skip
          refine aa_go (aa_iconst iX3_fits_49 ki_1) (aa_go (aa_goto iX3_fits_50) (aa_go (aa_istore4 iX3_fits_54 rfl (by decide)) ?_))
          refine mid true ?_
          cases q1 : (pl_u P (lf k)).testBit (lf j) <;> cases q2 : (pl_u P x).testBit (ρ j) <;> rw [q1, q2] at h1 <;> first | rfl | exact absurd h1 (by decide)
  have key : aa_V mX3_fits 3 0 [some (.ref 29), some (.int (nI k)), some (.int (nI x)), none, none, none] [] σ (fun ra σ' => ra = some (.int (nI (fitB P lf ρ k x).toNat)) ∧ σ' = σ) := by
    refine aa_go (aa_iconst iX3_fits_0 ki_0) (aa_go (aa_istore3 iX3_fits_1 rfl (by decide)) ?_)
    exact loop (k + 1) 0 _ _ (by omega) (by omega) (by rw [fitB, List.range_eq_range']; rfl)
  obtain ⟨ra, σ', ⟨rfl, rfl⟩, hS9⟩ := aa_S_of (avs := [.ref 29, .int (nI k), .int (nI x)]) (by decide) 3 [some (.ref 29), some (.int (nI k)), some (.int (nI x)), none, none, none] rfl rfl key
  exact hS9
end
