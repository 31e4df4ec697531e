/-! CHANGES: who wins with what was laid -/
def KZs (P : pl_T) (T e R p x y : Nat) (w : Int32) : Prop := ∃ v, w = nI v ∧ v >>> 4 ≤ R ∧ (v >>> 4 = R → ∀ h, h ≤ 1 → fd v (2 * h) 2 = 0 ∨ fd v (2 * h) 2 = if cc1 P T e h p x y then 2 else 1)
def KZ (P : pl_T) (T e R : Nat) (f : Nat → Int32) : Prop := ∀ p x y, p < 256 → x ≤ 9 → y ≤ 9 → KZs P T e R p x y (f ((p * 10 + x) * 10 + y))
theorem KZ.set {P : pl_T} {T e R q p x y : Nat} {σ : aa_St} {w : Int32} (h : KZ P T e R (σ.1 q)) (hx9 : x ≤ 9) (hy9 : y ≤ 9) (hx : KZs P T e R p x y w) : KZ P T e R ((aa_sI σ q ((p * 10 + x) * 10 + y) w).1 q) := by
  intro p' x' y' hp' hx' hy'
  rw [sI_at]
  by_cases c : (p' * 10 + x') * 10 + y' = (p * 10 + x) * 10 + y
  · rw [if_pos c, show y' = y by omega, show x' = x by omega, show p' = p by omega]; exact hx
  · rw [if_neg c]; exact h p' x' y' hp' hx' hy'
theorem KZs_add {P : pl_T} {T e R p x y v h b : Nat} (hh : h ≤ 1) (hK : v >>> 4 = R → ∀ h, h ≤ 1 → fd v (2 * h) 2 = 0 ∨ fd v (2 * h) 2 = if cc1 P T e h p x y then 2 else 1) (hb : b = if v >>> 4 = R then v else R <<< 4) : KZs P T e R p x y (nI (b ||| (if cc1 P T e h p x y then 2 else 1) <<< (2 * h))) := by
  have c4 : (if cc1 P T e h p x y then 2 else 1) < 2 ^ 2 := by split <;> decide
  have b2 : b >>> 4 = R := by
    rw [hb]
    split
    · assumption
    · rw [Nat.shiftLeft_shiftRight]
  have hB : ∀ h, h ≤ 1 → fd b (2 * h) 2 = 0 ∨ fd b (2 * h) 2 = if cc1 P T e h p x y then 2 else 1 := by
    intro q hq
    rw [hb]
    by_cases c : v >>> 4 = R
    · rw [if_pos c]; exact hK c q hq
    · rw [if_neg c]
      left
      apply bb_ext
      intro i
      rw [fd_bit, Nat.testBit_shiftLeft, Nat.zero_testBit]
      by_cases hi : i < 2
      · simp [show ¬ 4 ≤ 2 * q + i by omega]
      · simp [hi]
  have e2 : (b ||| (if cc1 P T e h p x y then 2 else 1) <<< (2 * h)) >>> 4 = R := by
    have h4 : ((if cc1 P T e h p x y then 2 else 1) <<< (2 * h)) >>> 4 = 0 := by
      rw [Nat.shiftRight_eq_div_pow]
      exact Nat.div_eq_of_lt (shl_lt c4 (by omega))
    rw [Nat.shiftRight_or_distrib, b2, h4, Nat.or_zero]
  refine ⟨_, rfl, by omega, fun _ q hq => ?_⟩
  by_cases c : q = h
  · subst c
    right
    rw [fd_self c4]
    rcases hB q hq with e | e
    · rw [e, Nat.zero_or]
    · rw [e, Nat.or_self]
  · rw [fd_or c4 (by omega)]
    exact hB q hq
theorem shr4_lt {v R : Nat} (h : v >>> 4 ≤ R) (hR : R < 67108864) : v < 2147483648 := by
  rw [Nat.shiftRight_eq_div_pow] at h
  omega
section
variable {r : Nat → Nat} {dy : List aa_Shp} {σ : aa_St} {P : pl_T} {T e R : Nat}
theorem c_X0_left {p x : Nat} (hp : p < 2147483648) (hx : x ≤ 9) : aa_SX mX0_left 1 [.int (nI p), .int (nI x)] σ (some (.int (nI (lfC p x)))) σ := by
  refine aa_E_of (by decide) 0 [some (.int (nI p)), some (.int (nI x))] rfl rfl ?_
  refine aa_go (aa_iload1 iX0_left_0) (aa_go (aa_bipush iX0_left_1 kb_8) ?_)
  refine aa_ic_geN iX0_left_3 (by omega) (by omega) (fun h1 => ?_) (fun h1 => ?_)
  · skip
    refine aa_go (aa_iload1 iX0_left_19) ?_
    refine aa_iret iX0_left_20 rfl ?_
    exact ⟨by rw [lfC, if_neg (by omega)], rfl⟩
  · skip
    refine aa_go (aa_iload0 iX0_left_6) (aa_go (aa_iload1 iX0_left_7) (aa_go (aa_ishrN iX0_left_8 (by omega) (by omega)) (aa_go (aa_iconst iX0_left_9 ki_1) (aa_go (aa_ibit iX0_left_10) ?_))))
    refine aa_if_neB iX0_left_11 (fun h2 => ?_) (fun h2 => ?_)
    · skip
      refine aa_go (aa_iload1 iX0_left_19) ?_
      refine aa_iret iX0_left_20 rfl ?_
      exact ⟨by rw [lfC, if_neg (by rw [h2]; simp)], rfl⟩
    · skip
      refine aa_go (aa_bipush iX0_left_14 kb_9) (aa_go (aa_goto iX0_left_16) ?_)
      refine aa_iret iX0_left_20 rfl ?_
      exact ⟨by rw [lfC, if_pos ⟨h1, h2⟩], rfl⟩
/-- what a call of victory() needs and gives -/
def VH (r : Nat → Nat) (dy : List aa_Shp) (P : pl_T) (T e R : Nat) (σ : aa_St) : Prop := aa_W r dy σ ∧ FO P T 51 σ.1 ∧ σ.1 49 3 = nI R ∧ σ.1 49 6 = nI e ∧ KZ P T e R (σ.1 (r 6))
theorem VH.tr {σ' : aa_St} (h87 : 87 ≤ r 6) (h : VH r dy P T e R σ) (hF : FrI (r 6) σ σ') (hK : KZ P T e R (σ'.1 (r 6))) : VH r dy P T e R σ' := by
  have q : ∀ x, x < 87 → σ'.1 x = σ.1 x := fun x hx => hF.2 x (by omega)
  exact ⟨hF.W h.1, h.2.1.fr (by rw [q 51 (by decide)]) (q 52 (by decide)) (q 53 (by decide)) (q 54 (by decide)), by rw [q 49 (by decide)]; exact h.2.2.1, by rw [q 49 (by decide)]; exact h.2.2.2.1, hK⟩
theorem c_X0_victoryBehind (h87 : 87 ≤ r 6) {d p x y h dp : Nat} (hV : VH r dy P T e R σ) (hp : p < 2147483648) (hx : vd T x) (hy : vd T y) (hdp : dp ≤ 40) (hh : h ≤ 1)
    (hv : ∃ σ' : aa_St, (FrI (r 6) σ σ' ∧ KZ P T e R (σ'.1 (r 6))) ∧ aa_SX mX0_victory d [.ref 49, .int (nI p), .int (nI (min (lfC p x) (lfC p y))), .int (nI (max (lfC p x) (lfC p y))), .int (nI h), .int (nI dp)] σ (some (.int (nI (ccB P T e h p x y).toNat))) σ') (hd : 1 ≤ d) :
    ∃ σ' : aa_St, (FrI (r 6) σ σ' ∧ KZ P T e R (σ'.1 (r 6))) ∧ aa_SX mX0_victoryBehind (d + 1) [.ref 49, .int (nI p), .int (nI x), .int (nI y), .int (nI h), .int (nI dp)] σ (some (.int (nI (ccB P T e h p x y).toNat))) σ' := by
  obtain ⟨σ2, hA, hS2⟩ := hv
  have hW := hV.1
  have h8 := hV.2.1.2.1
  have x9 := vd_le h8 hx
  have y9 := vd_le h8 hy
  have u9 := vd_le h8 (vd_lfC (p := p) hx)
  have w9 := vd_le h8 (vd_lfC (p := p) hy)
  refine ⟨σ2, hA, ?_⟩
  refine aa_E_of (by decide) 2 [some (.ref 49), some (.int (nI p)), some (.int (nI x)), some (.int (nI y)), some (.int (nI h)), some (.int (nI dp)), none, none] rfl rfl ?_
  refine aa_go (aa_iload1 iX0_victoryBehind_0) (aa_go (aa_iload2 iX0_victoryBehind_1) (aa_go (aa_cSi iX0_victoryBehind_2 (c_X0_left hp x9) (by omega) lc_X0_left lk_X0_111 rfl (Nat.le_of_ble_eq_true rfl)) (aa_go (aa_istore6 iX0_victoryBehind_5 rfl (by decide)) (aa_go (aa_iload1 iX0_victoryBehind_7) (aa_go (aa_iload3 iX0_victoryBehind_8) (aa_go (aa_cSi iX0_victoryBehind_9 (c_X0_left hp y9) (by omega) lc_X0_left lk_X0_111 rfl (Nat.le_of_ble_eq_true rfl)) (aa_go (aa_istore7 iX0_victoryBehind_12 rfl (by decide)) ?_)))))))
  refine aa_go (aa_aload0 iX0_victoryBehind_14) (aa_go (aa_iload1 iX0_victoryBehind_15) (aa_go (aa_iload6 iX0_victoryBehind_16) (aa_go (aa_iload7 iX0_victoryBehind_18) (aa_go (aa_mminN iX0_victoryBehind_20 (by omega) lk_X0_114 (Nat.le_of_ble_eq_true rfl) (by omega) (by omega)) (aa_go (aa_iload6 iX0_victoryBehind_23) (aa_go (aa_iload7 iX0_victoryBehind_25) (aa_go (aa_mmaxN iX0_victoryBehind_27 (by omega) lk_X0_119 (Nat.le_of_ble_eq_true rfl) (by omega) (by omega)) ?_)))))))
  refine aa_go (aa_iload4 iX0_victoryBehind_30) (aa_go (aa_iload5 iX0_victoryBehind_32) (aa_go (aa_cVi iX0_victoryBehind_34 (hS2) (by omega) lc_X0_victory lk_X0_66 (sh_49 hW) rfl rfl (Nat.le_of_ble_eq_true rfl)) ?_))
  refine aa_zretB iX0_victoryBehind_37 rfl ?_
  exact ⟨rfl, rfl⟩
theorem c_X0_victory (hr6 : ∀ σ : aa_St, aa_W r dy σ → σ.2.2.1[r 6]? = some (.inl (0, 25600))) (h87 : 87 ≤ r 6) (ok : pl_ok P) (hb0 : pl_b P = 0) (hR : R < 67108864) (he : e ≤ 1) : ∀ m p x y h dp (σ : aa_St), ccM P T p x y ≤ m → p < 2 ^ pl_cn T 14 → vd T x → vd T y → x ≤ y → h ≤ 1 → dp + ccM P T p x y ≤ 40 → VH r dy P T e R σ →
    ∃ σ' : aa_St, (FrI (r 6) σ σ' ∧ KZ P T e R (σ'.1 (r 6))) ∧ aa_SX mX0_victory (5 + 3 * m) [.ref 49, .int (nI p), .int (nI x), .int (nI y), .int (nI h), .int (nI dp)] σ (some (.int (nI (cc1 P T e h p x y).toNat))) σ' := by
  intro m
  induction m using Nat.strongRecOn with
  | ind m ih =>
    intro p x y h dp σ hm hp hx hy hxy hh hdp hV
    obtain ⟨hW, hO, hRR, hE, hK⟩ := id hV
    have hT := hO.1
    have h8 := hO.2.1
    have p256 : p < 256 := Nat.lt_of_lt_of_le hp (pw_lt (n := 8) h8)
    have x9 := vd_le h8 hx
    have y9 := vd_le h8 hy
    have hs_r6 := hr6 σ hW
    have fl := ft_l P T p h h8
    have ceq := cc1_eq (e := e) (h := h) (p := p) ok hb0 hT h8 hx hy hxy
    have atl : (p * 10 + x) * 10 + y < 25600 := by omega
    -- laid ones
    have laid : ∀ (σ1 : aa_St), VH r dy P T e R σ1 → ∃ σ' : aa_St, (FrI (r 6) σ1 σ' ∧ KZ P T e R (σ'.1 (r 6))) ∧ aa_SX mX0_winsByLaid (4 + 3 * m) [.ref 49, .int (nI p), .int (nI x), .int (nI y), .int (nI h), .int (nI dp)] σ1 (some (.int (nI (ccL P T e h p x y).toNat))) σ' := by
      intro σ1 hV1
      have hW1 := hV1.1
      have second : ∀ (σ2 : aa_St), FrI (r 6) σ1 σ2 → KZ P T e R (σ2.1 (r 6)) → (decide (x ≠ 9) && !cc1 P T e (1 - h) p y 9) = false → aa_V mX0_winsByLaid (4 + 3 * m) 27 [some (.ref 49), some (.int (nI p)), some (.int (nI x)), some (.int (nI y)), some (.int (nI h)), some (.int (nI dp))] [] σ2 (fun ra σ' => ra = some (.int (nI (ccL P T e h p x y).toNat)) ∧ FrI (r 6) σ1 σ' ∧ KZ P T e R (σ'.1 (r 6))) := by
        intro σ2 hF2 hK2 hno
        have hV2 := hV1.tr h87 hF2 hK2
        have hW2 := hV2.1
        have cl : ccL P T e h p x y = (decide (y ≠ 9) && decide (y ≠ x) && !cc1 P T e (1 - h) p x 9) := by rw [ccL, hno]; rfl
        refine aa_go (aa_iload3 iX0_winsByLaid_27) (aa_go (aa_bipush iX0_winsByLaid_28 kb_9) ?_)
        refine aa_ic_eqN iX0_winsByLaid_30 (by omega) (by omega) (fun g1 => ?_) (fun g1 => ?_)
        · skip
          refine aa_go (aa_iconst iX0_winsByLaid_61 ki_0) ?_
          refine aa_zretF iX0_winsByLaid_62 rfl ?_
          exact ⟨by rw [cl, g1]; rfl, hF2, hK2⟩
        · skip
          refine aa_go (aa_iload3 iX0_winsByLaid_33) (aa_go (aa_iload2 iX0_winsByLaid_34) ?_)
          refine aa_ic_eqN iX0_winsByLaid_35 (by omega) (by omega) (fun g2 => ?_) (fun g2 => ?_)
          · skip
            refine aa_go (aa_iconst iX0_winsByLaid_61 ki_0) ?_
            refine aa_zretF iX0_winsByLaid_62 rfl ?_
            exact ⟨by rw [cl, g2]; simp, hF2, hK2⟩
          · skip
            have lt := ccM_L2 (P := P) (p := p) (x := x) h8 hy g1
            obtain ⟨σ3, ⟨hF3, hK3⟩, hS3⟩ := ih (ccM P T p x 9) (by omega) p x 9 (1 - h) (dp + 1) σ2 (Nat.le_refl _) hp hx (Or.inr (Or.inr rfl)) x9 (by omega) (by omega) hV2
            refine aa_go (aa_aload0 iX0_winsByLaid_38) (aa_go (aa_iload1 iX0_winsByLaid_39) (aa_go (aa_iload2 iX0_winsByLaid_40) (aa_go (aa_bipush iX0_winsByLaid_41 kb_9) (aa_go (aa_iconst iX0_winsByLaid_43 ki_1) (aa_go (aa_iload4 iX0_winsByLaid_44) (aa_go (aa_isubN iX0_winsByLaid_46 (by omega)) (aa_go (aa_iload5 iX0_winsByLaid_47) ?_)))))))
            refine aa_go (aa_iconst iX0_winsByLaid_49 ki_1) (aa_go (aa_iaddN iX0_winsByLaid_50 ) (aa_go (aa_cVi iX0_winsByLaid_51 (hS3) (by omega) lc_X0_victory lk_X0_66 (sh_49 hW2) rfl rfl (Nat.le_of_ble_eq_true rfl)) ?_))
            refine aa_if_neB iX0_winsByLaid_54 (fun g3 => ?_) (fun g3 => ?_)
            · skip
              refine aa_go (aa_iconst iX0_winsByLaid_61 ki_0) ?_
              refine aa_zretF iX0_winsByLaid_62 rfl ?_
              exact ⟨by rw [cl, g3]; simp, hF2.tr hF3, hK3⟩
            · skip
              refine aa_go (aa_iconst iX0_winsByLaid_57 ki_1) (aa_go (aa_goto iX0_winsByLaid_58) ?_)
              refine aa_zretT iX0_winsByLaid_62 rfl ?_
              exact ⟨by rw [cl, g3]; simp [g1, g2], hF2.tr hF3, hK3⟩
      have key : aa_V mX0_winsByLaid (4 + 3 * m) 0 [some (.ref 49), some (.int (nI p)), some (.int (nI x)), some (.int (nI y)), some (.int (nI h)), some (.int (nI dp))] [] σ1 (fun ra σ' => ra = some (.int (nI (ccL P T e h p x y).toNat)) ∧ FrI (r 6) σ1 σ' ∧ KZ P T e R (σ'.1 (r 6))) := by
        refine aa_go (aa_iload2 iX0_winsByLaid_0) (aa_go (aa_bipush iX0_winsByLaid_1 kb_9) ?_)
        refine aa_ic_eqN iX0_winsByLaid_3 (by omega) (by omega) (fun g1 => ?_) (fun g1 => ?_)
        · skip
          exact second σ1 FrI.rf hV1.2.2.2.2 (by rw [g1]; rfl)
        · skip
          have lt := ccM_L1 (P := P) (p := p) (y := y) h8 hx g1
          obtain ⟨σ3, ⟨hF3, hK3⟩, hS3⟩ := ih (ccM P T p y 9) (by omega) p y 9 (1 - h) (dp + 1) σ1 (Nat.le_refl _) hp hy (Or.inr (Or.inr rfl)) y9 (by omega) (by omega) hV1
          refine aa_go (aa_aload0 iX0_winsByLaid_6) (aa_go (aa_iload1 iX0_winsByLaid_7) (aa_go (aa_iload3 iX0_winsByLaid_8) (aa_go (aa_bipush iX0_winsByLaid_9 kb_9) (aa_go (aa_iconst iX0_winsByLaid_11 ki_1) (aa_go (aa_iload4 iX0_winsByLaid_12) (aa_go (aa_isubN iX0_winsByLaid_14 (by omega)) (aa_go (aa_iload5 iX0_winsByLaid_15) ?_)))))))
          refine aa_go (aa_iconst iX0_winsByLaid_17 ki_1) (aa_go (aa_iaddN iX0_winsByLaid_18 ) (aa_go (aa_cVi iX0_winsByLaid_19 (hS3) (by omega) lc_X0_victory lk_X0_66 (sh_49 hW1) rfl rfl (Nat.le_of_ble_eq_true rfl)) ?_))
          refine aa_if_neB iX0_winsByLaid_22 (fun g3 => ?_) (fun g3 => ?_)
          · skip
            exact second σ3 hF3 hK3 (by rw [g3]; simp)
          · skip
            refine aa_go (aa_iconst iX0_winsByLaid_25 ki_1) ?_
            refine aa_zretT iX0_winsByLaid_26 rfl ?_
            exact ⟨by rw [ccL, g3]; simp [g1], hF3, hK3⟩
      obtain ⟨ra, σ', ⟨rfl, h1⟩, hS9⟩ := aa_S_of (avs := [.ref 49, .int (nI p), .int (nI x), .int (nI y), .int (nI h), .int (nI dp)]) (by decide) 0 [some (.ref 49), some (.int (nI p)), some (.int (nI x)), some (.int (nI y)), some (.int (nI h)), some (.int (nI dp))] rfl rfl key
      exact ⟨σ', h1, hS9⟩
    -- things
    have things : ∀ (σ1 : aa_St), VH r dy P T e R σ1 → ∃ σ' : aa_St, (FrI (r 6) σ1 σ' ∧ KZ P T e R (σ'.1 (r 6))) ∧ aa_SX mX0_winsByThings (4 + 3 * m) [.ref 49, .int (nI p), .int (nI x), .int (nI y), .int (nI h), .int (nI dp)] σ1 (some (.int (nI (ccT P T e h p x y (pl_cn T 14)).toNat))) σ' := by
      intro σ1 hV1
      have hW1 := hV1.1
      have loop : ∀ f k (σ2 : aa_St), pl_cn T 14 - k < f → k ≤ pl_cn T 14 → FrI (r 6) σ1 σ2 → KZ P T e R (σ2.1 (r 6)) → ccT P T e h p x y k = false → aa_V mX0_winsByThings (4 + 3 * m) 15 [some (.ref 49), some (.int (nI p)), some (.int (nI x)), some (.int (nI y)), some (.int (nI h)), some (.int (nI dp)), some (.int (nI (ft P T p h))), some (.int (nI k))] [] σ2 (fun ra σ' => ra = some (.int (nI (ccT P T e h p x y (pl_cn T 14)).toNat)) ∧ FrI (r 6) σ1 σ' ∧ KZ P T e R (σ'.1 (r 6))) := by
        intro f
        induction f with
        | zero => intro k σ2 g1; omega
        | succ f ihf =>
          intro k σ2 g1 g2 hF2 hK2 hno
          have hV2 := hV1.tr h87 hF2 hK2
          have hW2 := hV2.1
          refine aa_go (aa_iload7 iX0_winsByThings_15) (aa_go (aa_aload0 iX0_winsByThings_17) (aa_go (aa_getR iX0_winsByThings_18 fl_X0_50 (sh_49 hW2) rfl) (aa_go (aa_cVi iX0_winsByThings_21 (c_X1_many51 hW2 hV2.2.1.2.2.1) (by omega) lc_X1_many lk_X0_99 (sh_51 hW2) rfl rfl (Nat.le_of_ble_eq_true rfl)) ?_)))
          refine aa_ic_geN iX0_winsByThings_24 (by omega) (by omega) (fun g3 => ?_) (fun g3 => ?_)
          · skip
            have e1 : k = pl_cn T 14 := by omega
            subst e1
            refine aa_go (aa_iconst iX0_winsByThings_72 ki_0) ?_
            refine aa_zretF iX0_winsByThings_73 rfl ?_
            exact ⟨by rw [hno]; rfl, hF2, hK2⟩
          · skip
            refine aa_go (aa_iload6 iX0_winsByThings_27) (aa_go (aa_iload7 iX0_winsByThings_29) (aa_go (aa_ishrN iX0_winsByThings_31 (by omega) (by omega)) (aa_go (aa_iconst iX0_winsByThings_32 ki_1) (aa_go (aa_ibit iX0_winsByThings_33) ?_))))
            refine aa_if_eqB iX0_winsByThings_34 (fun g4 => ?_) (fun g4 => ?_)
            · skip
              refine aa_go (aa_iincN7 (k := 1) iX0_winsByThings_66 rfl (by decide)) (aa_go (aa_goto iX0_winsByThings_69) ?_)
              exact ihf (k + 1) σ2 (by omega) (by omega) hF2 hK2 (by rw [ccT_f g4]; exact hno)
            · skip
              have lt := ccM_T (x := x) (y := y) ok hT g3 g4
              have lb := ccM_B (P := P) (p := fb P T p k) h8 hx hy
              have fbl : fb P T p k < 2 ^ pl_cn T 14 := fb_lt hp
              have fb2 : fb P T p k < 256 := fb_lt p256
              obtain ⟨σ3, ⟨hF3, hK3⟩, hS3⟩ := c_X0_victoryBehind (d := 5 + 3 * (m - 1)) (h := 1 - h) (dp := dp + 1) (p := fb P T p k) h87 hV2 (by omega) hx hy (by omega) (by omega) (by
                obtain ⟨σ4, hA, hS4⟩ := ih (m - 1) (by omega) (fb P T p k) (min (lfC (fb P T p k) x) (lfC (fb P T p k) y)) (max (lfC (fb P T p k) x) (lfC (fb P T p k) y)) (1 - h) (dp + 1) σ2 (by omega) fbl (vd_min (vd_lfC hx) (vd_lfC hy)) (vd_max (vd_lfC hx) (vd_lfC hy)) (by omega) (by omega) (by omega) hV2
                exact ⟨σ4, hA, hS4⟩) (by omega)
              refine aa_go (aa_aload0 iX0_winsByThings_37) (aa_go (aa_aload0 iX0_winsByThings_38) (aa_go (aa_getR iX0_winsByThings_39 fl_X0_50 (sh_49 hW2) rfl) (aa_go (aa_iload1 iX0_winsByThings_42) (aa_go (aa_iload7 iX0_winsByThings_43) (aa_go (aa_cVi iX0_winsByThings_45 (c_X1_behind51 hW2 hV2.2.1 g3) (by omega) lc_X1_behind lk_X0_105 (sh_51 hW2) rfl rfl (Nat.le_of_ble_eq_true rfl)) (aa_go (aa_iload2 iX0_winsByThings_48) (aa_go (aa_iload3 iX0_winsByThings_49) ?_)))))))
              refine aa_go (aa_iconst iX0_winsByThings_50 ki_1) (aa_go (aa_iload4 iX0_winsByThings_51) (aa_go (aa_isubN iX0_winsByThings_53 (by omega)) (aa_go (aa_iload5 iX0_winsByThings_54) (aa_go (aa_iconst iX0_winsByThings_56 ki_1) (aa_go (aa_iaddN iX0_winsByThings_57 ) (aa_go (aa_cVi iX0_winsByThings_58 (hS3) (by omega) lc_X0_victoryBehind lk_X0_108 (sh_49 hW2) rfl rfl (Nat.le_of_ble_eq_true rfl)) ?_))))))
              refine aa_if_neB iX0_winsByThings_61 (fun g5 => ?_) (fun g5 => ?_)
              · skip
                refine aa_go (aa_iincN7 (k := 1) iX0_winsByThings_66 rfl (by decide)) (aa_go (aa_goto iX0_winsByThings_69) ?_)
                exact ihf (k + 1) σ3 (by omega) (by omega) (hF2.tr hF3) hK3 (by rw [ccT_t g4, hno, g5]; rfl)
              · skip
                refine aa_go (aa_iconst iX0_winsByThings_64 ki_1) ?_
                refine aa_zretT iX0_winsByThings_65 rfl ?_
                exact ⟨by rw [ccT_mono (by omega : k + 1 ≤ pl_cn T 14) (by rw [ccT_t g4, g5]; simp)]; rfl, hF2.tr hF3, hK3⟩
      have key : aa_V mX0_winsByThings (4 + 3 * m) 0 [some (.ref 49), some (.int (nI p)), some (.int (nI x)), some (.int (nI y)), some (.int (nI h)), some (.int (nI dp)), none, none] [] σ1 (fun ra σ' => ra = some (.int (nI (ccT P T e h p x y (pl_cn T 14)).toNat)) ∧ FrI (r 6) σ1 σ' ∧ KZ P T e R (σ'.1 (r 6))) := by
        refine aa_go (aa_aload0 iX0_winsByThings_0) (aa_go (aa_getR iX0_winsByThings_1 fl_X0_50 (sh_49 hW1) rfl) (aa_go (aa_iload1 iX0_winsByThings_4) (aa_go (aa_iload4 iX0_winsByThings_5) (aa_go (aa_cVi iX0_winsByThings_7 (c_X1_takes51 hW1 hV1.2.1 hh) (by omega) lc_X1_takes lk_X0_122 (sh_51 hW1) rfl rfl (Nat.le_of_ble_eq_true rfl)) (aa_go (aa_istore6 iX0_winsByThings_10 rfl (by decide)) (aa_go (aa_iconst iX0_winsByThings_12 ki_0) (aa_go (aa_istore7 iX0_winsByThings_13 rfl (by decide)) ?_)))))))
        exact loop (pl_cn T 14 + 1) 0 σ1 (by omega) (by omega) FrI.rf hV1.2.2.2.2 rfl
      obtain ⟨ra, σ', ⟨rfl, h1⟩, hS9⟩ := aa_S_of (avs := [.ref 49, .int (nI p), .int (nI x), .int (nI y), .int (nI h), .int (nI dp)]) (by decide) 2 [some (.ref 49), some (.int (nI p)), some (.int (nI x)), some (.int (nI y)), some (.int (nI h)), some (.int (nI dp)), none, none] rfl rfl key
      exact ⟨σ', h1, hS9⟩
    -- the end: 192
    have last : ∀ (σ1 : aa_St) y7 b, FrI (r 6) σ σ1 → KZ P T e R (σ1.1 (r 6)) → KZs P T e R p x y (nI (b ||| (if cc1 P T e h p x y then 2 else 1) <<< (2 * h))) → aa_V mX0_victory (5 + 3 * m) 192 [some (.ref 49), some (.int (nI p)), some (.int (nI x)), some (.int (nI y)), some (.int (nI h)), some (.int (nI dp)), some (.int (nI ((p * 10 + x) * 10 + y))), some (.int y7), some (.int (nI (cc1 P T e h p x y).toNat)), none] [.int (nI b)] σ1 (fun ra σ' => ra = some (.int (nI (cc1 P T e h p x y).toNat)) ∧ FrI (r 6) σ σ' ∧ KZ P T e R (σ'.1 (r 6))) := by
      intro σ1 y7 b hF1 hK1 hb
      have hV1 := hV.tr h87 hF1 hK1
      have hW1 := hV1.1
      have hs_r6 := hr6 σ1 hW1
      refine aa_go (aa_istore9 iX0_victory_192 rfl (by decide)) (aa_go (aa_aload0 iX0_victory_194) (aa_go (aa_getR iX0_victory_195 fl_X0_9 (sh_49 hW1) rfl) (aa_go (aa_iload6 iX0_victory_198) (aa_go (aa_iload9 iX0_victory_200) (aa_go (aa_iload8 iX0_victory_202) ?_)))))
      refine aa_if_eqB iX0_victory_204 (fun g1 => ?_) (fun g1 => ?_)
      · skip
        rw [g1] at hb ⊢
        refine aa_go (aa_iconst iX0_victory_211 ki_1) (aa_go (aa_iconst iX0_victory_212 ki_2) (aa_go (aa_iload4 iX0_victory_213) (aa_go (aa_imulN iX0_victory_215 ) (aa_go (aa_ishlN iX0_victory_216 (by omega)) (aa_go (aa_iorN iX0_victory_217 ) (aa_go (aa_iasN iX0_victory_218 hs_r6 (by omega) (by omega)) (aa_go (aa_iload8 iX0_victory_219) ?_)))))))
        refine aa_zretB iX0_victory_221 rfl ?_
        exact ⟨rfl, hF1.s _ _, hK1.set x9 y9 hb⟩
      · skip
        rw [g1] at hb ⊢
        refine aa_go (aa_iconst iX0_victory_207 ki_2) (aa_go (aa_goto iX0_victory_208) (aa_go (aa_iconst iX0_victory_212 ki_2) (aa_go (aa_iload4 iX0_victory_213) (aa_go (aa_imulN iX0_victory_215 ) (aa_go (aa_ishlN iX0_victory_216 (by omega)) (aa_go (aa_iorN iX0_victory_217 ) (aa_go (aa_iasN iX0_victory_218 hs_r6 (by omega) (by omega)) ?_)))))))
        refine aa_go (aa_iload8 iX0_victory_219) ?_
        refine aa_zretB iX0_victory_221 rfl ?_
        exact ⟨rfl, hF1.s _ _, hK1.set x9 y9 hb⟩
    have fin : ∀ (σ1 : aa_St) y7, FrI (r 6) σ σ1 → KZ P T e R (σ1.1 (r 6)) → aa_V mX0_victory (5 + 3 * m) 158 [some (.ref 49), some (.int (nI p)), some (.int (nI x)), some (.int (nI y)), some (.int (nI h)), some (.int (nI dp)), some (.int (nI ((p * 10 + x) * 10 + y))), some (.int y7), none, none] [.int (nI (cc1 P T e h p x y).toNat)] σ1 (fun ra σ' => ra = some (.int (nI (cc1 P T e h p x y).toNat)) ∧ FrI (r 6) σ σ' ∧ KZ P T e R (σ'.1 (r 6))) := by
      intro σ1 y7 hF1 hK1
      have hV1 := hV.tr h87 hF1 hK1
      have hW1 := hV1.1
      have hs_r6 := hr6 σ1 hW1
      obtain ⟨v, hv, hvR, hvK⟩ := hK1 p x y p256 x9 y9
      have v31 := shr4_lt hvR hR
      refine aa_go (aa_istore8 iX0_victory_158 rfl (by decide)) (aa_go (aa_aload0 iX0_victory_160) (aa_go (aa_getR iX0_victory_161 fl_X0_9 (sh_49 hW1) rfl) (aa_go (aa_iload6 iX0_victory_164) (aa_go (aa_ialE iX0_victory_166 hs_r6 (by omega) (by omega) (hv)) (aa_go (aa_iconst iX0_victory_167 ki_4) (aa_go (aa_ishrN iX0_victory_168 (by omega) (by omega)) (aa_go (aa_aload0 iX0_victory_169) ?_)))))))
      refine aa_go (aa_getE iX0_victory_170 fl_X0_15 (sh_49 hW1) rfl hV1.2.2.1) ?_
      refine aa_ic_neN iX0_victory_173 (by omega) (by omega) (fun g1 => ?_) (fun g1 => ?_)
      · skip
        refine aa_go (aa_aload0 iX0_victory_186) (aa_go (aa_getE iX0_victory_187 fl_X0_15 (sh_49 hW1) rfl hV1.2.2.1) (aa_go (aa_iconst iX0_victory_190 ki_4) (aa_go (aa_ishlN iX0_victory_191 (by omega)) ?_)))
        exact last σ1 y7 _ hF1 hK1 (KZs_add hh hvK (by rw [if_neg g1]))
      · skip
        refine aa_go (aa_aload0 iX0_victory_176) (aa_go (aa_getR iX0_victory_177 fl_X0_9 (sh_49 hW1) rfl) (aa_go (aa_iload6 iX0_victory_180) (aa_go (aa_ialE iX0_victory_182 hs_r6 (by omega) (by omega) (hv)) (aa_go (aa_goto iX0_victory_183) ?_))))
        exact last σ1 y7 _ hF1 hK1 (KZs_add hh hvK (by rw [if_pos g1]))
    have tail : ∀ w, (w = 0 ∨ w = if cc1 P T e h p x y then 2 else 1) → aa_V mX0_victory (5 + 3 * m) 71 [some (.ref 49), some (.int (nI p)), some (.int (nI x)), some (.int (nI y)), some (.int (nI h)), some (.int (nI dp)), some (.int (nI ((p * 10 + x) * 10 + y))), none, none, none] [.int (nI w)] σ (fun ra σ' => ra = some (.int (nI (cc1 P T e h p x y).toNat)) ∧ FrI (r 6) σ σ' ∧ KZ P T e R (σ'.1 (r 6))) := by
      intro w hw
      have w2 : w ≤ 2 := by
        rcases hw with q | q
        · omega
        · rw [q]; split <;> omega
      have body : aa_V mX0_victory (5 + 3 * m) 125 [some (.ref 49), some (.int (nI p)), some (.int (nI x)), some (.int (nI y)), some (.int (nI h)), some (.int (nI dp)), some (.int (nI ((p * 10 + x) * 10 + y))), some (.int (nI w)), none, none] [] σ (fun ra σ' => ra = some (.int (nI (cc1 P T e h p x y).toNat)) ∧ FrI (r 6) σ σ' ∧ KZ P T e R (σ'.1 (r 6))) ∨ (ft P T p h = 0 ∧ x = 9) := by
        by_cases hc : ft P T p h = 0 ∧ x = 9
        · exact Or.inr hc
        · left
          rw [if_neg hc] at ceq
          obtain ⟨σ1, ⟨hF1, hK1⟩, hS1⟩ := laid σ hV
          have hV1 := hV.tr h87 hF1 hK1
          have hW1 := hV1.1
          obtain ⟨σ2, ⟨hF2, hK2⟩, hS2⟩ := things σ1 hV1
          have hW2 := hF2.W hW1
          refine aa_go (aa_aload0 iX0_victory_125) (aa_go (aa_iload1 iX0_victory_126) (aa_go (aa_iload2 iX0_victory_127) (aa_go (aa_iload3 iX0_victory_128) (aa_go (aa_iload4 iX0_victory_129) (aa_go (aa_iload5 iX0_victory_131) (aa_go (aa_cVi iX0_victory_133 (hS1) (by omega) lc_X0_winsByLaid lk_X0_125 (sh_49 hW) rfl rfl (Nat.le_of_ble_eq_true rfl)) ?_))))))
          refine aa_if_neB iX0_victory_136 (fun g1 => ?_) (fun g1 => ?_)
          · skip
            have e1 : cc1 P T e h p x y = true := by rw [ceq, g1]; rfl
            refine aa_go (aa_iconst iX0_victory_153 ki_1) (aa_go (aa_goto iX0_victory_154) ?_)
            have := fin σ1 (nI w) hF1 hK1
            rw [e1] at this ⊢
            exact this
          · skip
            refine aa_go (aa_aload0 iX0_victory_139) (aa_go (aa_iload1 iX0_victory_140) (aa_go (aa_iload2 iX0_victory_141) (aa_go (aa_iload3 iX0_victory_142) (aa_go (aa_iload4 iX0_victory_143) (aa_go (aa_iload5 iX0_victory_145) (aa_go (aa_cVi iX0_victory_147 (hS2) (by omega) lc_X0_winsByThings lk_X0_128 (sh_49 hW1) rfl rfl (Nat.le_of_ble_eq_true rfl)) ?_))))))
            refine aa_if_eqB iX0_victory_150 (fun g2 => ?_) (fun g2 => ?_)
            · skip
              have e1 : cc1 P T e h p x y = false := by rw [ceq, g1, g2]; rfl
              refine aa_go (aa_iconst iX0_victory_157 ki_0) ?_
              have := fin σ2 (nI w) (hF1.tr hF2) hK2
              rw [e1] at this ⊢
              exact this
            · skip
              have e1 : cc1 P T e h p x y = true := by rw [ceq, g1, g2]; rfl
              refine aa_go (aa_iconst iX0_victory_153 ki_1) (aa_go (aa_goto iX0_victory_154) ?_)
              have := fin σ2 (nI w) (hF1.tr hF2) hK2
              rw [e1] at this ⊢
              exact this
      refine aa_go (aa_istore7 iX0_victory_71 rfl (by decide)) (aa_go (aa_iload7 iX0_victory_73) ?_)
      refine aa_if_eqN iX0_victory_75 (by omega) (fun g1 => ?_) (fun g1 => ?_)
      · skip
        refine aa_go (aa_aload0 iX0_victory_90) (aa_go (aa_getR iX0_victory_91 fl_X0_50 (sh_49 hW) rfl) (aa_go (aa_iload1 iX0_victory_94) (aa_go (aa_iload4 iX0_victory_95) (aa_go (aa_cVi iX0_victory_97 (c_X1_takes51 hW hO hh) (by omega) lc_X1_takes lk_X0_122 (sh_51 hW) rfl rfl (Nat.le_of_ble_eq_true rfl)) ?_))))
        refine aa_if_neN iX0_victory_100 (by omega) (fun g2 => ?_) (fun g2 => ?_)
        · skip
          exact body.resolve_right (fun q => g2 q.1)
        · skip
          refine aa_go (aa_iload2 iX0_victory_103) (aa_go (aa_bipush iX0_victory_104 kb_9) ?_)
          refine aa_ic_neN iX0_victory_106 (by omega) (by omega) (fun g3 => ?_) (fun g3 => ?_)
          · skip
            exact body.resolve_right (fun q => g3 q.2)
          · skip
            rw [if_pos ⟨g2, g3⟩] at ceq
            refine aa_go (aa_aload0 iX0_victory_109) (aa_go (aa_getE iX0_victory_110 fl_X0_25 (sh_49 hW) rfl hE) (aa_go (aa_iconst iX0_victory_113 ki_1) ?_))
            refine aa_ic_neN iX0_victory_114 (by omega) (by omega) (fun g4 => ?_) (fun g4 => ?_)
            · skip
              have e1 : cc1 P T e h p x y = false := by rw [ceq, beq_eq_false_iff_ne.mpr g4]
              refine aa_go (aa_iconst iX0_victory_121 ki_0) (aa_go (aa_goto iX0_victory_122) ?_)
              have := fin σ (nI w) FrI.rf hK
              rw [e1] at this ⊢
              exact this
            · skip
              have e1 : cc1 P T e h p x y = true := by rw [ceq, g4]; rfl
              refine aa_go (aa_iconst iX0_victory_117 ki_1) (aa_go (aa_goto iX0_victory_118) ?_)
              have := fin σ (nI w) FrI.rf hK
              rw [e1] at this ⊢
              exact this
      · skip
        have h2 := hw.resolve_left g1
        refine aa_go (aa_iload7 iX0_victory_78) (aa_go (aa_iconst iX0_victory_80 ki_2) ?_)
        refine aa_ic_neN iX0_victory_81 (by omega) (by omega) (fun g2 => ?_) (fun g2 => ?_)
        · skip
          refine aa_go (aa_iconst iX0_victory_88 ki_0) ?_
          refine aa_zretF iX0_victory_89 rfl ?_
          have : cc1 P T e h p x y = false := by
            cases h4 : cc1 P T e h p x y with
            | false => rfl
            | true => rw [h4] at h2; exact absurd h2 g2
          exact ⟨by rw [this]; rfl, FrI.rf, hK⟩
        · skip
          refine aa_go (aa_iconst iX0_victory_84 ki_1) (aa_go (aa_goto iX0_victory_85) ?_)
          refine aa_zretT iX0_victory_89 rfl ?_
          have : cc1 P T e h p x y = true := by
            cases h4 : cc1 P T e h p x y with
            | true => rfl
            | false => rw [h4, g2] at h2; exact absurd h2 (by decide)
          exact ⟨by rw [this]; rfl, FrI.rf, hK⟩
    have key : aa_V mX0_victory (5 + 3 * m) 0 [some (.ref 49), some (.int (nI p)), some (.int (nI x)), some (.int (nI y)), some (.int (nI h)), some (.int (nI dp)), none, none, none, none] [] σ (fun ra σ' => ra = some (.int (nI (cc1 P T e h p x y).toNat)) ∧ FrI (r 6) σ σ' ∧ KZ P T e R (σ'.1 (r 6))) := by
      obtain ⟨v, hv, hvR, hvK⟩ := hK p x y p256 x9 y9
      have v31 := shr4_lt hvR hR
      refine aa_go (aa_iload1 iX0_victory_0) (aa_go (aa_bipush iX0_victory_1 kb_10) (aa_go (aa_imulN iX0_victory_3 ) (aa_go (aa_iload2 iX0_victory_4) (aa_go (aa_iaddN iX0_victory_5 ) (aa_go (aa_bipush iX0_victory_6 kb_10) (aa_go (aa_imulN iX0_victory_8 ) (aa_go (aa_iload3 iX0_victory_9) ?_)))))))
      refine aa_go (aa_iaddN iX0_victory_10 ) (aa_go (aa_istore6 iX0_victory_11 rfl (by decide)) (aa_go (aa_iload6 iX0_victory_13) ?_))
      refine aa_go (aa_if_ltN iX0_victory_15 (by omega)) ?_
      refine aa_go (aa_iload6 iX0_victory_18) (aa_go (aa_aload0 iX0_victory_20) (aa_go (aa_getR iX0_victory_21 fl_X0_9 (sh_49 hW) rfl) (aa_go (aa_alen iX0_victory_24 hs_r6 (by decide)) ?_)))
      refine aa_ic_geN iX0_victory_25 (by omega) (by omega) (fun g1 => ?_) (fun g1 => ?_)
      · skip
        omega
      · skip
        refine aa_go (aa_iload5 iX0_victory_28) (aa_go (aa_bipush iX0_victory_30 kb_40) ?_)
        refine aa_ic_leN iX0_victory_32 (by omega) (by omega) (fun g2 => ?_) (fun g2 => ?_)
        · skip
          refine aa_go (aa_aload0 iX0_victory_37) (aa_go (aa_getR iX0_victory_38 fl_X0_9 (sh_49 hW) rfl) (aa_go (aa_iload6 iX0_victory_41) (aa_go (aa_ialE iX0_victory_43 hs_r6 (by omega) (by omega) (hv)) (aa_go (aa_iconst iX0_victory_44 ki_4) (aa_go (aa_ishrN iX0_victory_45 (by omega) (by omega)) (aa_go (aa_aload0 iX0_victory_46) (aa_go (aa_getE iX0_victory_47 fl_X0_15 (sh_49 hW) rfl hRR) ?_)))))))
          refine aa_ic_neN iX0_victory_50 (by omega) (by omega) (fun g3 => ?_) (fun g3 => ?_)
          · skip
            refine aa_go (aa_iconst iX0_victory_70 ki_0) ?_
            exact tail 0 (Or.inl rfl)
          · skip
            refine aa_go (aa_aload0 iX0_victory_53) (aa_go (aa_getR iX0_victory_54 fl_X0_9 (sh_49 hW) rfl) (aa_go (aa_iload6 iX0_victory_57) (aa_go (aa_ialE iX0_victory_59 hs_r6 (by omega) (by omega) (hv)) (aa_go (aa_iconst iX0_victory_60 ki_2) (aa_go (aa_iload4 iX0_victory_61) (aa_go (aa_imulN iX0_victory_63 ) (aa_go (aa_ishrN iX0_victory_64 (by omega) (by omega)) ?_)))))))
            refine aa_go (aa_iconst iX0_victory_65 ki_3) (aa_go (aa_iandN iX0_victory_66 ) ?_)
            refine aa_go (aa_top (y := nI (fd v (2 * h) 2)) (by rw [and3])) ?_
            refine aa_go (aa_goto iX0_victory_67) ?_
            exact tail _ (hvK g3 h hh)
        · skip
          omega
    obtain ⟨ra, σ', ⟨rfl, h1⟩, hS9⟩ := aa_S_of (avs := [.ref 49, .int (nI p), .int (nI x), .int (nI y), .int (nI h), .int (nI dp)]) (by decide) 4 [some (.ref 49), some (.int (nI p)), some (.int (nI x)), some (.int (nI y)), some (.int (nI h)), some (.int (nI dp)), none, none, none, none] rfl rfl key
    exact ⟨σ', h1, hS9⟩
end
