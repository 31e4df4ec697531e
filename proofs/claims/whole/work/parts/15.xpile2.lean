def pl_bkB (P : pl_T) (k : Nat) : Bool := (decide (0 < pl_b P) && pl_k P 0 == k) || (decide (1 < pl_b P) && pl_k P 1 == k)
def pl_pbk (P : pl_T) (s : Nat) : Nat → Nat
  | 0 => 0
  | k + 1 => pl_pbk P s k ||| ((s.testBit (pl_n P + k)).toNat <<< pl_k P k)
def pl_nmk (P : pl_T) (v : Nat) : Nat → Nat
  | 0 => v &&& (2 ^ pl_n P - 1)
  | k + 1 => pl_nmk P v k ||| ((v.testBit (pl_n P + k)).toNat <<< (14 + pl_k P k))
def pl_mo (P : pl_T) (j : Nat) : Nat := if j < pl_n P then j else 14 + pl_k P (j - pl_n P)
def pl_orA (f : Nat → Nat) (s : Nat) : Nat → Nat
  | 0 => 0
  | k + 1 => if s.testBit k then pl_orA f s k ||| f k else pl_orA f s k
theorem pl_ab_lt (P : pl_T) (i : Nat) : pl_ab P i < 2 ^ pl_n P := bm_lt _ _
theorem pl_al_lt (P : pl_T) (h : Nat) : pl_al P h < 2 ^ pl_n P := bm_lt _ _
theorem pl_mv_lt (P : pl_T) (h s : Nat) : pl_mv P h s < 2 ^ (pl_n P + pl_b P) := bm_lt _ _
theorem bb_shl1 {c : Bool} {k n : Nat} (h : k < n) : c.toNat <<< k < 2 ^ n := by
  rw [Nat.shiftLeft_eq]
  have : 2 ^ k < 2 ^ n := Nat.pow_lt_pow_right (by omega) h
  have h2 := Nat.two_pow_pos n
  cases c <;> simp <;> omega
theorem bb_p2 {k n : Nat} (h : k < n) : 2 ^ k < 2 ^ n := Nat.pow_lt_pow_right (by omega) h
theorem bb_and0 {a b : Nat} : a &&& b = 0 ↔ ∀ i, ¬ (a.testBit i = true ∧ b.testBit i = true) := by
  constructor
  · intro h i ⟨h1, h2⟩
    have : (a &&& b).testBit i = true := by rw [Nat.testBit_and, h1, h2]; rfl
    rw [h] at this
    simp at this
  · intro h
    apply bb_ext
    intro i
    rw [Nat.testBit_and]
    have := h i
    cases h1 : a.testBit i <;> cases h2 : b.testBit i <;> simp_all
theorem bb_tp (k i : Nat) : (2 ^ k).testBit i = decide (k = i) := Nat.testBit_two_pow
theorem pl_st0 {P : pl_T} {s j : Nat} : s &&& pl_st P j = 0 ↔ (s.testBit (pl_k P (j - pl_n P)) = false ∧ s.testBit j = false) := by
  rw [bb_and0]
  constructor
  · intro h
    refine ⟨?_, ?_⟩
    · have h1 := h (pl_k P (j - pl_n P))
      rw [pl_st, Nat.testBit_or, bb_tp] at h1
      cases h2 : s.testBit (pl_k P (j - pl_n P)) with
      | false => rfl
      | true => exact absurd ⟨h2, by simp⟩ h1
    · have h1 := h j
      rw [pl_st, Nat.testBit_or, bb_tp (k := j)] at h1
      cases h2 : s.testBit j with
      | false => rfl
      | true => exact absurd ⟨h2, by simp⟩ h1
  · rintro ⟨h1, h2⟩ i ⟨h3, h4⟩
    rw [pl_st, Nat.testBit_or, bb_tp, bb_tp, Bool.or_eq_true, decide_eq_true_eq, decide_eq_true_eq] at h4
    rcases h4 with rfl | rfl
    · rw [h1] at h3; cases h3
    · rw [h2] at h3; cases h3
/-- the steps so far: takes, then those put back -/
theorem pl_mv_0 {P : pl_T} (h s : Nat) : s &&& pl_al P h = bm (pl_n P) (pl_lg P h s) := by
  apply bm_eq (bb_and_r (pl_al_lt P h))
  intro k hk
  rw [Nat.testBit_and, pl_al, bm_bit, pl_lg, if_pos hk]
  simp [hk]
theorem pl_lg_b {P : pl_T} {h s k : Nat} (hk : k < pl_b P) : pl_lg P h s (pl_n P + k) = (decide (s &&& pl_st P (pl_n P + k) = 0) && decide (bd (pl_u P (pl_k P k)) s = 0)) := by
  rw [pl_lg, if_neg (by omega)]
  have e : pl_n P + k - pl_n P = k := by omega
  rw [e]
  have e2 : decide (s &&& pl_st P (pl_n P + k) = 0) = (!s.testBit (pl_k P k) && !s.testBit (pl_n P + k)) := by
    rw [Bool.eq_iff_iff, decide_eq_true_eq, pl_st0, e]
    simp
  rw [e2]
  simp [hk]
section
variable {r : Nat → Nat} {dy : List aa_Shp} {σ : aa_St} {P : pl_T} {hs : List Nat}
theorem c_X6_takes (hW : aa_W r dy σ) (hX : XP P hs σ.1) {s h : Nat} (hh : h ≤ 3) : aa_SX mX6_takes 1 [.ref 7, .int (nI s), .int (nI h)] σ (some (.int (nI (s &&& pl_al P h)))) σ := by
  refine aa_E_of (by decide) 0 [some (.ref 7), some (.int (nI s)), some (.int (nI h))] rfl rfl ?_
  refine aa_go (aa_iload2 iX6_takes_0) ?_
  refine aa_go (aa_if_ltN iX6_takes_1 (by omega)) ?_
  refine aa_go (aa_iload2 iX6_takes_4) (aa_go (aa_iconst iX6_takes_5 ki_3) ?_)
  refine aa_ic_gtN iX6_takes_6 (by omega) (by omega) (fun h1 => ?_) (fun h1 => ?_)
  · skip
    omega
  · skip
    refine aa_go (aa_iload1 iX6_takes_9) (aa_go (aa_aload0 iX6_takes_10) (aa_go (aa_getR iX6_takes_11 fl_X6_30 (sh_7 hW) rfl) (aa_go (aa_iload2 iX6_takes_14) (aa_go (aa_ialE iX6_takes_15 (sh_14 hW) (by omega) (by omega) (hX.al hh)) (aa_go (aa_iandN iX6_takes_16 ) (aa_go (aa_goto iX6_takes_17) ?_))))))
    refine aa_iret iX6_takes_21 rfl ?_
    exact ⟨rfl, rfl⟩
theorem c_X6_moves (hW : aa_W r dy σ) (hX : XP P hs σ.1) {s h : Nat} (hh : h ≤ 3) : aa_SX mX6_moves 2 [.ref 7, .int (nI s), .int (nI h)] σ (some (.int (nI (pl_mv P h s)))) σ := by
  have hn := hX.n14
  have hb := hX.b2
  have loop : ∀ f k acc, pl_b P - k < f → k ≤ pl_b P → acc = bm (pl_n P + k) (pl_lg P h s) → aa_V mX6_moves 2 10 [some (.ref 7), some (.int (nI s)), some (.int (nI h)), some (.int (nI acc)), some (.int (nI k))] [] σ (fun r1 σ1 => r1 = some (.int (nI (pl_mv P h s))) ∧ σ1 = σ) := by
    intro f
    induction f with
    | zero => intro k acc h1; omega
    | succ f ih =>
      intro k acc h1 h2 h3
      refine aa_go (aa_iload4 iX6_moves_10) (aa_go (aa_aload0 iX6_moves_12) (aa_go (aa_getE iX6_moves_13 fl_X6_55 (sh_7 hW) rfl hX.b) ?_))
      refine aa_ic_geN iX6_moves_16 (by omega) (by omega) (fun h4 => ?_) (fun h4 => ?_)
      · skip
        have e : k = pl_b P := by omega
        subst e
        refine aa_go (aa_iload3 iX6_moves_73) ?_
        refine aa_iret iX6_moves_74 rfl ?_
        exact ⟨by rw [h3]; rfl, rfl⟩
      · skip
        have hk : pl_k P k < pl_n P := hX.kn h4
        have key : pl_lg P h s (pl_n P + k) = (decide (s &&& pl_st P (pl_n P + k) = 0) && decide (bd (pl_u P (pl_k P k)) s = 0)) := pl_lg_b h4
        have lt1 : s &&& pl_st P (pl_n P + k) < 2147483648 := by
          apply bb_and_r
          have h9 : pl_st P (pl_n P + k) < 2 ^ 16 := bb_or (bb_p2 (by rw [Nat.add_sub_cancel_left]; omega)) (bb_p2 (by omega))
          omega
        have lt2 : bd (pl_u P (pl_k P k)) s < 2147483648 := by
          apply bb_bd
          have h9 := (hX.ok.2.2.1 _ hk).2.2.2
          have h10 := pw14 (k := pl_k P k) (by omega)
          omega
        refine aa_go (aa_iload1 iX6_moves_19) (aa_go (aa_aload0 iX6_moves_20) (aa_go (aa_getR iX6_moves_21 fl_X6_36 (sh_7 hW) rfl) (aa_go (aa_aload0 iX6_moves_24) (aa_go (aa_getE iX6_moves_25 fl_X6_52 (sh_7 hW) rfl hX.n) (aa_go (aa_iload4 iX6_moves_28) (aa_go (aa_iaddN iX6_moves_30 ) (aa_go (aa_ialE iX6_moves_31 (sh_16 hW) (by omega) (by omega) ((hX.c2 (by omega) (by omega)).2)) ?_)))))))
        refine aa_go (aa_iandN iX6_moves_32 ) ?_
        refine aa_if_neN iX6_moves_33 lt1 (fun h5 => ?_) (fun h5 => ?_)
        · skip
          refine aa_go (aa_iincN4 (k := 1) iX6_moves_67 rfl (by decide)) (aa_go (aa_goto iX6_moves_70) ?_)
          refine ih (k + 1) acc (by omega) (by omega) ?_
          rw [h3, show pl_n P + (k + 1) = pl_n P + k + 1 by omega, bm, key, decide_eq_false h5]
          simp
        · skip
          refine aa_go (aa_aload0 iX6_moves_36) (aa_go (aa_getR iX6_moves_37 fl_X6_18 (sh_7 hW) rfl) (aa_go (aa_aload0 iX6_moves_40) (aa_go (aa_getR iX6_moves_41 fl_X6_27 (sh_7 hW) rfl) (aa_go (aa_iload4 iX6_moves_44) (aa_go (aa_ialE iX6_moves_46 (sh_13 hW) (by omega) (by omega) (hX.bk h4)) (aa_go (aa_ialE iX6_moves_47 (sh_10 hW) (by omega) (by omega) ((hX.it hk).2.2.1)) (aa_go (aa_iload1 iX6_moves_48) ?_)))))))
          refine aa_go (aa_iconst iX6_moves_49 ki_m1) (aa_go (aa_ixor iX6_moves_50) (aa_go (aa_iandC iX6_moves_51) ?_))
          refine aa_if_neN iX6_moves_52 lt2 (fun h6 => ?_) (fun h6 => ?_)
          · skip
            refine aa_go (aa_iincN4 (k := 1) iX6_moves_67 rfl (by decide)) (aa_go (aa_goto iX6_moves_70) ?_)
            refine ih (k + 1) acc (by omega) (by omega) ?_
            rw [h3, show pl_n P + (k + 1) = pl_n P + k + 1 by omega, bm, key, decide_eq_false h6]
            simp
          · skip
            refine aa_go (aa_iload3 iX6_moves_55) (aa_go (aa_iconst iX6_moves_56 ki_1) (aa_go (aa_aload0 iX6_moves_57) (aa_go (aa_getE iX6_moves_58 fl_X6_52 (sh_7 hW) rfl hX.n) (aa_go (aa_iload4 iX6_moves_61) (aa_go (aa_iaddN iX6_moves_63 ) (aa_go (aa_ishlN iX6_moves_64 (by omega)) (aa_go (aa_iorN iX6_moves_65 ) ?_)))))))
            refine aa_go (aa_istore3 iX6_moves_66 rfl (by decide)) (aa_go (aa_iincN4 (k := 1) iX6_moves_67 rfl (by decide)) (aa_go (aa_goto iX6_moves_70) ?_))
            refine ih (k + 1) _ (by omega) (by omega) ?_
            rw [h3, show pl_n P + (k + 1) = pl_n P + k + 1 by omega, bm, key, decide_eq_true h5, decide_eq_true h6, Nat.one_shiftLeft]
            simp
  refine aa_E_of (by decide) 2 [some (.ref 7), some (.int (nI s)), some (.int (nI h)), none, none] rfl rfl ?_
  refine aa_go (aa_aload0 iX6_moves_0) (aa_go (aa_iload1 iX6_moves_1) (aa_go (aa_iload2 iX6_moves_2) (aa_go (aa_cVi iX6_moves_3 (c_X6_takes hW hX hh) (by decide) lc_X6_takes lk_X6_88 (sh_7 hW) rfl rfl (Nat.le_of_ble_eq_true rfl)) (aa_go (aa_istore3 iX6_moves_6 rfl (by decide)) (aa_go (aa_iconst iX6_moves_7 ki_0) (aa_go (aa_istore4 iX6_moves_8 rfl (by decide)) ?_))))))
  exact loop (pl_b P + 1) 0 _ (by omega) (by omega) (pl_mv_0 h s)
theorem c_X6_behind (hW : aa_W r dy σ) (hX : XP P hs σ.1) {s j : Nat} (hj : j < pl_n P + pl_b P) : aa_SX mX6_behind 1 [.ref 7, .int (nI s), .int (nI j)] σ (some (.int (nI (pl_nx P s j)))) σ := by
  have hn := hX.n14
  have hb := hX.b2
  refine aa_E_of (by decide) 0 [some (.ref 7), some (.int (nI s)), some (.int (nI j))] rfl rfl ?_
  refine aa_go (aa_iload2 iX6_behind_0) ?_
  refine aa_go (aa_if_ltN iX6_behind_1 (by omega)) ?_
  refine aa_go (aa_iload2 iX6_behind_4) (aa_go (aa_bipush iX6_behind_5 kb_16) ?_)
  refine aa_ic_geN iX6_behind_7 (by omega) (by omega) (fun h1 => ?_) (fun h1 => ?_)
  · skip
    omega
  · skip
    by_cases h2 : j < pl_n P
    · skip
      refine aa_go (aa_iload1 iX6_behind_10) (aa_go (aa_aload0 iX6_behind_11) (aa_go (aa_getR iX6_behind_12 fl_X6_33 (sh_7 hW) rfl) (aa_go (aa_iload2 iX6_behind_15) (aa_go (aa_ialE iX6_behind_16 (sh_15 hW) (by omega) (by omega) ((hX.c1 h2).1)) (aa_go (aa_iconst iX6_behind_17 ki_m1) (aa_go (aa_ixor iX6_behind_18) (aa_go (aa_iandC iX6_behind_19) ?_)))))))
      refine aa_go (aa_aload0 iX6_behind_20) (aa_go (aa_getR iX6_behind_21 fl_X6_36 (sh_7 hW) rfl) (aa_go (aa_iload2 iX6_behind_24) (aa_go (aa_ialE iX6_behind_25 (sh_16 hW) (by omega) (by omega) ((hX.c1 h2).2)) (aa_go (aa_iorN iX6_behind_26 ) (aa_go (aa_goto iX6_behind_27) ?_)))))
      refine aa_iret iX6_behind_31 rfl ?_
      exact ⟨by rw [pl_nx, if_pos h2, Nat.or_zero], rfl⟩
    · skip
      refine aa_go (aa_iload1 iX6_behind_10) (aa_go (aa_aload0 iX6_behind_11) (aa_go (aa_getR iX6_behind_12 fl_X6_33 (sh_7 hW) rfl) (aa_go (aa_iload2 iX6_behind_15) (aa_go (aa_ialE iX6_behind_16 (sh_15 hW) (by omega) (by omega) ((hX.c2 (by omega) hj).1)) (aa_go (aa_iconst iX6_behind_17 ki_m1) (aa_go (aa_ixor iX6_behind_18) (aa_go (aa_iandC iX6_behind_19) ?_)))))))
      refine aa_go (aa_aload0 iX6_behind_20) (aa_go (aa_getR iX6_behind_21 fl_X6_36 (sh_7 hW) rfl) (aa_go (aa_iload2 iX6_behind_24) (aa_go (aa_ialE iX6_behind_25 (sh_16 hW) (by omega) (by omega) ((hX.c2 (by omega) hj).2)) (aa_go (aa_iorN iX6_behind_26 ) (aa_go (aa_goto iX6_behind_27) ?_)))))
      refine aa_iret iX6_behind_31 rfl ?_
      refine ⟨?_, rfl⟩
      rw [pl_nx, if_neg h2, show bd s 0 = s by simp [bd]]
theorem c_X6_can (hW : aa_W r dy σ) (hX : XP P hs σ.1) {s h j : Nat} (hh : h ≤ 3) (hj : j < 2147483648) : aa_SX mX6_can 3 [.ref 7, .int (nI s), .int (nI h), .int (nI j)] σ (some (.int (nI (decide (j < pl_n P + pl_b P) && pl_lg P h s j).toNat))) σ := by
  have hn := hX.n14
  have hb := hX.b2
  have h9 := pl_mv_lt P h s
  have h10 := pw16 (k := pl_n P + pl_b P) (by omega)
  refine aa_E_of (by decide) 0 [some (.ref 7), some (.int (nI s)), some (.int (nI h)), some (.int (nI j))] rfl rfl ?_
  refine aa_go (aa_iload3 iX6_can_0) ?_
  refine aa_go (aa_if_ltN iX6_can_1 (by omega)) ?_
  refine aa_go (aa_iload3 iX6_can_4) (aa_go (aa_aload0 iX6_can_5) (aa_go (aa_cVi iX6_can_6 (c_X6_steps hW hX) (by decide) lc_X6_steps lk_X6_91 (sh_7 hW) rfl rfl (Nat.le_of_ble_eq_true rfl)) ?_))
  refine aa_ic_geN iX6_can_9 (by omega) (by omega) (fun h1 => ?_) (fun h1 => ?_)
  · skip
    refine aa_go (aa_iconst iX6_can_29 ki_0) ?_
    refine aa_zretF iX6_can_30 rfl ?_
    exact ⟨by rw [decide_eq_false (by omega)]; rfl, rfl⟩
  · skip
    refine aa_go (aa_aload0 iX6_can_12) (aa_go (aa_iload1 iX6_can_13) (aa_go (aa_iload2 iX6_can_14) (aa_go (aa_cVi iX6_can_15 (c_X6_moves hW hX hh) (by decide) lc_X6_moves lk_X6_94 (sh_7 hW) rfl rfl (Nat.le_of_ble_eq_true rfl)) (aa_go (aa_iload3 iX6_can_18) (aa_go (aa_ishrN iX6_can_19 (by omega) (by omega)) (aa_go (aa_iconst iX6_can_20 ki_1) (aa_go (aa_ibit iX6_can_21) ?_)))))))
    refine aa_if_eqB iX6_can_22 (fun h2 => ?_) (fun h2 => ?_)
    · skip
      refine aa_go (aa_iconst iX6_can_29 ki_0) ?_
      refine aa_zretF iX6_can_30 rfl ?_
      refine ⟨?_, rfl⟩
      rw [pl_mv, bm_bit, decide_eq_true h1] at h2
      rw [decide_eq_true h1, h2]; rfl
    · skip
      refine aa_go (aa_iconst iX6_can_25 ki_1) (aa_go (aa_goto iX6_can_26) ?_)
      refine aa_zretT iX6_can_30 rfl ?_
      refine ⟨?_, rfl⟩
      rw [pl_mv, bm_bit, decide_eq_true h1] at h2
      rw [decide_eq_true h1, h2]; rfl
theorem c_X6_canM (hW : aa_W r dy σ) {s h : Nat} : aa_SX mX6_can 3 [.ref 7, .int (nI s), .int (nI h), .int (-1)] σ (some (.int (nI false.toNat))) σ := by
  refine aa_E_of (by decide) 0 [some (.ref 7), some (.int (nI s)), some (.int (nI h)), some (.int (-1))] rfl rfl ?_
  refine aa_go (aa_iload3 iX6_can_0) ?_
  refine aa_go (aa_if_ltT iX6_can_1 (by decide)) ?_
  refine aa_go (aa_iconst iX6_can_29 ki_0) ?_
  refine aa_zretF iX6_can_30 rfl ?_
  exact ⟨rfl, rfl⟩
theorem c_X6_justThese (hW : aa_W r dy σ) (hX : XP P hs σ.1) {s : Nat} : aa_SX mX6_justThese 2 [.ref 7, .int (nI s)] σ (some (.int (nI (s &&& (2 ^ pl_n P - 1) ||| (2 ^ pl_b P - 1) <<< pl_n P)))) σ := by
  refine aa_E_of (by decide) 0 [some (.ref 7), some (.int (nI s))] rfl rfl ?_
  refine aa_go (aa_iload1 iX6_justThese_0) (aa_go (aa_aload0 iX6_justThese_1) (aa_go (aa_cVi iX6_justThese_2 (c_X6_full hW hX) (by decide) lc_X6_full lk_X6_73 (sh_7 hW) rfl rfl (Nat.le_of_ble_eq_true rfl)) (aa_go (aa_iandN iX6_justThese_5 ) (aa_go (aa_aload0 iX6_justThese_6) (aa_go (aa_cVi iX6_justThese_7 (c_X6_allPutBack hW hX) (by decide) lc_X6_allPutBack lk_X6_85 (sh_7 hW) rfl rfl (Nat.le_of_ble_eq_true rfl)) (aa_go (aa_iorN iX6_justThese_10 ) ?_))))))
  refine aa_iret iX6_justThese_11 rfl ?_
  exact ⟨rfl, rfl⟩
theorem c_X6_inHeap (hW : aa_W r dy σ) (hX : XP P hs σ.1) {s k q : Nat} (hk : hs[k]? = some q) : aa_SX mX6_inHeap 2 [.ref 7, .int (nI s), .int (nI k)] σ (some (.int (nI (s &&& pl_hm P q ||| bd ((2 ^ pl_b P - 1) <<< pl_n P) (pl_hm P q))))) σ := by
  have h14 := hX.h14
  have hl := (List.getElem?_eq_some_iff.mp hk).1
  refine aa_E_of (by decide) 1 [some (.ref 7), some (.int (nI s)), some (.int (nI k)), none] rfl rfl ?_
  refine aa_go (aa_iload2 iX6_inHeap_0) ?_
  refine aa_go (aa_if_ltN iX6_inHeap_1 (by omega)) ?_
  refine aa_go (aa_iload2 iX6_inHeap_4) (aa_go (aa_aload0 iX6_inHeap_5) (aa_go (aa_getE iX6_inHeap_6 fl_X6_48 (sh_7 hW) rfl hX.hh) ?_))
  refine aa_ic_geN iX6_inHeap_9 (by omega) (by omega) (fun h1 => ?_) (fun h1 => ?_)
  · skip
    omega
  · skip
    refine aa_go (aa_aload0 iX6_inHeap_12) (aa_go (aa_getR iX6_inHeap_13 fl_X6_45 (sh_7 hW) rfl) (aa_go (aa_iload2 iX6_inHeap_16) (aa_go (aa_ialE iX6_inHeap_17 (sh_19 hW) (by omega) (by omega) (hX.hk hk)) (aa_go (aa_goto iX6_inHeap_18) (aa_go (aa_istore3 iX6_inHeap_22 rfl (by decide)) (aa_go (aa_iload1 iX6_inHeap_23) (aa_go (aa_iload3 iX6_inHeap_24) ?_)))))))
    refine aa_go (aa_iandN iX6_inHeap_25 ) (aa_go (aa_aload0 iX6_inHeap_26) (aa_go (aa_cVi iX6_inHeap_27 (c_X6_allPutBack hW hX) (by decide) lc_X6_allPutBack lk_X6_85 (sh_7 hW) rfl rfl (Nat.le_of_ble_eq_true rfl)) (aa_go (aa_iload3 iX6_inHeap_30) (aa_go (aa_iconst iX6_inHeap_31 ki_m1) (aa_go (aa_ixor iX6_inHeap_32) (aa_go (aa_iandC iX6_inHeap_33) (aa_go (aa_iorN iX6_inHeap_34 ) ?_)))))))
    refine aa_iret iX6_inHeap_35 rfl ?_
    exact ⟨rfl, rfl⟩
theorem c_X6_isBack (hW : aa_W r dy σ) (hX : XP P hs σ.1) {k : Nat} (hk : k < 2147483648) : aa_SX mX6_isBack 1 [.ref 7, .int (nI k)] σ (some (.int (nI (pl_bkB P k).toNat))) σ := by
  have hn := hX.n14
  have hb := hX.b2
  have H17 : (0 < pl_b P → ¬ pl_k P 0 = k) → aa_V mX6_isBack 1 17 [some (.ref 7), some (.int (nI k))] [] σ (fun r1 σ1 => r1 = some (.int (nI (pl_bkB P k).toNat)) ∧ σ1 = σ) := by
    intro h0
    have e0 : (decide (0 < pl_b P) && pl_k P 0 == k) = false := by
      rw [Bool.and_eq_false_iff]
      by_cases h1 : 0 < pl_b P
      · exact Or.inr (beq_eq_false_iff_ne.mpr (h0 h1))
      · exact Or.inl (decide_eq_false h1)
    refine aa_go (aa_aload0 iX6_isBack_17) (aa_go (aa_getE iX6_isBack_18 fl_X6_55 (sh_7 hW) rfl hX.b) (aa_go (aa_iconst iX6_isBack_21 ki_1) ?_))
    refine aa_ic_leN iX6_isBack_22 (by omega) (by omega) (fun h1 => ?_) (fun h1 => ?_)
    · skip
      refine aa_go (aa_iconst iX6_isBack_39 ki_0) ?_
      refine aa_zretF iX6_isBack_40 rfl ?_
      exact ⟨by rw [pl_bkB, e0, decide_eq_false (by omega)]; rfl, rfl⟩
    · skip
      have hk1 := hX.kn h1
      refine aa_go (aa_aload0 iX6_isBack_25) (aa_go (aa_getR iX6_isBack_26 fl_X6_27 (sh_7 hW) rfl) (aa_go (aa_iconst iX6_isBack_29 ki_1) (aa_go (aa_ialE iX6_isBack_30 (sh_13 hW) (by omega) (by omega) (hX.bk h1)) (aa_go (aa_iload1 iX6_isBack_31) ?_))))
      refine aa_ic_neN iX6_isBack_32 (by omega) (by omega) (fun h2 => ?_) (fun h2 => ?_)
      · skip
        refine aa_go (aa_iconst iX6_isBack_39 ki_0) ?_
        refine aa_zretF iX6_isBack_40 rfl ?_
        exact ⟨by rw [pl_bkB, e0, beq_eq_false_iff_ne.mpr h2, Bool.and_false]; rfl, rfl⟩
      · skip
        refine aa_go (aa_iconst iX6_isBack_35 ki_1) (aa_go (aa_goto iX6_isBack_36) ?_)
        refine aa_zretT iX6_isBack_40 rfl ?_
        exact ⟨by rw [pl_bkB, e0, decide_eq_true h1, h2]; simp, rfl⟩
  refine aa_E_of (by decide) 0 [some (.ref 7), some (.int (nI k))] rfl rfl ?_
  refine aa_go (aa_aload0 iX6_isBack_0) (aa_go (aa_getE iX6_isBack_1 fl_X6_55 (sh_7 hW) rfl hX.b) ?_)
  refine aa_if_leN iX6_isBack_4 (by omega) (fun h1 => ?_) (fun h1 => ?_)
  · skip
    exact H17 (fun q => absurd h1 (by omega))
  · skip
    have hk1 := hX.kn h1
    refine aa_go (aa_aload0 iX6_isBack_7) (aa_go (aa_getR iX6_isBack_8 fl_X6_27 (sh_7 hW) rfl) (aa_go (aa_iconst iX6_isBack_11 ki_0) (aa_go (aa_ialE iX6_isBack_12 (sh_13 hW) (by omega) (by omega) (hX.bk h1)) (aa_go (aa_iload1 iX6_isBack_13) ?_))))
    refine aa_ic_eqN iX6_isBack_14 (by omega) (by omega) (fun h2 => ?_) (fun h2 => ?_)
    · skip
      refine aa_go (aa_iconst iX6_isBack_35 ki_1) (aa_go (aa_goto iX6_isBack_36) ?_)
      refine aa_zretT iX6_isBack_40 rfl ?_
      exact ⟨by rw [pl_bkB, decide_eq_true h1, h2]; simp, rfl⟩
    · skip
      exact H17 (fun _ => h2)
end
