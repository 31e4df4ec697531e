/-- what hangs together -/
def pl_gr (P : pl_T) (t s : Nat) : Nat := s ||| (pl_orA (pl_tc P) s (pl_n P) &&& t)
def pl_it (P : pl_T) (t : Nat) : Nat → Nat → Nat
  | 0, s => s
  | k + 1, s => pl_it P t k (pl_gr P t s)
def pl_hp (P : pl_T) (t i : Nat) : Nat := pl_it P t (pl_n P) (2 ^ i &&& t)
theorem pl_it_fix {P : pl_T} {t s : Nat} (h : pl_gr P t s = s) : ∀ k, pl_it P t k s = s
  | 0 => rfl
  | k + 1 => by rw [pl_it, h, pl_it_fix h k]
theorem pl_tc_lt (P : pl_T) (k : Nat) : pl_tc P k < 2 ^ pl_n P := bm_lt _ _
theorem pl_orA_lt {f : Nat → Nat} {s n : Nat} (h : ∀ k, f k < 2 ^ n) : ∀ k, pl_orA f s k < 2 ^ n
  | 0 => Nat.two_pow_pos n
  | k + 1 => by
    rw [pl_orA]
    split
    · exact bb_or (pl_orA_lt h k) (h k)
    · exact pl_orA_lt h k
theorem pl_sm_or {P : pl_T} {s i : Nat} (h : s.testBit i = false) : ∀ k, pl_sm P (s ||| 2 ^ i) k = pl_sm P s k + (if i < k then pl_w P i else 0)
  | 0 => by simp [pl_sm]
  | k + 1 => by
    rw [pl_sm, pl_sm, pl_sm_or h k, Nat.testBit_or, bb_tp]
    rcases Nat.lt_trichotomy i k with h1 | h1 | h1
    · simp [h1, show i ≠ k by omega, show i < k + 1 by omega]; omega
    · subst h1; simp [h]
    · simp [show ¬ i < k by omega, show i ≠ k by omega, show ¬ i < k + 1 by omega]
theorem bb_addor {p i : Nat} (h : p < 2 ^ i) : p ||| 2 ^ i = p + 2 ^ i := by
  have := Nat.two_pow_add_eq_or_of_lt h 1
  rw [Nat.mul_one] at this
  rw [Nat.add_comm, this, Nat.or_comm]
section
variable {r : Nat → Nat} {dy : List aa_Shp} {σ : aa_St} {P : pl_T} {hs : List Nat}
/-- heapOf needs of the pile only how many there are and what they touch -/
theorem c_X6_heapOf (hW : aa_W r dy σ) (hn : pl_n P ≤ 14) (e1 : σ.1 7 13 = nI (pl_n P)) (e2 : ∀ k, k < pl_n P → σ.1 12 k = nI (pl_tc P k)) {i t : Nat} (hi : i < pl_n P) (ht : t < 65536) : aa_SX mX6_heapOf 1 [.ref 7, .int (nI i), .int (nI t)] σ (some (.int (nI (pl_hp P t i)))) σ := by
  have lo : ∀ s k, pl_orA (pl_tc P) s k < 65536 := fun s k => Nat.lt_of_lt_of_le (pl_orA_lt (pl_tc_lt P) k) (pw16 (by omega))
  have hg : ∀ s, s < 65536 → pl_gr P t s < 65536 := fun s hs => bb_or (k := 16) hs (bb_and_l (lo s _))
  have outer : ∀ f k s x5 x6, pl_n P - k < f → k ≤ pl_n P → s < 65536 → aa_V mX6_heapOf 1 9 [some (.ref 7), some (.int (nI i)), some (.int (nI t)), some (.int (nI s)), some (.int (nI k)), x5, x6] [] σ (fun r1 σ1 => r1 = some (.int (nI (pl_it P t (pl_n P - k) s))) ∧ σ1 = σ) := by
    intro f
    induction f with
    | zero => intro k s x5 x6 h1; omega
    | succ f ih =>
      intro k s x5 x6 h1 h2 h3
      refine aa_go (aa_iload4 iX6_heapOf_9) (aa_go (aa_aload0 iX6_heapOf_11) (aa_go (aa_getE iX6_heapOf_12 fl_X6_52 (sh_7 hW) rfl e1) ?_))
      refine aa_ic_geN iX6_heapOf_15 (by omega) (by omega) (fun h4 => ?_) (fun h4 => ?_)
      · skip
        refine aa_go (aa_iload3 iX6_heapOf_80) ?_
        refine aa_iret iX6_heapOf_81 rfl ?_
        exact ⟨by rw [show pl_n P - k = 0 by omega]; rfl, rfl⟩
      · skip
        have inner : ∀ f j m, pl_n P - j < f → j ≤ pl_n P → m = s ||| (pl_orA (pl_tc P) s j &&& t) → aa_V mX6_heapOf 1 24 [some (.ref 7), some (.int (nI i)), some (.int (nI t)), some (.int (nI s)), some (.int (nI k)), some (.int (nI m)), some (.int (nI j))] [] σ (fun r1 σ1 => r1 = some (.int (nI (pl_it P t (pl_n P - k) s))) ∧ σ1 = σ) := by
          intro f
          induction f with
          | zero => intro j m h1; omega
          | succ f ih2 =>
            intro j m g1 g2 g3
            refine aa_go (aa_iload6 iX6_heapOf_24) (aa_go (aa_aload0 iX6_heapOf_26) (aa_go (aa_getE iX6_heapOf_27 fl_X6_52 (sh_7 hW) rfl e1) ?_))
            refine aa_ic_geN iX6_heapOf_30 (by omega) (by omega) (fun g4 => ?_) (fun g4 => ?_)
            · skip
              have e : j = pl_n P := by omega
              subst e
              have g3 : m = pl_gr P t s := g3
              have g5 := hg s h3
              refine aa_go (aa_iload5 iX6_heapOf_62) (aa_go (aa_iload3 iX6_heapOf_64) ?_)
              refine aa_ic_neN iX6_heapOf_65 (by omega) (by omega) (fun g6 => ?_) (fun g6 => ?_)
              · skip
                refine aa_go (aa_iload5 iX6_heapOf_71) (aa_go (aa_istore3 iX6_heapOf_73 rfl (by decide)) (aa_go (aa_iincN4 (k := 1) iX6_heapOf_74 rfl (by decide)) (aa_go (aa_goto iX6_heapOf_77) ?_)))
                have := ih (k + 1) m (some (.int (nI m))) (some (.int (nI (pl_n P)))) (by omega) (by omega) (by omega)
                rw [show pl_it P t (pl_n P - k) s = pl_it P t (pl_n P - (k + 1)) m by rw [show pl_n P - k = pl_n P - (k + 1) + 1 by omega, pl_it, g3]]
                exact this
              · skip
                refine aa_go (aa_goto iX6_heapOf_68) (aa_go (aa_iload3 iX6_heapOf_80) ?_)
                refine aa_iret iX6_heapOf_81 rfl ?_
                exact ⟨by rw [pl_it_fix (by rw [← g3]; exact g6)], rfl⟩
            · skip
              refine aa_go (aa_iload3 iX6_heapOf_33) (aa_go (aa_iload6 iX6_heapOf_34) (aa_go (aa_ishrN iX6_heapOf_36 (by omega) (by omega)) (aa_go (aa_iconst iX6_heapOf_37 ki_1) (aa_go (aa_ibit iX6_heapOf_38) ?_))))
              refine aa_if_eqB iX6_heapOf_39 (fun g5 => ?_) (fun g5 => ?_)
              · skip
                refine aa_go (aa_iincN6 (k := 1) iX6_heapOf_56 rfl (by decide)) (aa_go (aa_goto iX6_heapOf_59) ?_)
                exact ih2 (j + 1) m (by omega) (by omega) (by rw [g3, pl_orA, g5]; rfl)
              · skip
                refine aa_go (aa_iload5 iX6_heapOf_42) (aa_go (aa_aload0 iX6_heapOf_44) (aa_go (aa_getR iX6_heapOf_45 fl_X6_24 (sh_7 hW) rfl) (aa_go (aa_iload6 iX6_heapOf_48) (aa_go (aa_ialE iX6_heapOf_50 (sh_12 hW) (by omega) (by omega) (e2 j g4)) (aa_go (aa_iload2 iX6_heapOf_51) (aa_go (aa_iandN iX6_heapOf_52 ) (aa_go (aa_iorN iX6_heapOf_53 ) ?_)))))))
                refine aa_go (aa_istore5 iX6_heapOf_54 rfl (by decide)) (aa_go (aa_iincN6 (k := 1) iX6_heapOf_56 rfl (by decide)) (aa_go (aa_goto iX6_heapOf_59) ?_))
                refine ih2 (j + 1) _ (by omega) (by omega) ?_
                rw [g3, pl_orA, g5]
                simp only [if_true]
                apply bb_ext
                intro q
                simp only [Nat.testBit_or, Nat.testBit_and]
                cases s.testBit q <;> cases (pl_orA (pl_tc P) s j).testBit q <;> cases (pl_tc P j).testBit q <;> cases t.testBit q <;> rfl
        refine aa_go (aa_iload3 iX6_heapOf_18) (aa_go (aa_istore5 iX6_heapOf_19 rfl (by decide)) (aa_go (aa_iconst iX6_heapOf_21 ki_0) (aa_go (aa_istore6 iX6_heapOf_22 rfl (by decide)) ?_)))
        exact inner (pl_n P + 1) 0 s (by omega) (by omega) (by simp [pl_orA])
  have h14 := pw14 (k := i) (by omega)
  refine aa_E_of (by decide) 4 [some (.ref 7), some (.int (nI i)), some (.int (nI t)), none, none, none, none] rfl rfl ?_
  refine aa_go (aa_iconst iX6_heapOf_0 ki_1) (aa_go (aa_iload1 iX6_heapOf_1) (aa_go (aa_ishlN iX6_heapOf_2 (by omega)) (aa_go (aa_iload2 iX6_heapOf_3) (aa_go (aa_iandN iX6_heapOf_4 ) ?_))))
  refine aa_go (aa_top (y := nI (2 ^ i &&& t)) (by rw [Nat.one_shiftLeft])) ?_
  refine aa_go (aa_istore3 iX6_heapOf_5 rfl (by decide)) (aa_go (aa_iconst iX6_heapOf_6 ki_0) (aa_go (aa_istore4 iX6_heapOf_7 rfl (by decide)) ?_))
  exact outer (pl_n P + 1) 0 _ none none (by omega) (by omega) (bb_and_r ht)
theorem c_X6_setWorth (hW : aa_W r dy σ) (hX : XP P hs σ.1) {k : Nat} (hk : k < pl_n P) {v : Int32} : aa_SX mX6_setWorth 2 [.ref 7, .int (nI k), .int v] σ none (aa_sI σ 8 k v) := by
  have hn := hX.n14
  refine aa_E_of (by decide) 0 [some (.ref 7), some (.int (nI k)), some (.int (v))] rfl rfl ?_
  refine aa_go (aa_aload0 iX6_setWorth_0) (aa_go (aa_iload1 iX6_setWorth_1) (aa_go (aa_cVi iX6_setWorth_2 (c_X6_hasN hW hX (by omega)) (by decide) lc_X6_has lk_X6_81 (sh_7 hW) rfl rfl (Nat.le_of_ble_eq_true rfl)) ?_))
  refine aa_if_eqB iX6_setWorth_5 (fun h1 => ?_) (fun h1 => ?_)
  · skip
    exact absurd (of_decide_eq_false h1) (by omega)
  · skip
    refine aa_go (aa_aload0 iX6_setWorth_8) (aa_go (aa_getR iX6_setWorth_9 fl_X6_11 (sh_7 hW) rfl) (aa_go (aa_iload1 iX6_setWorth_12) (aa_go (aa_iload2 iX6_setWorth_13) (aa_go (aa_iasN iX6_setWorth_14 (sh_8 hW) (by omega) (by omega)) ?_))))
    refine aa_vret iX6_setWorth_15 rfl ?_
    exact ⟨rfl, rfl⟩
/-- the sums out of the worths of row 8 -/
theorem c_X6_addUp (hW : aa_W r dy σ) (h0 : ∀ k, k < 14 → σ.1 8 k = nI (pl_w P k) ∧ pl_w P k ≤ 9) (h1 : σ.1 17 0 = nI 0) (h2 : σ.1 18 0 = nI 0) : ∃ σ', (σ'.2 = σ.2 ∧ (∀ a, a ≠ 17 → a ≠ 18 → σ'.1 a = σ.1 a) ∧ XU P σ'.1) ∧ aa_SX mX6_addUp 1 [.ref 7] σ none σ' := by
  have sle : ∀ s k, k ≤ 14 → pl_sm P s k ≤ 9 * k := by
    intro s k
    induction k with
    | zero => intro _; simp [pl_sm]
    | succ k ih =>
      intro hk
      have h3 := ih (by omega)
      have h4 := (h0 k (by omega)).2
      rw [pl_sm]
      split <;> omega
  have outer : ∀ f i σ1 y2 y3, 7 - i < f → i ≤ 7 → σ1.2 = σ.2 → (∀ a, a ≠ 17 → a ≠ 18 → σ1.1 a = σ.1 a) → (∀ m, m < 2 ^ i → σ1.1 17 m = nI (pl_sm P m 7) ∧ σ1.1 18 m = nI (pl_sm P (m <<< 7) 14)) → aa_V mX6_addUp 1 2 [some (.ref 7), some (.int (nI i)), y2, y3] [] σ1 (fun r1 σ' => r1 = none ∧ (σ'.2 = σ.2 ∧ (∀ a, a ≠ 17 → a ≠ 18 → σ'.1 a = σ.1 a) ∧ XU P σ'.1)) := by
    intro f
    induction f with
    | zero => intro i σ1 y2 y3 g1; omega
    | succ f ih =>
      intro i σ1 y2 y3 g1 g2 g3 g4 g5
      refine aa_go (aa_iload1 iX6_addUp_2) (aa_go (aa_bipush iX6_addUp_3 kb_7) ?_)
      refine aa_ic_geN iX6_addUp_5 (by omega) (by omega) (fun g6 => ?_) (fun g6 => ?_)
      · skip
        have e : i = 7 := by omega
        subst e
        refine aa_vret iX6_addUp_76 rfl ?_
        exact ⟨rfl, g3, g4, g5⟩
      · skip
        have p7 : 2 ^ i ≤ 64 := pw_lt (n := 6) (by omega)
        have p0 := Nat.two_pow_pos i
        have inner : ∀ f p σ2, 2 ^ i - p < f → p ≤ 2 ^ i → σ2.2 = σ.2 → (∀ a, a ≠ 17 → a ≠ 18 → σ2.1 a = σ.1 a) → (∀ m, m < 2 ^ i + p → σ2.1 17 m = nI (pl_sm P m 7) ∧ σ2.1 18 m = nI (pl_sm P (m <<< 7) 14)) → aa_V mX6_addUp 1 14 [some (.ref 7), some (.int (nI i)), some (.int (nI (2 ^ i))), some (.int (nI p))] [] σ2 (fun r1 σ' => r1 = none ∧ (σ'.2 = σ.2 ∧ (∀ a, a ≠ 17 → a ≠ 18 → σ'.1 a = σ.1 a) ∧ XU P σ'.1)) := by
          intro f
          induction f with
          | zero => intro p σ2 k1; omega
          | succ f ih2 =>
            intro p σ2 k1 k2 k3 k4 k5
            have hW2 : aa_W r dy σ2 := by unfold aa_W; rw [k3]; exact hW
            refine aa_go (aa_iload3 iX6_addUp_14) (aa_go (aa_iload2 iX6_addUp_15) ?_)
            refine aa_ic_geN iX6_addUp_16 (by omega) (by omega) (fun k6 => ?_) (fun k6 => ?_)
            · skip
              have e : p = 2 ^ i := by omega
              refine aa_go (aa_iincN1 (k := 1) iX6_addUp_70 rfl (by decide)) (aa_go (aa_goto iX6_addUp_73) ?_)
              refine ih (i + 1) σ2 _ _ (by omega) (by omega) k3 k4 (fun m hm => k5 m ?_)
              rw [Nat.pow_succ] at hm
              omega
            · skip
              have q1 := k5 p (by omega)
              have r8 : σ2.1 8 = σ.1 8 := k4 8 (by decide) (by decide)
              have ep : p ||| 2 ^ i = p + 2 ^ i := bb_addor k6
              have tb : p.testBit i = false := bb_hi k6 (Nat.le_refl i)
              have s1 : pl_sm P (p + 2 ^ i) 7 = pl_sm P p 7 + pl_w P i := by
                rw [← ep, pl_sm_or tb, if_pos g6]
              have s2 : pl_sm P ((p + 2 ^ i) <<< 7) 14 = pl_sm P (p <<< 7) 14 + pl_w P (7 + i) := by
                have e3 : (p + 2 ^ i) <<< 7 = p <<< 7 ||| 2 ^ (7 + i) := by
                  rw [← ep]
                  apply bb_ext
                  intro q
                  rw [Nat.testBit_shiftLeft, Nat.testBit_or, Nat.testBit_or, Nat.testBit_shiftLeft, bb_tp, bb_tp]
                  by_cases hq : q ≥ 7
                  · have : (i = q - 7) = (7 + i = q) := by apply propext; omega
                    simp [hq, this]
                  · simp [hq, show ¬ 7 + i = q by omega]
                have t2 : (p <<< 7).testBit (7 + i) = false := by
                  rw [Nat.testBit_shiftLeft]
                  simp [tb]
                rw [e3, pl_sm_or t2, if_pos (by omega)]
              refine aa_go (aa_aload0 iX6_addUp_19) (aa_go (aa_getR iX6_addUp_20 fl_X6_39 (sh_7 hW2) rfl) (aa_go (aa_iload3 iX6_addUp_23) (aa_go (aa_iload2 iX6_addUp_24) (aa_go (aa_iorN iX6_addUp_25 ) ?_))))
              refine aa_go (aa_top (y := nI (p + 2 ^ i)) (by rw [← ep])) ?_
              refine aa_go (aa_aload0 iX6_addUp_26) (aa_go (aa_getR iX6_addUp_27 fl_X6_39 (sh_7 hW2) rfl) (aa_go (aa_iload3 iX6_addUp_30) (aa_go (aa_ialE iX6_addUp_31 (sh_17 hW2) (by omega) (by omega) (q1.1)) (aa_go (aa_aload0 iX6_addUp_32) (aa_go (aa_getR iX6_addUp_33 fl_X6_11 (sh_7 hW2) rfl) (aa_go (aa_iload1 iX6_addUp_36) (aa_go (aa_ialE iX6_addUp_37 (sh_8 hW2) (by omega) (by omega) ((congrFun r8 i).trans (h0 i (by omega)).1)) ?_)))))))
              refine aa_go (aa_iaddN iX6_addUp_38 ) (aa_go (aa_iasN iX6_addUp_39 (sh_17 hW2) (by omega) (by omega)) (aa_go (aa_aload0 iX6_addUp_40) (aa_go (aa_getR iX6_addUp_41 fl_X6_42 (sh_7 hW2) rfl) (aa_go (aa_iload3 iX6_addUp_44) (aa_go (aa_iload2 iX6_addUp_45) (aa_go (aa_iorN iX6_addUp_46 ) ?_))))))
              refine aa_go (aa_top (y := nI (p + 2 ^ i)) (by rw [← ep])) ?_
              refine aa_go (aa_aload0 iX6_addUp_47) (aa_go (aa_getR iX6_addUp_48 fl_X6_42 (sh_7 hW2) rfl) (aa_go (aa_iload3 iX6_addUp_51) (aa_go (aa_ialE iX6_addUp_52 (sh_18 hW2) (by omega) (by omega) (q1.2)) (aa_go (aa_aload0 iX6_addUp_53) (aa_go (aa_getR iX6_addUp_54 fl_X6_11 (sh_7 hW2) rfl) (aa_go (aa_bipush iX6_addUp_57 kb_7) (aa_go (aa_iload1 iX6_addUp_59) ?_)))))))
              refine aa_go (aa_iaddN iX6_addUp_60 ) (aa_go (aa_ialE iX6_addUp_61 (sh_8 hW2) (by omega) (by omega) ((congrFun r8 (7 + i)).trans (h0 (7 + i) (by omega)).1)) (aa_go (aa_iaddN iX6_addUp_62 ) (aa_go (aa_iasN iX6_addUp_63 (sh_18 hW2) (by omega) (by omega)) (aa_go (aa_iincN3 (k := 1) iX6_addUp_64 rfl (by decide)) (aa_go (aa_goto iX6_addUp_67) ?_)))))
              refine ih2 (p + 1) _ (by omega) (by omega) k3 (fun a ha hb => ?_) (fun m hm => ?_)
              · refine Eq.trans ?_ (k4 a ha hb)
                exact (aa_u2_ne hb).trans (aa_u2_ne ha)
              · refine ⟨show (if m = p + 2 ^ i then nI (pl_sm P p 7 + pl_w P i) else σ2.1 17 m) = _ from ?_, show (if m = p + 2 ^ i then nI (pl_sm P (p <<< 7) 14 + pl_w P (7 + i)) else σ2.1 18 m) = _ from ?_⟩
                · by_cases hm2 : m = p + 2 ^ i
                  · rw [if_pos hm2, hm2, s1]
                  · rw [if_neg hm2]; exact (k5 m (by omega)).1
                · by_cases hm2 : m = p + 2 ^ i
                  · rw [if_pos hm2, hm2, s2]
                  · rw [if_neg hm2]; exact (k5 m (by omega)).2
        have hW1 : aa_W r dy σ1 := by unfold aa_W; rw [g3]; exact hW
        refine aa_go (aa_iconst iX6_addUp_8 ki_1) (aa_go (aa_iload1 iX6_addUp_9) (aa_go (aa_ishlN iX6_addUp_10 (by omega)) ?_))
        refine aa_go (aa_top (y := nI (2 ^ i)) (by rw [Nat.one_shiftLeft])) ?_
        refine aa_go (aa_istore2 iX6_addUp_11 rfl (by decide)) (aa_go (aa_iconst iX6_addUp_12 ki_0) (aa_go (aa_istore3 iX6_addUp_13 rfl (by decide)) ?_))
        exact inner (2 ^ i + 1) 0 σ1 (by omega) (by omega) g3 g4 g5
  have key : aa_V mX6_addUp 1 0 [some (.ref 7), none, none, none] [] σ (fun r1 σ' => r1 = none ∧ (σ'.2 = σ.2 ∧ (∀ a, a ≠ 17 → a ≠ 18 → σ'.1 a = σ.1 a) ∧ XU P σ'.1)) := by
    refine aa_go (aa_iconst iX6_addUp_0 ki_0) (aa_go (aa_istore1 iX6_addUp_1 rfl (by decide)) ?_)
    refine outer 8 0 σ none none (by omega) (by omega) rfl (fun _ _ _ => rfl) (fun m hm => ?_)
    have : m = 0 := by simpa using hm
    subst this
    have z : ∀ k, pl_sm P 0 k = 0 := by
      intro k
      induction k with
      | zero => rfl
      | succ k ih => rw [pl_sm, ih]; simp
    rw [h1, h2, Nat.zero_shiftLeft, z, z]
    exact ⟨rfl, rfl⟩
  obtain ⟨r1, σ', ⟨rfl, h⟩, hS⟩ := aa_S_of (avs := [.ref 7]) (by decide) 3 [some (.ref 7), none, none, none] rfl rfl key
  exact ⟨σ', h, hS⟩
end
