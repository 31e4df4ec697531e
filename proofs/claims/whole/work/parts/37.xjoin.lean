/-! BY JOINING -/
def dI : Nat → Int32
  | 0 => -1
  | k + 1 => nI k
theorem dI_dec (k : Nat) : nI k + Int32.ofInt (-1) = dI k := by
  cases k with
  | zero => decide
  | succ k =>
    show nI (k + 1) + -1 = nI k
    have : nI (k + 1) = nI k + nI 1 := (nI_add k 1).symm
    rw [this, Int32.add_assoc]
    show nI k + 0 = nI k
    exact Int32.add_zero _
def jnf (P : pl_T) (t : Nat) : Nat → Nat → Nat
  | 0, _ => 1
  | f + 1, i => 1 + xs ((List.range (pl_n P)).filter (fun j => t.testBit j && (pl_u P j).testBit i)) (jnf P t f)
def jn (P : pl_T) (t i : Nat) : Nat := jnf P t (pl_n P) i
theorem u_lt {P : pl_T} (ok : pl_ok P) {i j : Nat} (hj : j < pl_n P) (h : (pl_u P j).testBit i = true) : i < j := by
  apply Classical.byContradiction
  intro c
  rw [bb_hi (ok.2.2.1 j hj).2.2.2 (by omega)] at h
  exact absurd h (by decide)
theorem jnf_eq {P : pl_T} (ok : pl_ok P) (t : Nat) : ∀ f g i, pl_n P - i ≤ f + 1 → pl_n P - i ≤ g + 1 → jnf P t f i = jnf P t g i := by
  have nil : ∀ i, pl_n P - i ≤ 1 → (List.range (pl_n P)).filter (fun j => t.testBit j && (pl_u P j).testBit i) = [] := by
    intro i hi
    rw [List.eq_nil_iff_forall_not_mem]
    intro j hj
    rw [List.mem_filter, List.mem_range, Bool.and_eq_true] at hj
    have := u_lt ok hj.1 hj.2.2
    omega
  intro f
  induction f with
  | zero =>
    intro g i h1 h2
    cases g with
    | zero => rfl
    | succ g => rw [jnf, jnf, nil i (by omega)]; rfl
  | succ f ih =>
    intro g i h1 h2
    cases g with
    | zero => rw [jnf, jnf, nil i (by omega)]; rfl
    | succ g =>
      rw [jnf, jnf]
      congr 1
      apply xs_congr
      intro j hj
      rw [List.mem_filter, List.mem_range, Bool.and_eq_true] at hj
      have := u_lt ok hj.1 hj.2.2
      exact ih g j (by omega) (by omega)
theorem jn_eq {P : pl_T} (ok : pl_ok P) (t i : Nat) : jn P t i = 1 + xs ((List.range (pl_n P)).filter (fun j => t.testBit j && (pl_u P j).testBit i)) (jn P t) := by
  rw [jn, jnf_eq ok t (pl_n P) (pl_n P + 1) i (by omega) (by omega), jnf]
  rfl
/-- those from k on -/
def fr (n k : Nat) (c : Nat → Bool) : List Nat := (List.range' k (n - k)).filter c
theorem fr_n {n k : Nat} (c : Nat → Bool) (h : n ≤ k) : fr n k c = [] := by rw [fr, show n - k = 0 by omega]; rfl
theorem fr_s {n k : Nat} (c : Nat → Bool) (h : k < n) : fr n k c = if c k then k :: fr n (k + 1) c else fr n (k + 1) c := by
  rw [fr, show n - k = (n - (k + 1)) + 1 by omega, List.range'_succ, List.filter_cons]; rfl
theorem fr_0 (n : Nat) (c : Nat → Bool) : fr n 0 c = (List.range n).filter c := by rw [fr, List.range_eq_range']; rfl
def jr (P : pl_T) (t j : Nat) : Bool := t.testBit j && decide (pl_u P j &&& t = 0)
def jd (P : pl_T) (t : Nat) : Nat := xs ((List.range (pl_n P)).filter (jr P t)) (jn P t)
def jb (P : pl_T) (t : Nat) : Bool := (List.range (pl_n P)).any (fun j => t.testBit j && decide (1 < pl_cn (pl_u P j &&& t) 32))
theorem jn_fr {P : pl_T} (ok : pl_ok P) {t i : Nat} : jn P t i = 1 + xs (fr (pl_n P) (i + 1) (fun j => t.testBit j && (pl_u P j).testBit i)) (jn P t) := by
  rw [jn_eq ok]
  have h : ∀ d, i + 1 - d ≤ i + 1 → d ≤ i + 1 → fr (pl_n P) (i + 1 - d) (fun j => t.testBit j && (pl_u P j).testBit i) = fr (pl_n P) (i + 1) (fun j => t.testBit j && (pl_u P j).testBit i) := by
    intro d
    induction d with
    | zero => intro _ _; rfl
    | succ d ih =>
      intro h1 h2
      by_cases c : i + 1 - (d + 1) < pl_n P
      · have hc : (pl_u P (i + 1 - (d + 1))).testBit i = false := by
          cases e : (pl_u P (i + 1 - (d + 1))).testBit i with
          | false => rfl
          | true => have := u_lt ok c e; omega
        rw [fr_s _ c, hc, show i + 1 - (d + 1) + 1 = i + 1 - d by omega, ih (by omega) (by omega)]
        simp
      · rw [fr_n _ (by omega), fr_n _ (by omega)]
  have := h (i + 1) (by omega) (by omega)
  rw [Nat.sub_self, fr_0] at this
  rw [this]
theorem ex_low {a : Nat} : ∀ k, a.testBit k = true → ∃ m, m ≤ k ∧ a.testBit m = true ∧ ∀ j, j < m → a.testBit j = false := by
  intro k
  induction k using Nat.strongRecOn with
  | ind k ih =>
    intro h
    by_cases c : ∃ j, j < k ∧ a.testBit j = true
    · obtain ⟨j, h1, h2⟩ := c
      obtain ⟨m, h3, h4⟩ := ih j h1 h2
      exact ⟨m, by omega, h4⟩
    · refine ⟨k, Nat.le_refl _, h, fun j hj => ?_⟩
      cases e : a.testBit j with
      | false => rfl
      | true => exact absurd ⟨j, hj, e⟩ c
theorem ex_bit {a : Nat} (h : a ≠ 0) : ∃ k, a.testBit k = true := by
  apply Classical.byContradiction
  intro c
  apply h
  apply bb_ext
  intro i
  rw [Nat.zero_testBit]
  cases e : a.testBit i with
  | false => rfl
  | true => exact absurd ⟨i, e⟩ c
theorem cn_two {a p p' : Nat} (h1 : a.testBit p = true) (h2 : a.testBit p' = true) (hp : p < p') : ∀ k, p' < k → 2 ≤ pl_cn a k
  | 0, h => by omega
  | k + 1, h => by
    rw [pl_cn]
    by_cases c : p' = k
    · have := cn_pos (s := a) k (by omega : p < k) h1
      rw [← c, h2]
      rw [← c] at this
      simp; omega
    · have := cn_two h1 h2 hp k (by omega)
      omega
def FrI (c : Nat) (σ σ' : aa_St) : Prop := σ'.2 = σ.2 ∧ ∀ x, x ≠ c → σ'.1 x = σ.1 x
theorem FrI.rf {c : Nat} {σ : aa_St} : FrI c σ σ := ⟨rfl, fun _ _ => rfl⟩
theorem FrI.s {c : Nat} {σ σ1 : aa_St} (h : FrI c σ σ1) (k : Nat) (x : Int32) : FrI c σ (aa_sI σ1 c k x) := ⟨h.1, fun a ha => (aa_u2_ne ha).trans (h.2 a ha)⟩
theorem sI_at (σ : aa_St) (c k : Nat) (x : Int32) (p : Nat) : (aa_sI σ c k x).1 c p = if p = k then x else σ.1 c p := by
  show aa_u2 σ.1 c k x c p = _
  rw [aa_u2_eq]
section
variable {r : Nat → Nat} {dy : List aa_Shp} {σ : aa_St} {P : pl_T} {hs : List Nat}
theorem c_X3_byJoining (hW : aa_W r dy σ) (hX : XP P hs σ.1) {t : Nat} (ht : t < 2 ^ pl_n P) : ∃ σ' : aa_St, FrI 32 σ σ' ∧ aa_SX mX3_byJoining 3 [.ref 29, .int (nI t)] σ (some (.int (if jb P t then -2 else nI (jd P t)))) σ' := by
  have ok := hX.ok
  have hn := hX.n14
  have p14 := pw14 hn
  have loop : ∀ k (σ1 : aa_St) x4, k ≤ 14 → FrI 32 σ σ1 → (∀ p, p < 14 → t.testBit p = true → σ1.1 32 p = nI (xs (fr (pl_n P) k (fun j => t.testBit j && (pl_u P j).testBit p)) (jn P t))) → (∀ j, k ≤ j → j < pl_n P → t.testBit j = true → pl_cn (pl_u P j &&& t) 32 ≤ 1) → aa_V mX3_byJoining 3 26 [some (.ref 29), some (.int (nI t)), some (.int (nI (xs (fr (pl_n P) k (jr P t)) (jn P t)))), some (.int (dI k)), x4] [] σ1 (fun ra σ' => ra = some (.int (if jb P t then -2 else nI (jd P t))) ∧ FrI 32 σ σ') := by
    intro k
    induction k with
    | zero =>
      intro σ1 x4 _ hF hJ hB
      have hW1 := hW.of2 (by rw [hF.1] : σ1.2.2 = σ.2.2)
      have hj : jb P t = false := by
        rw [jb, List.any_eq_false]
        intro j hj
        rw [List.mem_range] at hj
        cases e : t.testBit j with
        | false => simp
        | true => have := hB j (by omega) hj e; simp; omega
      rw [hj, fr_0, show dI 0 = -1 from rfl]
      refine aa_go (aa_iload3 iX3_byJoining_26) ?_
      refine aa_go (aa_if_ltT iX3_byJoining_27 (by decide)) ?_
      refine aa_go (aa_iload2 iX3_byJoining_111) ?_
      refine aa_iret iX3_byJoining_112 rfl ?_
      exact ⟨rfl, hF⟩
    | succ k ih =>
      intro σ1 x4 hk hF hJ hB
      have hW1 := hW.of2 (by rw [hF.1] : σ1.2.2 = σ.2.2)
      have hX1 : XP P hs σ1.1 := hX.fr ⟨by rw [hF.2 7 (by decide)], by rw [hF.2 7 (by decide)], by rw [hF.2 7 (by decide)]⟩ (fun a h1 h2 => hF.2 a (by omega))
      rw [show dI (k + 1) = nI k from rfl]
      have ul : (if k < pl_n P then pl_u P k else 0) &&& t < 16384 := Nat.lt_of_le_of_lt Nat.and_le_right (by omega)
      refine aa_go (aa_iload3 iX3_byJoining_26) ?_
      refine aa_go (aa_if_ltN iX3_byJoining_27 (by omega)) ?_
      refine aa_go (aa_aload0 iX3_byJoining_30) (aa_go (aa_getR iX3_byJoining_31 fl_X3_31 (sh_29 hW1) rfl) (aa_go (aa_iload3 iX3_byJoining_34) (aa_go (aa_cVi iX3_byJoining_35 (c_X6_under hW1 hX1 (by omega)) (by decide) lc_X6_under lk_X3_76 (sh_7 hW1) rfl rfl (Nat.le_of_ble_eq_true rfl)) (aa_go (aa_iload1 iX3_byJoining_38) (aa_go (aa_iandN iX3_byJoining_39 ) (aa_go (aa_istore4 iX3_byJoining_40 rfl (by decide)) (aa_go (aa_iload1 iX3_byJoining_42) ?_)))))))
      refine aa_go (aa_iload3 iX3_byJoining_43) (aa_go (aa_ishrN iX3_byJoining_44 (by omega) (by omega)) (aa_go (aa_iconst iX3_byJoining_45 ki_1) (aa_go (aa_ibit iX3_byJoining_46) ?_)))
      refine aa_if_neB iX3_byJoining_47 (fun g1 => ?_) (fun g1 => ?_)
      · skip
        have hkn : k < pl_n P := by
          apply Classical.byContradiction
          intro c
          rw [bb_hi ht (by omega)] at g1
          exact absurd g1 (by decide)
        rw [if_pos hkn] at ul ⊢
        refine aa_go (aa_iload4 iX3_byJoining_53) (aa_go (aa_cSi iX3_byJoining_55 (c_bitCount (by omega)) (by decide) lc_J6_bitCount_0f7a4 lk_X3_79 rfl (Nat.le_of_ble_eq_true rfl)) (aa_go (aa_iconst iX3_byJoining_58 ki_1) ?_))
        have cl := cn_le (pl_u P k &&& t) 32
        refine aa_ic_leN iX3_byJoining_59 (by omega) (by omega) (fun g2 => ?_) (fun g2 => ?_)
        · skip
          have hB2 : ∀ j, k ≤ j → j < pl_n P → t.testBit j = true → pl_cn (pl_u P j &&& t) 32 ≤ 1 := by
            intro j h1 h2 h3
            by_cases c : j = k
            · rw [c]; exact g2
            · exact hB j (by omega) h2 h3
          refine aa_go (aa_iload4 iX3_byJoining_65) ?_
          refine aa_if_neN iX3_byJoining_67 (by omega) (fun g3 => ?_) (fun g3 => ?_)
          · skip
            obtain ⟨k1, hk1⟩ := ex_bit g3
            obtain ⟨p, hp1, hp2, hp3⟩ := ex_low k1 hk1
            have hp4 : (pl_u P k).testBit p = true ∧ t.testBit p = true := by
              rw [Nat.testBit_and, Bool.and_eq_true] at hp2; exact hp2
            have hpk := u_lt ok hkn hp4.1
            have uniq : ∀ p', p' < 14 → t.testBit p' = true → (pl_u P k).testBit p' = true → p' = p := by
              intro p' h1 h2 h3
              have h4 : (pl_u P k &&& t).testBit p' = true := by rw [Nat.testBit_and, h2, h3]; rfl
              rcases Nat.lt_trichotomy p' p with c | c | c
              · have := cn_two h4 hp2 c 32 (by omega); omega
              · exact c
              · have := cn_two hp2 h4 c 32 (by omega); omega
            have e5 := hJ p (by omega) hp4.2
            have e6 := hJ k (by omega) g1
            refine aa_go (aa_aload0 iX3_byJoining_84) (aa_go (aa_getR iX3_byJoining_85 fl_X3_18 (sh_29 hW1) rfl) (aa_go (aa_iload4 iX3_byJoining_88) (aa_go (aa_cSi iX3_byJoining_90 (c_X6_lowest (lb_nI (by omega) hp2 hp3)) (by decide) lc_X6_lowest lk_X3_65 rfl (Nat.le_of_ble_eq_true rfl)) (aa_go (aa_dup2 iX3_byJoining_93 rfl rfl) (aa_go (aa_ialE iX3_byJoining_94 (sh_32 hW1) (by omega) (by omega) (e5)) (aa_go (aa_aload0 iX3_byJoining_95) (aa_go (aa_getR iX3_byJoining_96 fl_X3_18 (sh_29 hW1) rfl) ?_)))))))
            refine aa_go (aa_iload3 iX3_byJoining_99) (aa_go (aa_ialE iX3_byJoining_100 (sh_32 hW1) (by omega) (by omega) (e6)) (aa_go (aa_iconst iX3_byJoining_101 ki_1) (aa_go (aa_iaddN iX3_byJoining_102 ) (aa_go (aa_ixorN iX3_byJoining_103 ) (aa_go (aa_iasN iX3_byJoining_104 (sh_32 hW1) (by omega) (by omega)) ?_)))))
            have hr1 : jr P t k = false := by rw [jr, g1]; simp [g3]
            have nxt := ih (aa_sI σ1 32 p (nI (xs (fr (pl_n P) (k + 1) (fun j => t.testBit j && (pl_u P j).testBit p)) (jn P t) ^^^ (xs (fr (pl_n P) (k + 1) (fun j => t.testBit j && (pl_u P j).testBit k)) (jn P t) + 1)))) (some (.int (nI (pl_u P k &&& t)))) (by omega) (hF.s p _) (fun p' h1 h2 => ?_) hB2
            · rw [fr_s _ hkn, hr1] at nxt
              refine aa_go (aa_iinc3 iX3_byJoining_105 (dI_dec k) rfl (by decide)) (aa_go (aa_goto iX3_byJoining_108) ?_)
              exact nxt
            · rw [sI_at]
              by_cases c : p' = p
              · subst c
                rw [if_pos rfl, fr_s _ hkn, g1, hp4.1]
                show _ = nI (xs (k :: _) _)
                rw [xs_c, jn_fr ok, Nat.xor_comm, Nat.add_comm]
              · have : (pl_u P k).testBit p' = false := by
                  cases e : (pl_u P k).testBit p' with
                  | false => rfl
                  | true => exact absurd (uniq p' h1 h2 e) c
                rw [if_neg c, fr_s _ hkn, this, hJ p' h1 h2]; simp
          · skip
            have e6 := hJ k (by omega) g1
            refine aa_go (aa_iload2 iX3_byJoining_70) (aa_go (aa_aload0 iX3_byJoining_71) (aa_go (aa_getR iX3_byJoining_72 fl_X3_18 (sh_29 hW1) rfl) (aa_go (aa_iload3 iX3_byJoining_75) (aa_go (aa_ialE iX3_byJoining_76 (sh_32 hW1) (by omega) (by omega) (e6)) (aa_go (aa_iconst iX3_byJoining_77 ki_1) (aa_go (aa_iaddN iX3_byJoining_78 ) (aa_go (aa_ixorN iX3_byJoining_79 ) ?_)))))))
            have hr1 : jr P t k = true := by rw [jr, g1]; simp [g3]
            refine aa_go (aa_top (y := nI (xs (fr (pl_n P) k (jr P t)) (jn P t))) (by rw [fr_s _ hkn, hr1, if_pos rfl, xs_c, jn_fr ok, Nat.xor_comm, Nat.add_comm])) ?_
            refine aa_go (aa_istore2 iX3_byJoining_80 rfl (by decide)) (aa_go (aa_goto iX3_byJoining_81) (aa_go (aa_iinc3 iX3_byJoining_105 (dI_dec k) rfl (by decide)) (aa_go (aa_goto iX3_byJoining_108) ?_)))
            refine ih σ1 _ (by omega) hF (fun p' h1 h2 => ?_) hB2
            have : (pl_u P k).testBit p' = false := by
              cases e : (pl_u P k).testBit p' with
              | false => rfl
              | true =>
                have h4 : (pl_u P k &&& t).testBit p' = true := by rw [Nat.testBit_and, h2, e]; rfl
                rw [g3, Nat.zero_testBit] at h4; exact absurd h4 (by decide)
            rw [fr_s _ hkn, this, hJ p' h1 h2]; simp
        · skip
          have hj : jb P t = true := by
            rw [jb, List.any_eq_true]
            exact ⟨k, List.mem_range.mpr hkn, by rw [g1]; simp; omega⟩
          rw [hj]
          refine aa_go (aa_bipush iX3_byJoining_62 kb_m2) ?_
          refine aa_iret iX3_byJoining_64 rfl ?_
          exact ⟨rfl, hF⟩
      · skip
        have e1 : ∀ c : Nat → Bool, (c k = true → t.testBit k = true) → fr (pl_n P) k c = fr (pl_n P) (k + 1) c := by
          intro c hc
          by_cases h1 : k < pl_n P
          · rw [fr_s _ h1]
            cases e : c k with
            | false => rfl
            | true => rw [hc e] at g1; exact absurd g1 (by decide)
          · rw [fr_n _ (by omega), fr_n _ (by omega)]
        have nxt := fun x4 => ih σ1 x4 (by omega) hF (fun p' h1 h2 => by rw [e1 _ (fun q => by simp at q; exact q.1)]; exact hJ p' h1 h2) (fun j h1 h2 h3 => by
          by_cases c : j = k
          · rw [c, g1] at h3; exact absurd h3 (by decide)
          · exact hB j (by omega) h2 h3)
        rw [e1 (jr P t) (fun q => by rw [jr, Bool.and_eq_true] at q; exact q.1)] at nxt
        refine aa_go (aa_goto iX3_byJoining_50) (aa_go (aa_iinc3 iX3_byJoining_105 (dI_dec k) rfl (by decide)) (aa_go (aa_goto iX3_byJoining_108) ?_))
        exact nxt _
  have zero : ∀ f k (σ1 : aa_St), 14 - k < f → k ≤ 14 → FrI 32 σ σ1 → (∀ p, p < k → σ1.1 32 p = nI 0) → aa_V mX3_byJoining 3 4 [some (.ref 29), some (.int (nI t)), some (.int (nI 0)), some (.int (nI k)), none] [] σ1 (fun ra σ' => ra = some (.int (if jb P t then -2 else nI (jd P t))) ∧ FrI 32 σ σ') := by
    intro f
    induction f with
    | zero => intro k σ1 g1; omega
    | succ f ih =>
      intro k σ1 g1 g2 hF hz
      have hW1 := hW.of2 (by rw [hF.1] : σ1.2.2 = σ.2.2)
      refine aa_go (aa_iload3 iX3_byJoining_4) (aa_go (aa_bipush iX3_byJoining_5 kb_14) ?_)
      refine aa_ic_geN iX3_byJoining_7 (by omega) (by omega) (fun g3 => ?_) (fun g3 => ?_)
      · skip
        refine aa_go (aa_bipush iX3_byJoining_23 kb_13) (aa_go (aa_istore3 iX3_byJoining_25 rfl (by decide)) ?_)
        have := loop 14 σ1 none (by omega) hF (fun p hp _ => by rw [fr_n _ (by omega)]; exact hz p (by omega)) (fun j h1 h2 => by omega)
        rw [fr_n _ (by omega)] at this
        exact this
      · skip
        refine aa_go (aa_aload0 iX3_byJoining_10) (aa_go (aa_getR iX3_byJoining_11 fl_X3_18 (sh_29 hW1) rfl) (aa_go (aa_iload3 iX3_byJoining_14) (aa_go (aa_iconst iX3_byJoining_15 ki_0) (aa_go (aa_iasN iX3_byJoining_16 (sh_32 hW1) (by omega) (by omega)) ?_))))
        refine aa_go (aa_iincN3 (k := 1) iX3_byJoining_17 rfl (by decide)) (aa_go (aa_goto iX3_byJoining_20) ?_)
        refine ih (k + 1) _ (by omega) (by omega) (hF.s k _) (fun p hp => ?_)
        rw [sI_at]
        by_cases c : p = k
        · rw [if_pos c]
        · rw [if_neg c]; exact hz p (by omega)
  have key : aa_V mX3_byJoining 3 0 [some (.ref 29), some (.int (nI t)), none, none, none] [] σ (fun ra σ' => ra = some (.int (if jb P t then -2 else nI (jd P t))) ∧ FrI 32 σ σ') := by
    refine aa_go (aa_iconst iX3_byJoining_0 ki_0) (aa_go (aa_istore2 iX3_byJoining_1 rfl (by decide)) (aa_go (aa_iconst iX3_byJoining_2 ki_0) (aa_go (aa_istore3 iX3_byJoining_3 rfl (by decide)) ?_)))
    exact zero 15 0 σ (by omega) (by omega) FrI.rf (fun p hp => by omega)
  obtain ⟨ra, σ', ⟨rfl, h1⟩, hS9⟩ := aa_S_of (avs := [.ref 29, .int (nI t)]) (by decide) 3 [some (.ref 29), some (.int (nI t)), none, none, none] rfl rfl key
  exact ⟨σ', h1, hS9⟩
end
