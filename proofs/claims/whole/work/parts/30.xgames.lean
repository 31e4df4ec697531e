theorem cn_bm (f : Nat → Bool) : ∀ n m, n ≤ m → pl_cn (bm n f) m = ((List.range n).filter f).length := by
  intro n m h
  have h1 : ∀ k, k ≤ n → pl_cn (bm n f) k = ((List.range k).filter f).length := by
    intro k
    induction k with
    | zero => intro _; rfl
    | succ k ih =>
      intro hk
      rw [pl_cn, ih (by omega), bm_bit, List.range_succ, List.filter_append, List.length_append]
      simp only [show k < n by omega, decide_true, Bool.true_and]
      cases hf : f k <;> simp [hf]
  have h2 : ∀ d, pl_cn (bm n f) (n + d) = pl_cn (bm n f) n := by
    intro d
    induction d with
    | zero => rfl
    | succ d ih => rw [show n + (d + 1) = n + d + 1 by omega, pl_cn, ih, bm_bit]; simp [show ¬ n + d < n by omega]
  rw [show m = n + (m - n) by omega, h2, h1 n (Nat.le_refl _)]
theorem cn_mv {P : pl_T} (ok : pl_ok P) (h s : Nat) : pl_cn (pl_mv P h s) 32 = (pl_ML P h s).length := by
  have h1 := ok.1
  have h2 := ok.2.1
  exact cn_bm _ _ _ (by omega)
theorem ML_len {P : pl_T} (ok : pl_ok P) (h s : Nat) : (pl_ML P h s).length ≤ 16 := by
  have h1 := ok.1
  have h2 := ok.2.1
  have := List.length_filter_le (pl_lg P h s) (List.range (pl_n P + pl_b P))
  rw [List.length_range] at this
  rw [pl_ML]; omega
theorem sum_le {l : List Nat} {c : Nat} (h : ∀ x ∈ l, x ≤ c) : l.sum ≤ c * l.length := by
  induction l with
  | nil => simp
  | cons a t ih =>
    have h1 := h a List.mem_cons_self
    have h2 := ih (fun x hx => h x (List.mem_cons_of_mem _ hx))
    rw [List.sum_cons, List.length_cons, Nat.mul_add]; omega
theorem gm_le {P : pl_T} (ok : pl_ok P) : ∀ n h s, gm P n h s ≤ 16 ^ n
  | 0, _, _ => by simp [gm]
  | n + 1, h, s => by
    rw [gm, Nat.pow_succ]
    refine Nat.le_trans (sum_le (c := 16 ^ n) (fun x hx => ?_)) ?_
    · obtain ⟨j, -, rfl⟩ := List.mem_map.mp hx
      exact gm_le ok n _ _
    · rw [List.length_map]
      exact Nat.mul_le_mul_left _ (ML_len ok h s)
def gmk (P : pl_T) (n h s k : Nat) : Nat := ((mlk P h s k).map (fun j => gm P n (1 - h) (pl_nx P s j))).sum
theorem gmk_le {P : pl_T} (ok : pl_ok P) (n h s k : Nat) (hk : k ≤ 16) : gmk P n h s k ≤ 16 ^ (n + 1) := by
  rw [gmk, Nat.pow_succ]
  refine Nat.le_trans (sum_le (c := 16 ^ n) (fun x hx => ?_)) ?_
  · obtain ⟨j, -, rfl⟩ := List.mem_map.mp hx
    exact gm_le ok n _ _
  · rw [List.length_map, mlk]
    have := List.length_filter_le (pl_lg P h s) (List.range k)
    rw [List.length_range] at this
    exact Nat.mul_le_mul_left _ (by omega)
section
variable {r : Nat → Nat} {dy : List aa_Shp} {σ : aa_St} {P : pl_T} {hs : List Nat} {v : Nat}
theorem c_X9_gamesFrom (hW : aa_W r dy σ) (hX : XP P hs σ.1) : ∀ n h s, n ≤ 5 → h ≤ 1 → s < 2 ^ (pl_n P + pl_b P) → aa_SX mX9_gamesFrom (4 + n) [.ref 24, .int (nI s), .int (nI h), .int (nI n)] σ (some (.long (lN (gm P n h s)))) σ := by
  have ok := hX.ok
  have hn := hX.n14
  have hb := hX.b2
  have p16 := pw16 (k := pl_n P + pl_b P) (by omega)
  intro n
  induction n with
  | zero =>
    intro h s _ hh hs2
    refine aa_E_of (by decide) 5 [some (.ref 24), some (.int (nI s)), some (.int (nI h)), some (.int (nI 0)), none, none, none, none, none] rfl rfl ?_
    refine aa_go (aa_iload3 iX9_gamesFrom_0) ?_
    refine aa_if_gtN iX9_gamesFrom_1 (by omega) (fun h1 => ?_) (fun h1 => ?_)
    · skip
      omega
    · skip
      refine aa_go (aa_lconst iX9_gamesFrom_4 kl_1) ?_
      refine aa_lret iX9_gamesFrom_5 rfl ?_
      exact ⟨rfl, rfl⟩
  | succ n ih =>
    intro h s hn5 hh hs2
    have lmv := pl_mv_lt P h s
    have loop : ∀ f k, pl_n P + pl_b P - k < f → k ≤ pl_n P + pl_b P → aa_V mX9_gamesFrom (4 + (n + 1)) 44 [some (.ref 24), some (.int (nI s)), some (.int (nI h)), some (.int (nI (n + 1))), some (.int (nI (pl_mv P h s))), some (.int (nI (pl_n P + pl_b P))), some (.long (lN (gmk P n h s k))), none, some (.int (nI k))] [] σ (fun ra σ' => ra = some (.long (lN (gm P (n + 1) h s))) ∧ σ' = σ) := by
      intro f
      induction f with
      | zero => intro k g1; omega
      | succ f ihf =>
        intro k g1 g2
        refine aa_go (aa_iload8 iX9_gamesFrom_44) (aa_go (aa_iload5 iX9_gamesFrom_46) ?_)
        refine aa_ic_geN iX9_gamesFrom_48 (by omega) (by omega) (fun g3 => ?_) (fun g3 => ?_)
        · skip
          have e1 : k = pl_n P + pl_b P := by omega
          subst e1
          refine aa_go (aa_lload6 iX9_gamesFrom_92) ?_
          refine aa_lret iX9_gamesFrom_94 rfl ?_
          exact ⟨rfl, rfl⟩
        · skip
          refine aa_go (aa_iload4 iX9_gamesFrom_51) (aa_go (aa_iload8 iX9_gamesFrom_53) (aa_go (aa_ishrN iX9_gamesFrom_55 (by omega) (by omega)) (aa_go (aa_iconst iX9_gamesFrom_56 ki_1) (aa_go (aa_ibit iX9_gamesFrom_57) ?_))))
          refine aa_if_eqB iX9_gamesFrom_58 (fun g4 => ?_) (fun g4 => ?_)
          · skip
            rw [mv_bit g3] at g4
            refine aa_go (aa_iincN8 (k := 1) iX9_gamesFrom_86 rfl (by decide)) (aa_go (aa_goto iX9_gamesFrom_89) ?_)
            have := ihf (k + 1) (by omega) (by omega)
            rw [gmk, mlk_f g4] at this
            exact this
          · skip
            rw [mv_bit g3] at g4
            have nlt := pl_nx_lt ok hs2 g3
            have nxt := ihf (k + 1) (by omega) (by omega)
            rw [gmk, mlk_t g4, List.map_append, List.sum_append] at nxt
            simp only [List.map_cons, List.map_nil, List.sum_cons, List.sum_nil, Nat.add_zero] at nxt
            refine aa_go (aa_lload6 iX9_gamesFrom_61) (aa_go (aa_aload0 iX9_gamesFrom_63) (aa_go (aa_aload0 iX9_gamesFrom_64) (aa_go (aa_getR iX9_gamesFrom_65 fl_X9_31 (sh_24 hW) rfl) (aa_go (aa_iload1 iX9_gamesFrom_68) (aa_go (aa_iload8 iX9_gamesFrom_69) (aa_go (aa_cVi iX9_gamesFrom_71 (c_X6_behind hW hX g3) (by omega) lc_X6_behind lk_X9_57 (sh_7 hW) rfl rfl (Nat.le_of_ble_eq_true rfl)) (aa_go (aa_iconst iX9_gamesFrom_74 ki_1) ?_)))))))
            refine aa_go (aa_iload2 iX9_gamesFrom_75) (aa_go (aa_isubN iX9_gamesFrom_76 (by omega)) (aa_go (aa_iload3 iX9_gamesFrom_77) (aa_go (aa_iconst iX9_gamesFrom_78 ki_1) (aa_go (aa_isubN iX9_gamesFrom_79 (by omega)) ?_))))
            refine aa_go (aa_top (y := nI n) (by rw [Nat.add_sub_cancel])) ?_
            refine aa_go (aa_cVl iX9_gamesFrom_80 (ih (1 - h) (pl_nx P s k) (by omega) (by omega) nlt) (by omega) lc_X9_gamesFrom lk_X9_93 (sh_24 hW) rfl rfl (Nat.le_of_ble_eq_true rfl)) (aa_go (aa_laddN iX9_gamesFrom_83 ) (aa_go (aa_lstore6 iX9_gamesFrom_84 rfl (by decide)) (aa_go (aa_iincN8 (k := 1) iX9_gamesFrom_86 rfl (by decide)) (aa_go (aa_goto iX9_gamesFrom_89) ?_))))
            exact nxt
    refine aa_E_of (by decide) 5 [some (.ref 24), some (.int (nI s)), some (.int (nI h)), some (.int (nI (n + 1))), none, none, none, none, none] rfl rfl ?_
    refine aa_go (aa_iload3 iX9_gamesFrom_0) ?_
    refine aa_if_gtN iX9_gamesFrom_1 (by omega) (fun h1 => ?_) (fun h1 => ?_)
    · skip
      refine aa_go (aa_aload0 iX9_gamesFrom_6) (aa_go (aa_getR iX9_gamesFrom_7 fl_X9_31 (sh_24 hW) rfl) (aa_go (aa_iload1 iX9_gamesFrom_10) (aa_go (aa_iload2 iX9_gamesFrom_11) (aa_go (aa_cVi iX9_gamesFrom_12 (c_X6_moves hW hX (by omega)) (by omega) lc_X6_moves lk_X9_47 (sh_7 hW) rfl rfl (Nat.le_of_ble_eq_true rfl)) (aa_go (aa_istore4 iX9_gamesFrom_15 rfl (by decide)) (aa_go (aa_iload3 iX9_gamesFrom_17) (aa_go (aa_iconst iX9_gamesFrom_18 ki_1) ?_)))))))
      refine aa_ic_neN iX9_gamesFrom_19 (by omega) (by omega) (fun h2 => ?_) (fun h2 => ?_)
      · skip
        refine aa_go (aa_aload0 iX9_gamesFrom_29) (aa_go (aa_getR iX9_gamesFrom_30 fl_X9_31 (sh_24 hW) rfl) (aa_go (aa_cVi iX9_gamesFrom_33 (c_X6_steps hW hX) (by omega) lc_X6_steps lk_X9_53 (sh_7 hW) rfl rfl (Nat.le_of_ble_eq_true rfl)) (aa_go (aa_istore5 iX9_gamesFrom_36 rfl (by decide)) (aa_go (aa_lconst iX9_gamesFrom_38 kl_0) (aa_go (aa_lstore6 iX9_gamesFrom_39 rfl (by decide)) (aa_go (aa_iconst iX9_gamesFrom_41 ki_0) (aa_go (aa_istore8 iX9_gamesFrom_42 rfl (by decide)) ?_)))))))
        exact loop (pl_n P + pl_b P + 1) 0 (by omega) (by omega)
      · skip
        have h3 : n = 0 := by omega
        subst h3
        have hl := ML_len ok h s
        have e9 := cn_mv ok h s
        refine aa_go (aa_iload4 iX9_gamesFrom_22) (aa_go (aa_cSi iX9_gamesFrom_24 (c_bitCount (by omega)) (by omega) lc_J6_bitCount_0f7a4 lk_X9_97 rfl (Nat.le_of_ble_eq_true rfl)) (aa_go (aa_i2lN iX9_gamesFrom_27 (by omega)) ?_))
        refine aa_lret iX9_gamesFrom_28 rfl ?_
        refine ⟨?_, rfl⟩
        rw [e9, gm]
        congr 3
        have : ∀ l : List Nat, (l.map (fun _ => 1)).sum = l.length := by
          intro l
          induction l with
          | nil => rfl
          | cons a t iht => simp [iht]; omega
        exact (this _).symm
    · skip
      omega
theorem c_X9_games (hW : aa_W r dy σ) (hX : XP P hs σ.1) {s h n : Nat} (hn5 : n ≤ 5) (hh : h ≤ 1) (hs2 : s < 2 ^ (pl_n P + pl_b P)) : aa_SX mX9_games 10 [.ref 24, .int (nI s), .int (nI h), .int (nI n)] σ (some (.long (lN (gm P n h s)))) σ := by
  refine aa_E_of (by decide) 0 [some (.ref 24), some (.int (nI s)), some (.int (nI h)), some (.int (nI n))] rfl rfl ?_
  refine aa_go (aa_iload3 iX9_games_0) ?_
  refine aa_go (aa_if_ltN iX9_games_1 (by omega)) ?_
  refine aa_go (aa_iload3 iX9_games_4) (aa_go (aa_iconst iX9_games_5 ki_5) ?_)
  refine aa_ic_leN iX9_games_6 (by omega) (by omega) (fun h1 => ?_) (fun h1 => ?_)
  · skip
    refine aa_go (aa_aload0 iX9_games_15) (aa_go (aa_iload1 iX9_games_16) (aa_go (aa_iload2 iX9_games_17) (aa_go (aa_iload3 iX9_games_18) (aa_go (aa_cVl iX9_games_19 (c_X9_gamesFrom hW hX n h s hn5 hh hs2) (by omega) lc_X9_gamesFrom lk_X9_93 (sh_24 hW) rfl rfl (Nat.le_of_ble_eq_true rfl)) ?_))))
    refine aa_lret iX9_games_22 rfl ?_
    exact ⟨rfl, rfl⟩
  · skip
    omega
theorem c_X9_gamesB (hW : aa_W r dy σ) {s h n : Int32} (hn5 : n < 0 ∨ nI 5 < n) : aa_SX mX9_games 10 [.ref 24, .int s, .int h, .int n] σ (some (.long (-1))) σ := by
  refine aa_E_of (by decide) 0 [some (.ref 24), some (.int (s)), some (.int (h)), some (.int (n))] rfl rfl ?_
  refine aa_go (aa_iload3 iX9_games_0) ?_
  refine aa_if_lt iX9_games_1 (fun h1 => ?_) (fun h1 => ?_)
  · skip
    refine aa_go (aa_ldc2 iX9_games_9 ld_X9_91) (aa_go (aa_goto iX9_games_12) ?_)
    refine aa_lret iX9_games_22 rfl ?_
    exact ⟨rfl, rfl⟩
  · skip
    refine aa_go (aa_iload3 iX9_games_4) (aa_go (aa_iconst iX9_games_5 ki_5) ?_)
    refine aa_go (aa_ic_leF iX9_games_6 (Int32.not_le.mpr (hn5.resolve_left h1))) ?_
    refine aa_go (aa_ldc2 iX9_games_9 ld_X9_91) (aa_go (aa_goto iX9_games_12) ?_)
    refine aa_lret iX9_games_22 rfl ?_
    exact ⟨rfl, rfl⟩
end
