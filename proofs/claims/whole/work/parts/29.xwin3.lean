section
variable {r : Nat → Nat} {dy : List aa_Shp} {σ : aa_St} {P : pl_T} {hs : List Nat} {v : Nat}
theorem c_X9_victory (hW : aa_W r dy σ) (hX : XP P hs σ.1) (hv : σ.1 7 15 = nI v) (hS : S0 P v r σ) {s h e : Nat} (hs2 : s < 2 ^ (pl_n P + pl_b P)) (hh : h ≤ 1) (he : e ≤ 1) : ∃ r' dy' σ', (MX (2 ^ (pl_n P + pl_b P)) v 0 25 r dy σ r' dy' σ' ∧ R0 P v r' σ') ∧ aa_SX mX9_victory 24 [.ref 24, .int (nI s), .int (nI h), .int (nI e)] σ (some (.int (nI (wi P e h s).toNat))) σ' := by
  obtain ⟨r1, dy1, σ1, ⟨hM1, hR1⟩, hS1⟩ := c_fit0 hW hX hv hS
  have hW1 := hM1.W
  have hX1 := hM1.XP (by decide) hX
  have mu := pl_mu_le hX.ok s
  have hr0 : ∀ σ2 : aa_St, aa_W r1 dy1 σ2 → σ2.2.2.1[r1 0]? = some (.inl (1, 2 ^ (pl_n P + pl_b P))) := fun σ2 h2 => by rw [h2, ← hW1]; exact hR1.2.1
  obtain ⟨σ2, ⟨hF2, hK2⟩, hS2⟩ := c_X9_victoryFrom hr0 he 18 s h 0 σ1 mu hs2 hh (by omega) hW1 hX1 hR1.2.2
  refine ⟨r1, dy1, σ2, ⟨hM1.tr (MX.L hW1 hF2), by rw [hF2.1]; exact hR1.1, by rw [hF2.2.1]; exact hR1.2.1, hK2⟩, ?_⟩
  refine aa_E_of (by decide) 0 [some (.ref 24), some (.int (nI s)), some (.int (nI h)), some (.int (nI e))] rfl rfl ?_
  refine aa_go (aa_aload0 iX9_victory_0) (aa_go (aa_getR iX9_victory_1 fl_X9_12 (sh_24 hW) rfl) (aa_go (aa_aload0 iX9_victory_4) (aa_go (aa_getR iX9_victory_5 fl_X9_31 (sh_24 hW) rfl) (aa_go (aa_cVv iX9_victory_8 (hS1) (by decide) lc_X4_fit lk_X9_35 (sh_25 hW) rfl rfl (Nat.le_of_ble_eq_true rfl)) ?_))))
  refine aa_go (aa_aload0 iX9_victory_11) (aa_go (aa_iload1 iX9_victory_12) (aa_go (aa_iload2 iX9_victory_13) (aa_go (aa_iload3 iX9_victory_14) (aa_go (aa_iconst iX9_victory_15 ki_0) (aa_go (aa_cVi iX9_victory_16 (hS2) (by decide) lc_X9_victoryFrom lk_X9_39 (sh_24 hW1) rfl rfl (Nat.le_of_ble_eq_true rfl)) ?_)))))
  refine aa_zretB iX9_victory_19 rfl ?_
  exact ⟨rfl, rfl⟩
theorem c_X9_soonest (hW : aa_W r dy σ) (hX : XP P hs σ.1) (hv : σ.1 7 15 = nI v) (hS : S0 P v r σ) {s h e : Nat} (hs2 : s < 2 ^ (pl_n P + pl_b P)) (hh : h ≤ 1) (he : e ≤ 1) : ∃ r' dy' σ', (MX (2 ^ (pl_n P + pl_b P)) v 0 25 r dy σ r' dy' σ' ∧ R0 P v r' σ') ∧ aa_SX mX9_soonest 24 [.ref 24, .int (nI s), .int (nI h), .int (nI e)] σ (some (.int (nI (so P e h s)))) σ' := by
  obtain ⟨r1, dy1, σ1, ⟨hM1, hR1⟩, hS1⟩ := c_fit0 hW hX hv hS
  have hW1 := hM1.W
  have hX1 := hM1.XP (by decide) hX
  have mu := pl_mu_le hX.ok s
  have hr0 : ∀ σ2 : aa_St, aa_W r1 dy1 σ2 → σ2.2.2.1[r1 0]? = some (.inl (1, 2 ^ (pl_n P + pl_b P))) := fun σ2 h2 => by rw [h2, ← hW1]; exact hR1.2.1
  obtain ⟨σ2, ⟨hF2, hK2⟩, hS2⟩ := c_X9_soonestFrom hr0 he 18 s h 0 σ1 mu hs2 hh (by omega) hW1 hX1 hR1.2.2
  refine ⟨r1, dy1, σ2, ⟨hM1.tr (MX.L hW1 hF2), by rw [hF2.1]; exact hR1.1, by rw [hF2.2.1]; exact hR1.2.1, hK2⟩, ?_⟩
  refine aa_E_of (by decide) 0 [some (.ref 24), some (.int (nI s)), some (.int (nI h)), some (.int (nI e))] rfl rfl ?_
  refine aa_go (aa_aload0 iX9_soonest_0) (aa_go (aa_getR iX9_soonest_1 fl_X9_12 (sh_24 hW) rfl) (aa_go (aa_aload0 iX9_soonest_4) (aa_go (aa_getR iX9_soonest_5 fl_X9_31 (sh_24 hW) rfl) (aa_go (aa_cVv iX9_soonest_8 (hS1) (by decide) lc_X4_fit lk_X9_35 (sh_25 hW) rfl rfl (Nat.le_of_ble_eq_true rfl)) ?_))))
  refine aa_go (aa_aload0 iX9_soonest_11) (aa_go (aa_iload1 iX9_soonest_12) (aa_go (aa_iload2 iX9_soonest_13) (aa_go (aa_iload3 iX9_soonest_14) (aa_go (aa_iconst iX9_soonest_15 ki_0) (aa_go (aa_cVi iX9_soonest_16 (hS2) (by decide) lc_X9_soonestFrom lk_X9_68 (sh_24 hW1) rfl rfl (Nat.le_of_ble_eq_true rfl)) ?_)))))
  refine aa_iret iX9_soonest_19 rfl ?_
  exact ⟨rfl, rfl⟩
/-- the steps by which whoever is on turn wins -/
def wsk (P : pl_T) (e h s : Nat) : Nat → Nat
  | 0 => 0
  | k + 1 => if pl_lg P h s k && !wi P e (1 - h) (pl_nx P s k) then wsk P e h s k ||| 2 ^ k else wsk P e h s k
theorem c_X9_winningSteps (hW : aa_W r dy σ) (hX : XP P hs σ.1) (hv : σ.1 7 15 = nI v) (hS : S0 P v r σ) {s h e : Nat} (hs2 : s < 2 ^ (pl_n P + pl_b P)) (hh : h ≤ 1) (he : e ≤ 1) : ∃ r' dy' σ', (MX (2 ^ (pl_n P + pl_b P)) v 0 25 r dy σ r' dy' σ' ∧ S0 P v r' σ') ∧ aa_SX mX9_winningSteps 25 [.ref 24, .int (nI s), .int (nI h), .int (nI e)] σ (some (.int (nI (wsk P e h s (pl_n P + pl_b P))))) σ' := by
  have ok := hX.ok
  have hn := hX.n14
  have hb := hX.b2
  have p16 := pw16 (k := pl_n P + pl_b P) (by omega)
  have lmv := pl_mv_lt P h s
  have loop : ∀ f k r1 dy1 σ1, pl_n P + pl_b P - k < f → k ≤ pl_n P + pl_b P → MX (2 ^ (pl_n P + pl_b P)) v 0 25 r dy σ r1 dy1 σ1 → S0 P v r1 σ1 → aa_V mX9_winningSteps 25 17 [some (.ref 24), some (.int (nI s)), some (.int (nI h)), some (.int (nI e)), some (.int (nI (pl_mv P h s))), some (.int (nI (wsk P e h s k))), some (.int (nI k))] [] σ1 (fun ra σ' => ra = some (.int (nI (wsk P e h s (pl_n P + pl_b P)))) ∧ ∃ r' dy', MX (2 ^ (pl_n P + pl_b P)) v 0 25 r dy σ r' dy' σ' ∧ S0 P v r' σ') := by
    intro f
    induction f with
    | zero => intro k r1 dy1 σ1 g1; omega
    | succ f ih =>
      intro k r1 dy1 σ1 g1 g2 hM hS1
      have hW1 := hM.W
      have hX1 := hM.XP (by decide) hX
      have hv1 : σ1.1 7 15 = nI v := by rw [hM.I (by decide) (by decide)]; exact hv
      refine aa_go (aa_iload6 iX9_winningSteps_17) (aa_go (aa_aload0 iX9_winningSteps_19) (aa_go (aa_getR iX9_winningSteps_20 fl_X9_31 (sh_24 hW1) rfl) (aa_go (aa_cVi iX9_winningSteps_23 (c_X6_steps hW1 hX1) (by decide) lc_X6_steps lk_X9_53 (sh_7 hW1) rfl rfl (Nat.le_of_ble_eq_true rfl)) ?_)))
      refine aa_ic_geN iX9_winningSteps_26 (by omega) (by omega) (fun g3 => ?_) (fun g3 => ?_)
      · skip
        have e1 : k = pl_n P + pl_b P := by omega
        subst e1
        refine aa_go (aa_iload5 iX9_winningSteps_75) ?_
        refine aa_iret iX9_winningSteps_77 rfl ?_
        exact ⟨rfl, r1, dy1, hM, hS1⟩
      · skip
        refine aa_go (aa_iload4 iX9_winningSteps_29) (aa_go (aa_iload6 iX9_winningSteps_31) (aa_go (aa_ishrN iX9_winningSteps_33 (by omega) (by omega)) (aa_go (aa_iconst iX9_winningSteps_34 ki_1) (aa_go (aa_ibit iX9_winningSteps_35) ?_))))
        refine aa_if_eqB iX9_winningSteps_36 (fun g4 => ?_) (fun g4 => ?_)
        · skip
          rw [mv_bit g3] at g4
          refine aa_go (aa_iincN6 (k := 1) iX9_winningSteps_69 rfl (by decide)) (aa_go (aa_goto iX9_winningSteps_72) ?_)
          have := ih (k + 1) r1 dy1 σ1 (by omega) (by omega) hM hS1
          rw [wsk, g4] at this
          exact this
        · skip
          rw [mv_bit g3] at g4
          have nlt := pl_nx_lt ok hs2 g3
          obtain ⟨r2, dy2, σ2, ⟨hM2, hR2⟩, hS2⟩ := c_X9_victory hW1 hX1 hv1 hS1 (h := 1 - h) nlt (by omega) he
          have nxt := ih (k + 1) r2 dy2 σ2 (by omega) (by omega) (hM.tr hM2) (fun _ => hR2)
          rw [wsk, g4] at nxt
          refine aa_go (aa_aload0 iX9_winningSteps_39) (aa_go (aa_aload0 iX9_winningSteps_40) (aa_go (aa_getR iX9_winningSteps_41 fl_X9_31 (sh_24 hW1) rfl) (aa_go (aa_iload1 iX9_winningSteps_44) (aa_go (aa_iload6 iX9_winningSteps_45) (aa_go (aa_cVi iX9_winningSteps_47 (c_X6_behind hW1 hX1 g3) (by decide) lc_X6_behind lk_X9_57 (sh_7 hW1) rfl rfl (Nat.le_of_ble_eq_true rfl)) (aa_go (aa_iconst iX9_winningSteps_50 ki_1) (aa_go (aa_iload2 iX9_winningSteps_51) ?_)))))))
          refine aa_go (aa_isubN iX9_winningSteps_52 (by omega)) (aa_go (aa_iload3 iX9_winningSteps_53) (aa_go (aa_cVi iX9_winningSteps_54 (hS2) (by decide) lc_X9_victory lk_X9_64 (sh_24 hW1) rfl rfl (Nat.le_of_ble_eq_true rfl)) ?_))
          refine aa_if_neB iX9_winningSteps_57 (fun g5 => ?_) (fun g5 => ?_)
          · skip
            rw [g5] at nxt
            refine aa_go (aa_iincN6 (k := 1) iX9_winningSteps_69 rfl (by decide)) (aa_go (aa_goto iX9_winningSteps_72) ?_)
            exact nxt
          · skip
            rw [g5] at nxt
            refine aa_go (aa_iload5 iX9_winningSteps_60) (aa_go (aa_iconst iX9_winningSteps_62 ki_1) (aa_go (aa_iload6 iX9_winningSteps_63) (aa_go (aa_ishlN iX9_winningSteps_65 (by omega)) (aa_go (aa_iorN iX9_winningSteps_66 ) ?_))))
            refine aa_go (aa_top (y := nI (wsk P e h s k ||| 2 ^ k)) (by rw [Nat.one_shiftLeft])) ?_
            refine aa_go (aa_istore5 iX9_winningSteps_67 rfl (by decide)) (aa_go (aa_iincN6 (k := 1) iX9_winningSteps_69 rfl (by decide)) (aa_go (aa_goto iX9_winningSteps_72) ?_))
            exact nxt
  have key : aa_V mX9_winningSteps 25 0 [some (.ref 24), some (.int (nI s)), some (.int (nI h)), some (.int (nI e)), none, none, none] [] σ (fun ra σ' => ra = some (.int (nI (wsk P e h s (pl_n P + pl_b P)))) ∧ ∃ r' dy', MX (2 ^ (pl_n P + pl_b P)) v 0 25 r dy σ r' dy' σ' ∧ S0 P v r' σ') := by
    refine aa_go (aa_aload0 iX9_winningSteps_0) (aa_go (aa_getR iX9_winningSteps_1 fl_X9_31 (sh_24 hW) rfl) (aa_go (aa_iload1 iX9_winningSteps_4) (aa_go (aa_iload2 iX9_winningSteps_5) (aa_go (aa_cVi iX9_winningSteps_6 (c_X6_moves hW hX (by omega)) (by decide) lc_X6_moves lk_X9_47 (sh_7 hW) rfl rfl (Nat.le_of_ble_eq_true rfl)) (aa_go (aa_istore4 iX9_winningSteps_9 rfl (by decide)) (aa_go (aa_iconst iX9_winningSteps_11 ki_0) (aa_go (aa_istore5 iX9_winningSteps_12 rfl (by decide)) ?_)))))))
    refine aa_go (aa_iconst iX9_winningSteps_14 ki_0) (aa_go (aa_istore6 iX9_winningSteps_15 rfl (by decide)) ?_)
    exact loop (pl_n P + pl_b P + 1) 0 r dy σ (by omega) (by omega) (MX.rf hW) hS
  obtain ⟨ra, σ', ⟨rfl, r', dy', h1⟩, hS9⟩ := aa_S_of (avs := [.ref 24, .int (nI s), .int (nI h), .int (nI e)]) (by decide) 3 [some (.ref 24), some (.int (nI s)), some (.int (nI h)), some (.int (nI e)), none, none, none] rfl rfl key
  exact ⟨r', dy', σ', h1, hS9⟩
/-- the first step that does so -/
def fsk (P : pl_T) (e h s : Nat) (k : Nat) : Option Nat := (mlk P h s k).find? (fun j => 1 + so P e (1 - h) (pl_nx P s j) == so P e h s)
theorem c_X9_firstSoonest (hW : aa_W r dy σ) (hX : XP P hs σ.1) (hv : σ.1 7 15 = nI v) (hS : S0 P v r σ) {s h e : Nat} (hs2 : s < 2 ^ (pl_n P + pl_b P)) (hh : h ≤ 1) (he : e ≤ 1) : ∃ r' dy' σ', (MX (2 ^ (pl_n P + pl_b P)) v 0 25 r dy σ r' dy' σ' ∧ S0 P v r' σ') ∧ aa_SX mX9_firstSoonest 25 [.ref 24, .int (nI s), .int (nI h), .int (nI e)] σ (some (.int (oI (fsk P e h s (pl_n P + pl_b P))))) σ' := by
  have ok := hX.ok
  have hn := hX.n14
  have hb := hX.b2
  have p16 := pw16 (k := pl_n P + pl_b P) (by omega)
  have lmv := pl_mv_lt P h s
  have sole := so_le ok he h s
  have done : ∀ k, k ≤ pl_n P + pl_b P → ∀ j, fsk P e h s k = some j → fsk P e h s (pl_n P + pl_b P) = some j := by
    intro k hk j hj
    have : ∀ d, fsk P e h s (k + d) = some j := by
      intro d
      induction d with
      | zero => exact hj
      | succ d ihd =>
        cases hl : pl_lg P h s (k + d) with
        | false => rw [fsk, show k + (d + 1) = k + d + 1 by omega, mlk_f hl]; exact ihd
        | true => rw [fsk, show k + (d + 1) = k + d + 1 by omega, mlk_t hl, List.find?_append]; rw [fsk] at ihd; rw [ihd]; rfl
    have := this (pl_n P + pl_b P - k)
    rw [show k + (pl_n P + pl_b P - k) = pl_n P + pl_b P by omega] at this
    exact this
  have loop : ∀ f k r1 dy1 σ1, pl_n P + pl_b P - k < f → k ≤ pl_n P + pl_b P → MX (2 ^ (pl_n P + pl_b P)) v 0 25 r dy σ r1 dy1 σ1 → S0 P v r1 σ1 → fsk P e h s k = none → aa_V mX9_firstSoonest 25 23 [some (.ref 24), some (.int (nI s)), some (.int (nI h)), some (.int (nI e)), some (.int (nI (so P e h s))), some (.int (nI (pl_mv P h s))), some (.int (nI k))] [] σ1 (fun ra σ' => ra = some (.int (oI (fsk P e h s (pl_n P + pl_b P)))) ∧ ∃ r' dy', MX (2 ^ (pl_n P + pl_b P)) v 0 25 r dy σ r' dy' σ' ∧ S0 P v r' σ') := by
    intro f
    induction f with
    | zero => intro k r1 dy1 σ1 g1; omega
    | succ f ih =>
      intro k r1 dy1 σ1 g1 g2 hM hS1 hf
      have hW1 := hM.W
      have hX1 := hM.XP (by decide) hX
      have hv1 : σ1.1 7 15 = nI v := by rw [hM.I (by decide) (by decide)]; exact hv
      refine aa_go (aa_iload6 iX9_firstSoonest_23) (aa_go (aa_aload0 iX9_firstSoonest_25) (aa_go (aa_getR iX9_firstSoonest_26 fl_X9_31 (sh_24 hW1) rfl) (aa_go (aa_cVi iX9_firstSoonest_29 (c_X6_steps hW1 hX1) (by decide) lc_X6_steps lk_X9_53 (sh_7 hW1) rfl rfl (Nat.le_of_ble_eq_true rfl)) ?_)))
      refine aa_ic_geN iX9_firstSoonest_32 (by omega) (by omega) (fun g3 => ?_) (fun g3 => ?_)
      · skip
        have e1 : k = pl_n P + pl_b P := by omega
        subst e1
        refine aa_go (aa_iconst iX9_firstSoonest_79 ki_m1) ?_
        refine aa_iret iX9_firstSoonest_80 rfl ?_
        exact ⟨by rw [hf]; rfl, r1, dy1, hM, hS1⟩
      · skip
        refine aa_go (aa_iload5 iX9_firstSoonest_35) (aa_go (aa_iload6 iX9_firstSoonest_37) (aa_go (aa_ishrN iX9_firstSoonest_39 (by omega) (by omega)) (aa_go (aa_iconst iX9_firstSoonest_40 ki_1) (aa_go (aa_ibit iX9_firstSoonest_41) ?_))))
        refine aa_if_eqB iX9_firstSoonest_42 (fun g4 => ?_) (fun g4 => ?_)
        · skip
          rw [mv_bit g3] at g4
          refine aa_go (aa_iincN6 (k := 1) iX9_firstSoonest_73 rfl (by decide)) (aa_go (aa_goto iX9_firstSoonest_76) ?_)
          exact ih (k + 1) r1 dy1 σ1 (by omega) (by omega) hM hS1 (by rw [fsk, mlk_f g4]; exact hf)
        · skip
          rw [mv_bit g3] at g4
          have nlt := pl_nx_lt ok hs2 g3
          have sol2 := so_le ok he (1 - h) (pl_nx P s k)
          obtain ⟨r2, dy2, σ2, ⟨hM2, hR2⟩, hS2⟩ := c_X9_soonest hW1 hX1 hv1 hS1 (h := 1 - h) nlt (by omega) he
          have e9 : fsk P e h s (k + 1) = if 1 + so P e (1 - h) (pl_nx P s k) = so P e h s then some k else none := by
            rw [fsk, mlk_t g4, List.find?_append]
            rw [fsk] at hf
            rw [hf]
            by_cases q : 1 + so P e (1 - h) (pl_nx P s k) = so P e h s
            · rw [if_pos q]; simp [q]
            · rw [if_neg q]; simp [q]
          refine aa_go (aa_iconst iX9_firstSoonest_45 ki_1) (aa_go (aa_aload0 iX9_firstSoonest_46) (aa_go (aa_aload0 iX9_firstSoonest_47) (aa_go (aa_getR iX9_firstSoonest_48 fl_X9_31 (sh_24 hW1) rfl) (aa_go (aa_iload1 iX9_firstSoonest_51) (aa_go (aa_iload6 iX9_firstSoonest_52) (aa_go (aa_cVi iX9_firstSoonest_54 (c_X6_behind hW1 hX1 g3) (by decide) lc_X6_behind lk_X9_57 (sh_7 hW1) rfl rfl (Nat.le_of_ble_eq_true rfl)) (aa_go (aa_iconst iX9_firstSoonest_57 ki_1) ?_)))))))
          refine aa_go (aa_iload2 iX9_firstSoonest_58) (aa_go (aa_isubN iX9_firstSoonest_59 (by omega)) (aa_go (aa_iload3 iX9_firstSoonest_60) (aa_go (aa_cVi iX9_firstSoonest_61 (hS2) (by decide) lc_X9_soonest lk_X9_83 (sh_24 hW1) rfl rfl (Nat.le_of_ble_eq_true rfl)) (aa_go (aa_iaddN iX9_firstSoonest_64 ) (aa_go (aa_iload4 iX9_firstSoonest_65) ?_)))))
          refine aa_ic_neN iX9_firstSoonest_67 (by omega) (by omega) (fun g5 => ?_) (fun g5 => ?_)
          · skip
            refine aa_go (aa_iincN6 (k := 1) iX9_firstSoonest_73 rfl (by decide)) (aa_go (aa_goto iX9_firstSoonest_76) ?_)
            exact ih (k + 1) r2 dy2 σ2 (by omega) (by omega) (hM.tr hM2) (fun _ => hR2) (by rw [e9, if_neg g5])
          · skip
            refine aa_go (aa_iload6 iX9_firstSoonest_70) ?_
            refine aa_iret iX9_firstSoonest_72 rfl ?_
            exact ⟨by rw [done (k + 1) (by omega) k (by rw [e9, if_pos g5])]; rfl, r2, dy2, hM.tr hM2, fun _ => hR2⟩
  have key : aa_V mX9_firstSoonest 25 0 [some (.ref 24), some (.int (nI s)), some (.int (nI h)), some (.int (nI e)), none, none, none] [] σ (fun ra σ' => ra = some (.int (oI (fsk P e h s (pl_n P + pl_b P)))) ∧ ∃ r' dy', MX (2 ^ (pl_n P + pl_b P)) v 0 25 r dy σ r' dy' σ' ∧ S0 P v r' σ') := by
    obtain ⟨r1, dy1, σ1, ⟨hM1, hR1⟩, hS1⟩ := c_X9_soonest hW hX hv hS hs2 hh he
    have hW1 := hM1.W
    have hX1 := hM1.XP (by decide) hX
    refine aa_go (aa_aload0 iX9_firstSoonest_0) (aa_go (aa_iload1 iX9_firstSoonest_1) (aa_go (aa_iload2 iX9_firstSoonest_2) (aa_go (aa_iload3 iX9_firstSoonest_3) (aa_go (aa_cVi iX9_firstSoonest_4 (hS1) (by decide) lc_X9_soonest lk_X9_83 (sh_24 hW) rfl rfl (Nat.le_of_ble_eq_true rfl)) ?_))))
    refine aa_go (aa_istore4 iX9_firstSoonest_7 rfl (by decide)) (aa_go (aa_aload0 iX9_firstSoonest_9) (aa_go (aa_getR iX9_firstSoonest_10 fl_X9_31 (sh_24 hW1) rfl) (aa_go (aa_iload1 iX9_firstSoonest_13) (aa_go (aa_iload2 iX9_firstSoonest_14) (aa_go (aa_cVi iX9_firstSoonest_15 (c_X6_moves hW1 hX1 (by omega)) (by decide) lc_X6_moves lk_X9_47 (sh_7 hW1) rfl rfl (Nat.le_of_ble_eq_true rfl)) (aa_go (aa_istore5 iX9_firstSoonest_18 rfl (by decide)) (aa_go (aa_iconst iX9_firstSoonest_20 ki_0) ?_)))))))
    refine aa_go (aa_istore6 iX9_firstSoonest_21 rfl (by decide)) ?_
    exact loop (pl_n P + pl_b P + 1) 0 r1 dy1 σ1 (by omega) (by omega) hM1 (fun _ => hR1) rfl
  obtain ⟨ra, σ', ⟨rfl, r', dy', h1⟩, hS9⟩ := aa_S_of (avs := [.ref 24, .int (nI s), .int (nI h), .int (nI e)]) (by decide) 3 [some (.ref 24), some (.int (nI s)), some (.int (nI h)), some (.int (nI e)), none, none, none] rfl rfl key
  exact ⟨r', dy', σ', h1, hS9⟩
/-- how many games of n moves there are -/
def gm (P : pl_T) : Nat → Nat → Nat → Nat
  | 0, _, _ => 1
  | n + 1, h, s => ((pl_ML P h s).map (fun j => gm P n (1 - h) (pl_nx P s j))).sum
end
