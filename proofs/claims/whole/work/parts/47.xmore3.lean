def R4 (P : pl_T) (v : Nat) (r : Nat → Nat) (S : Nat) (σ : aa_St) : Prop := σ.1 39 1 = nI v ∧ σ.2.2.1[r 4]? = some (.inl (1, 2 ^ (pl_n P + pl_b P))) ∧ KW P S (σ.2.1 (r 4))
def S4 (P : pl_T) (v : Nat) (r : Nat → Nat) (S : Nat) (σ : aa_St) : Prop := σ.1 39 1 = nI v → R4 P v r S σ
section
variable {r : Nat → Nat} {dy : List aa_Shp} {σ : aa_St} {P : pl_T} {hs : List Nat} {v S : Nat}
theorem c_fit4 (hW : aa_W r dy σ) (hX : XP P hs σ.1) (hv : σ.1 7 15 = nI v) (hS1 : 1 ≤ S) (hS : S4 P v r S σ) : ∃ r' dy' σ', (MX (2 ^ (pl_n P + pl_b P)) v 4 39 r dy σ r' dy' σ' ∧ R4 P v r' S σ') ∧ aa_SX mX4_fit 2 [.ref 39, .ref 7] σ none σ' := by
  by_cases he : σ.1 39 1 = nI v
  · exact ⟨r, dy, σ, ⟨MX.rf hW, hS he⟩, c_fitE39 hW hv he⟩
  · have hW' := hW.fit39 (nI v) (2 ^ (pl_n P + pl_b P))
    have hM := MX.fit (N := 2 ^ (pl_n P + pl_b P)) (v := v) (j := 4) (a := 39) hW (by decide) he hW'
    refine ⟨_, _, _, ⟨hM, ?_, ?_, ?_⟩, c_fitN39 hW hX hv he⟩
    · exact fit_ver hW (by decide) _ _ _
    · rw [nup_eq]; exact fit_shape hW'
    · rw [nup_eq, fit_row hW]
      exact fun s _ => ⟨0, rfl, by simp, fun e => absurd e (by simp; omega)⟩
theorem c_X10_forget (hW : aa_W r dy σ) (hS : σ.2.1 38 2 = lN S) : aa_SX mX10_forget 1 [.ref 38] σ none (aa_sL σ 38 2 (lN (S + 1))) := by
  refine aa_E_of (by decide) 0 [some (.ref 38)] rfl rfl ?_
  refine aa_go (aa_aload0 iX10_forget_0) (aa_go (aa_dup iX10_forget_1 rfl) (aa_go (aa_getL iX10_forget_2 fl_X10_18 (sh_38 hW) rfl) ?_))
  refine aa_go (aa_topl (y := lN S) (hS)) ?_
  refine aa_go (aa_lconst iX10_forget_5 kl_1) (aa_go (aa_laddN iX10_forget_6 ) (aa_go (aa_putL iX10_forget_7 fl_X10_18 (fun h => nomatch h) (sh_38 hW) rfl) ?_))
  refine aa_vret iX10_forget_10 rfl ?_
  exact ⟨rfl, rfl⟩
theorem c_X10_more (hW : aa_W r dy σ) (h38 : r 4 ≠ 38) (hX : XP P hs σ.1) (hv : σ.1 7 15 = nI v) (hL : σ.2.1 38 2 = lN S) (hS1 : 1 ≤ S) (hS30 : S < 2 ^ 30) (hS : S4 P v r S σ) {s h : Nat} (hs2 : s < 2 ^ (pl_n P + pl_b P)) (hh : h ≤ 1) : ∃ r' dy' σ', (MX (2 ^ (pl_n P + pl_b P)) v 4 39 r dy σ r' dy' σ' ∧ R4 P v r' S σ' ∧ r' 4 ≠ 38 ∧ σ'.2.1 38 2 = lN S) ∧ aa_SX mX10_more 24 [.ref 38, .int (nI s), .int (nI h)] σ (some (.int (iZ (me P h s)))) σ' := by
  obtain ⟨r1, dy1, σ1, ⟨hM1, hR1⟩, hSa⟩ := c_fit4 hW hX hv hS1 hS
  have hW1 := hM1.W
  have hX1 := hM1.XP (by decide) hX
  have mu := pl_mu_le hX.ok s
  have h38' : r1 4 ≠ 38 := by
    rcases hM1.2.2.2.2.1 with e | e
    · rw [e]; exact h38
    · omega
  have hL1 : σ1.2.1 38 2 = lN S := by rw [hM1.2.2.2.2.2.2.2.1 38 (by omega) h38.symm]; exact hL
  have hr4 : ∀ σ2 : aa_St, aa_W r1 dy1 σ2 → σ2.2.2.1[r1 4]? = some (.inl (1, 2 ^ (pl_n P + pl_b P))) := fun σ2 h2 => by rw [h2, ← hW1]; exact hR1.2.1
  obtain ⟨σ2, ⟨hF2, hK2⟩, hS2⟩ := c_X10_moreFrom hr4 h38' hS30 18 s h 0 σ1 mu hs2 hh (by omega) hW1 hX1 hL1 hR1.2.2
  refine ⟨r1, dy1, σ2, ⟨hM1.tr (MX.L hW1 hF2), ⟨by rw [hF2.1]; exact hR1.1, by rw [hF2.2.1]; exact hR1.2.1, hK2⟩, h38', by rw [hF2.2.2 38 h38'.symm]; exact hL1⟩, ?_⟩
  refine aa_E_of (by decide) 0 [some (.ref 38), some (.int (nI s)), some (.int (nI h))] rfl rfl ?_
  refine aa_go (aa_aload0 iX10_more_0) (aa_go (aa_getR iX10_more_1 fl_X10_12 (sh_38 hW) rfl) (aa_go (aa_aload0 iX10_more_4) (aa_go (aa_getR iX10_more_5 fl_X10_22 (sh_38 hW) rfl) (aa_go (aa_cVv iX10_more_8 (hSa) (by decide) lc_X4_fit lk_X10_26 (sh_39 hW) rfl rfl (Nat.le_of_ble_eq_true rfl)) ?_))))
  refine aa_go (aa_aload0 iX10_more_11) (aa_go (aa_iload1 iX10_more_12) (aa_go (aa_iload2 iX10_more_13) (aa_go (aa_iconst iX10_more_14 ki_0) (aa_go (aa_cVi iX10_more_15 (hS2) (by decide) lc_X10_moreFrom lk_X10_30 (sh_38 hW1) rfl rfl (Nat.le_of_ble_eq_true rfl)) ?_))))
  refine aa_iret iX10_more_18 rfl ?_
  exact ⟨rfl, rfl⟩
def fbk (P : pl_T) (h s : Nat) (k : Nat) : Option Nat := (mlk P h s k).find? (fun j => (pl_wo P (bd s (pl_nx P s j)) : Int) - me P (1 - h) (pl_nx P s j) == me P h s)
theorem c_X10_firstBest (hW : aa_W r dy σ) (h38 : r 4 ≠ 38) (hX : XP P hs σ.1) (hv : σ.1 7 15 = nI v) (hL : σ.2.1 38 2 = lN S) (hS1 : 1 ≤ S) (hS30 : S < 2 ^ 30) (hS : S4 P v r S σ) {s h : Nat} (hs2 : s < 2 ^ (pl_n P + pl_b P)) (hh : h ≤ 1) : ∃ r' dy' σ', (MX (2 ^ (pl_n P + pl_b P)) v 4 39 r dy σ r' dy' σ' ∧ S4 P v r' S σ' ∧ r' 4 ≠ 38 ∧ σ'.2.1 38 2 = lN S) ∧ aa_SX mX10_firstBest 25 [.ref 38, .int (nI s), .int (nI h)] σ (some (.int (oI (fbk P h s (pl_n P + pl_b P))))) σ' := by
  have ok := hX.ok
  have hn := hX.n14
  have hb := hX.b2
  have p16 := pw16 (k := pl_n P + pl_b P) (by omega)
  have lmv := pl_mv_lt P h s
  have mel := me_le ok h s
  have done : ∀ k, k ≤ pl_n P + pl_b P → ∀ j, fbk P h s k = some j → fbk P h s (pl_n P + pl_b P) = some j := by
    intro k hk j hj
    have : ∀ d, fbk P h s (k + d) = some j := by
      intro d
      induction d with
      | zero => exact hj
      | succ d ihd =>
        cases hl : pl_lg P h s (k + d) with
        | false => rw [fbk, show k + (d + 1) = k + d + 1 by omega, mlk_f hl]; exact ihd
        | true => rw [fbk, show k + (d + 1) = k + d + 1 by omega, mlk_t hl, List.find?_append]; rw [fbk] at ihd; rw [ihd]; rfl
    have := this (pl_n P + pl_b P - k)
    rw [show k + (pl_n P + pl_b P - k) = pl_n P + pl_b P by omega] at this
    exact this
  have loop : ∀ f k r1 dy1 σ1 y6, pl_n P + pl_b P - k < f → k ≤ pl_n P + pl_b P → MX (2 ^ (pl_n P + pl_b P)) v 4 39 r dy σ r1 dy1 σ1 → S4 P v r1 S σ1 → r1 4 ≠ 38 → σ1.2.1 38 2 = lN S → fbk P h s k = none → aa_V mX10_firstBest 25 21 [some (.ref 38), some (.int (nI s)), some (.int (nI h)), some (.int (iZ (me P h s))), some (.int (nI (pl_mv P h s))), some (.int (nI k)), y6] [] σ1 (fun ra σ' => ra = some (.int (oI (fbk P h s (pl_n P + pl_b P)))) ∧ ∃ r' dy', MX (2 ^ (pl_n P + pl_b P)) v 4 39 r dy σ r' dy' σ' ∧ S4 P v r' S σ' ∧ r' 4 ≠ 38 ∧ σ'.2.1 38 2 = lN S) := by
    intro f
    induction f with
    | zero => intro k r1 dy1 σ1 y6 g1; omega
    | succ f ih =>
      intro k r1 dy1 σ1 y6 g1 g2 hM hS1' h38' hL1 hf
      have hW1 := hM.W
      have hX1 := hM.XP (by decide) hX
      have hv1 : σ1.1 7 15 = nI v := by rw [hM.I (by decide) (by decide)]; exact hv
      refine aa_go (aa_iload5 iX10_firstBest_21) (aa_go (aa_aload0 iX10_firstBest_23) (aa_go (aa_getR iX10_firstBest_24 fl_X10_22 (sh_38 hW1) rfl) (aa_go (aa_cVi iX10_firstBest_27 (c_X6_steps hW1 hX1) (by decide) lc_X6_steps lk_X10_45 (sh_7 hW1) rfl rfl (Nat.le_of_ble_eq_true rfl)) ?_)))
      refine aa_ic_geN iX10_firstBest_30 (by omega) (by omega) (fun g3 => ?_) (fun g3 => ?_)
      · skip
        have e1 : k = pl_n P + pl_b P := by omega
        subst e1
        refine aa_go (aa_iconst iX10_firstBest_91 ki_m1) ?_
        refine aa_iret iX10_firstBest_92 rfl ?_
        exact ⟨by rw [hf]; rfl, r1, dy1, hM, hS1', h38', hL1⟩
      · skip
        refine aa_go (aa_aload0 iX10_firstBest_33) (aa_go (aa_getR iX10_firstBest_34 fl_X10_22 (sh_38 hW1) rfl) (aa_go (aa_iload1 iX10_firstBest_37) (aa_go (aa_iload5 iX10_firstBest_38) (aa_go (aa_cVi iX10_firstBest_40 (c_X6_behind hW1 hX1 g3) (by decide) lc_X6_behind lk_X10_49 (sh_7 hW1) rfl rfl (Nat.le_of_ble_eq_true rfl)) (aa_go (aa_istore6 iX10_firstBest_43 rfl (by decide)) (aa_go (aa_iload4 iX10_firstBest_45) (aa_go (aa_iload5 iX10_firstBest_47) ?_)))))))
        refine aa_go (aa_ishrN iX10_firstBest_49 (by omega) (by omega)) (aa_go (aa_iconst iX10_firstBest_50 ki_1) (aa_go (aa_ibit iX10_firstBest_51) ?_))
        refine aa_if_eqB iX10_firstBest_52 (fun g4 => ?_) (fun g4 => ?_)
        · skip
          rw [mv_bit g3] at g4
          refine aa_go (aa_iincN5 (k := 1) iX10_firstBest_85 rfl (by decide)) (aa_go (aa_goto iX10_firstBest_88) ?_)
          exact ih (k + 1) r1 dy1 σ1 _ (by omega) (by omega) hM hS1' h38' hL1 (by rw [fbk, mlk_f g4]; exact hf)
        · skip
          rw [mv_bit g3] at g4
          have nlt := pl_nx_lt ok hs2 g3
          have b1 := me_le ok (1 - h) (pl_nx P s k)
          have b3 := pl_wo_le ok (bd s (pl_nx P s k))
          have nlt31 : pl_nx P s k < 2147483648 := by omega
          have bdl : bd s (pl_nx P s k) < 2147483648 := Nat.lt_of_lt_of_le (bb_bd hs2) (by omega)
          obtain ⟨r2, dy2, σ2, ⟨hM2, hR2, h382, hL2⟩, hS2⟩ := c_X10_more hW1 h38' hX1 hv1 hL1 hS1 hS30 hS1' (h := 1 - h) nlt (by omega)
          have e9 : fbk P h s (k + 1) = if (pl_wo P (bd s (pl_nx P s k)) : Int) - me P (1 - h) (pl_nx P s k) = me P h s then some k else none := by
            rw [fbk, mlk_t g4, List.find?_append]
            rw [fbk] at hf
            rw [hf]
            by_cases q : (pl_wo P (bd s (pl_nx P s k)) : Int) - me P (1 - h) (pl_nx P s k) = me P h s
            · rw [if_pos q]; simp [q]
            · rw [if_neg q]; simp [q]
          refine aa_go (aa_aload0 iX10_firstBest_55) (aa_go (aa_getR iX10_firstBest_56 fl_X10_22 (sh_38 hW1) rfl) (aa_go (aa_iload1 iX10_firstBest_59) (aa_go (aa_iload6 iX10_firstBest_60) (aa_go (aa_iconst iX10_firstBest_62 ki_m1) (aa_go (aa_ixor iX10_firstBest_63) (aa_go (aa_iandC iX10_firstBest_64) (aa_go (aa_cVi iX10_firstBest_65 (c_X6_worthOf hW1 hX1 bdl) (by decide) lc_X6_worthOf lk_X10_52 (sh_7 hW1) rfl rfl (Nat.le_of_ble_eq_true rfl)) ?_)))))))
          refine aa_go (aa_aload0 iX10_firstBest_68) (aa_go (aa_iload6 iX10_firstBest_69) (aa_go (aa_iconst iX10_firstBest_71 ki_1) (aa_go (aa_iload2 iX10_firstBest_72) (aa_go (aa_isubN iX10_firstBest_73 (by omega)) (aa_go (aa_cVi iX10_firstBest_74 (hS2) (by decide) lc_X10_more lk_X10_63 (sh_38 hW1) rfl rfl (Nat.le_of_ble_eq_true rfl)) (aa_go (aa_isub iX10_firstBest_77) ?_))))))
          refine aa_go (aa_top (y := iZ ((pl_wo P (bd s (pl_nx P s k)) : Int) - me P (1 - h) (pl_nx P s k))) (by rw [iZ_N, iZ_sub])) ?_
          refine aa_go (aa_iload3 iX10_firstBest_78) ?_
          refine aa_ic_ne iX10_firstBest_79 (fun g5 => ?_) (fun g5 => ?_)
          · skip
            rw [iZ_eq (by omega) (by omega) (by omega) (by omega)] at g5
            refine aa_go (aa_iincN5 (k := 1) iX10_firstBest_85 rfl (by decide)) (aa_go (aa_goto iX10_firstBest_88) ?_)
            exact ih (k + 1) r2 dy2 σ2 _ (by omega) (by omega) (hM.tr hM2) (fun _ => hR2) h382 hL2 (by rw [e9, if_neg g5])
          · skip
            rw [iZ_eq (by omega) (by omega) (by omega) (by omega)] at g5
            refine aa_go (aa_iload5 iX10_firstBest_82) ?_
            refine aa_iret iX10_firstBest_84 rfl ?_
            exact ⟨by rw [done (k + 1) (by omega) k (by rw [e9, if_pos g5])]; rfl, r2, dy2, hM.tr hM2, fun _ => hR2, h382, hL2⟩
  have key : aa_V mX10_firstBest 25 0 [some (.ref 38), some (.int (nI s)), some (.int (nI h)), none, none, none, none] [] σ (fun ra σ' => ra = some (.int (oI (fbk P h s (pl_n P + pl_b P)))) ∧ ∃ r' dy', MX (2 ^ (pl_n P + pl_b P)) v 4 39 r dy σ r' dy' σ' ∧ S4 P v r' S σ' ∧ r' 4 ≠ 38 ∧ σ'.2.1 38 2 = lN S) := by
    obtain ⟨r1, dy1, σ1, ⟨hM1, hR1, h381, hL1⟩, hSa⟩ := c_X10_more hW h38 hX hv hL hS1 hS30 hS hs2 hh
    have hW1 := hM1.W
    have hX1 := hM1.XP (by decide) hX
    refine aa_go (aa_aload0 iX10_firstBest_0) (aa_go (aa_iload1 iX10_firstBest_1) (aa_go (aa_iload2 iX10_firstBest_2) (aa_go (aa_cVi iX10_firstBest_3 (hSa) (by decide) lc_X10_more lk_X10_63 (sh_38 hW) rfl rfl (Nat.le_of_ble_eq_true rfl)) ?_)))
    refine aa_go (aa_istore3 iX10_firstBest_6 rfl (by decide)) (aa_go (aa_aload0 iX10_firstBest_7) (aa_go (aa_getR iX10_firstBest_8 fl_X10_22 (sh_38 hW1) rfl) (aa_go (aa_iload1 iX10_firstBest_11) (aa_go (aa_iload2 iX10_firstBest_12) (aa_go (aa_cVi iX10_firstBest_13 (c_X6_moves hW1 hX1 (by omega)) (by decide) lc_X6_moves lk_X10_39 (sh_7 hW1) rfl rfl (Nat.le_of_ble_eq_true rfl)) (aa_go (aa_istore4 iX10_firstBest_16 rfl (by decide)) (aa_go (aa_iconst iX10_firstBest_18 ki_0) ?_)))))))
    refine aa_go (aa_istore5 iX10_firstBest_19 rfl (by decide)) ?_
    exact loop (pl_n P + pl_b P + 1) 0 r1 dy1 σ1 _ (by omega) (by omega) hM1 (fun _ => hR1) h381 hL1 rfl
  obtain ⟨ra, σ', ⟨rfl, r', dy', h1⟩, hS9⟩ := aa_S_of (avs := [.ref 38, .int (nI s), .int (nI h)]) (by decide) 4 [some (.ref 38), some (.int (nI s)), some (.int (nI h)), none, none, none, none] rfl rfl key
  exact ⟨r', dy', σ', h1, hS9⟩
end
