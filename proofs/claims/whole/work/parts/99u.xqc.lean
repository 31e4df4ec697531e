/-! THE REFERENCE, PUBLIC METHODS: means, heaps, joining, alike -/
section
variable {P P' : pl_T} {tx tx' : Nat → Nat} {n n' : Nat} {g g' : gm_T} {kp kp' : Nat → Option gm_T} {lk lk' tl tl' : Nat} {rw rw' : Nat → Int} {Q Q' : Nat} {r : Nat → Nat} {dy : List aa_Shp} {σ σ' : aa_St}
theorem gth_and (ok : pl_ok P) : cv P (gst g) &&& 16383 = gth P g := cv_th ok _
theorem gth_14 (ok : pl_ok P) : pl_cn (gth P g) 32 = pl_cn (gth P g) 14 := by
  have := gth_lt P g
  rw [cn_up this (show pl_n P ≤ 32 by have := ok.1; omega), cn_up this (show pl_n P ≤ 14 from ok.1)]
theorem gth_b0 (ok : pl_ok P) (hG : GG P g) (hb : pl_b P = 0) : gth P g = gst g ∧ cv P (gst g) = gst g ∧ gst g < 2 ^ pl_n P := by
  have sl := hG.st
  rw [hb, Nat.add_zero] at sl
  have e1 : gth P g = gst g := by
    apply bb_ext
    intro i
    by_cases c : i < pl_n P
    · exact gth_bit ok c
    · rw [bb_hi (gth_lt P g) (by omega), bb_hi sl (by omega)]
  refine ⟨e1, ?_, sl⟩
  have n14 := ok.1
  apply cv_ext
  · intro i hi
    by_cases c : i < pl_n P
    · exact cv_lo ok c
    · rw [cv_mid c hi, bb_hi sl (by omega)]
  · intro q
    rw [cv_hi2 (by omega), bb_hi sl (by omega)]
theorem mean_div (z : Int) (w c : Nat) (hw : 0 < w) (hc : 0 < c) : (z * c).tdiv (gcN (z * c).natAbs (w * c)) = z.tdiv (Nat.gcd z.natAbs w) ∧ w * c / gcN (z * c).natAbs (w * c) = w / Nat.gcd z.natAbs w := by
  have e : gcN (z * c).natAbs (w * c) = Nat.gcd z.natAbs w * c := by
    unfold gcN
    rw [Int.natAbs_mul, Int.natAbs_natCast, Nat.gcd_mul_right]
    have : 0 < Nat.gcd z.natAbs w * c := Nat.mul_pos (Nat.gcd_pos_of_pos_right _ hw) hc
    omega
  rw [e]
  constructor
  · rw [Int.natCast_mul, Int.mul_tdiv_mul_of_pos_left _ _ (by omega)]
  · rw [Nat.mul_div_mul_right _ _ hc]
theorem q_meanT (h : MI P tx n g kp lk tl rw Q r dy σ) (hc : 6 < pl_cn (gth P g) 14 ∨ 0 < pl_b P) : ∃ σ', MJ P tx n g kp lk tl rw Q r dy σ σ' ∧ aa_SX mX12_mean 100 [.ref 63] σ (some (.int (-3))) σ' := by
  have h1 := h.thr (nI 0)
  have ok := h.ok
  have gl := gth_lt P g
  have p14 : 2 ^ pl_n P ≤ 16384 := Nat.pow_le_pow_right (by decide : 0 < 2) h.n14
  have e14 := gth_14 (g := g) ok
  have c14 := cn_14 (gth P g)
  have b2 := h.b2
  refine ⟨_, h.JB, ?_⟩
  refine aa_E_of (by decide) 7 [some (.ref 63), none, none, none, none, none, none, none] rfl rfl ?_
  refine aa_go (aa_aload0 iX12_mean_0) (aa_go (aa_iconst iX12_mean_1 ki_0) (aa_go (aa_putI iX12_mean_2 fl_X12_3 (fun h => nomatch h) (sh_63 h.W) rfl ⟨rfl, rfl⟩) ?_))
  refine aa_go (aa_aload0 iX12_mean_5) (aa_go (aa_getE iX12_mean_6 fl_X12_99 (sh_63 h1.W) rfl h1.G.1) (aa_go (aa_sipush iX12_mean_9 ks_16383) (aa_go (aa_iandN iX12_mean_12 ) ?_)))
  refine aa_go (aa_top (y := nI (gth P g)) (by rw [gth_and ok])) ?_
  refine aa_go (aa_cSi iX12_mean_13 (c_bitCount (by omega)) (by decide) lc_J6_bitCount_0f7a4 lk_X12_212 rfl (Nat.le_of_ble_eq_true rfl)) (aa_go (aa_istore1 iX12_mean_16 rfl (by decide)) (aa_go (aa_iload1 iX12_mean_17) (aa_go (aa_bipush iX12_mean_18 kb_6) ?_)))
  refine aa_ic_gtN iX12_mean_20 (by omega) (by omega) (fun g1 => ?_) (fun g1 => ?_)
  · skip
    refine aa_go (aa_bipush iX12_mean_30 kb_m3) ?_
    refine aa_iret iX12_mean_32 rfl ?_
    exact ⟨rfl, rfl⟩
  · skip
    refine aa_go (aa_aload0 iX12_mean_23) (aa_go (aa_getE iX12_mean_24 fl_X12_63 (sh_63 h1.W) rfl h1.M.2.2.1) ?_)
    refine aa_if_leN iX12_mean_27 (by omega) (fun g2 => ?_) (fun g2 => ?_)
    · skip
      omega
    · skip
      refine aa_go (aa_bipush iX12_mean_30 kb_m3) ?_
      refine aa_iret iX12_mean_32 rfl ?_
      exact ⟨rfl, rfl⟩
theorem q_mean (h : MI P tx n g kp lk tl rw Q r dy σ) (hG : GG P g) (hQ : Q + 2000 < 500000) (hc : ¬ (6 < pl_cn (gth P g) 14 ∨ 0 < pl_b P)) : ∃ σ', MJ P tx n g kp lk 2 (rw2 ((mn P (gtn g) (gth P g)).tdiv (gcN (mn P (gtn g) (gth P g)).natAbs 518400)) ((518400 / gcN (mn P (gtn g) (gth P g)).natAbs 518400 : Nat))) Q r dy σ σ' ∧ aa_SX mX12_mean 100 [.ref 63] σ (some (.int (nI 0))) σ' := by
  have h1 := h.thr (nI 0)
  have ok := h.ok
  have hb : pl_b P = 0 := by omega
  have t1 := gtn_le g
  have gl := gth_lt P g
  have p14 : 2 ^ pl_n P ≤ 16384 := Nat.pow_le_pow_right (by decide : 0 < 2) h.n14
  have e14 := gth_14 (g := g) ok
  obtain ⟨x1, x2, x3⟩ := gth_b0 ok hG hb
  rw [x1] at hc e14 gl ⊢
  have c6 : pl_cn (gst g) 32 ≤ 6 := by omega
  have mm := mn_mM ok hb 6 (gtn g) (gst g) (by omega) c6
  have mb := mn_le ok (gtn g) (gst g)
  have wb := wm_bd ⟨pl_cn (gst g) 32, by omega⟩
  have w0 : 0 < wm (pl_cn (gst g) 32) := wb.1
  have w1 : wm (pl_cn (gst g) 32) ≤ 518400 := wb.2
  have wd : wm (pl_cn (gst g) 32) * (518400 / wm (pl_cn (gst g) 32)) = 518400 := wm_dv2 ⟨pl_cn (gst g) 32, by omega⟩
  have c0 : 0 < 518400 / wm (pl_cn (gst g) 32) := Nat.div_pos w1 w0
  have md := mean_div (mM P (gtn g) (gst g)) (wm (pl_cn (gst g) 32)) (518400 / wm (pl_cn (gst g) 32)) w0 c0
  rw [wd, ← mm] at md
  rw [md.1, md.2]
  have na : (mM P (gtn g) (gst g)).natAbs ≤ (mn P (gtn g) (gst g)).natAbs := by
    rw [mm, Int.natAbs_mul, Int.natAbs_natCast]
    exact Nat.le_mul_of_pos_right _ c0
  have z1 : -4611686018427387904 ≤ mM P (gtn g) (gst g) := by omega
  have z2 : mM P (gtn g) (gst g) ≤ 4611686018427387904 := by omega
  have gp : 0 < Nat.gcd (mM P (gtn g) (gst g)).natAbs (wm (pl_cn (gst g) 32)) := Nat.gcd_pos_of_pos_right _ w0
  have gl2 : Nat.gcd (mM P (gtn g) (gst g)).natAbs (wm (pl_cn (gst g) 32)) ≤ 518400 := Nat.le_trans (Nat.gcd_le_right _ w0) w1
  obtain ⟨h2, k2, hA⟩ := h1.ask (by omega) (vM P)
  have hL : MML P (Q + 1) (aa_sI (aa_sI σ 63 0 (nI 0)) 63 24 (nI (Q + 1))) := ⟨k2.Q, fun w t hw ht hm => absurd hm (h1.fre (by omega) (by omega))⟩
  obtain ⟨σ3, ⟨hF3, hK3⟩, hS3⟩ := m_means hb 6 (gst g) (gtn g) _ (by omega) c6 x3 t1 h2.W h2.M hL
  have s3 : SQ (aa_sI (aa_sI σ 63 0 (nI 0)) 63 24 (nI (Q + 1))) σ3 := SQ.rf.M hF3
  have h3 := h2.sq s3 hK3.1
  have h4 := h3.t2 ((mM P (gtn g) (gst g)).tdiv (Nat.gcd (mM P (gtn g) (gst g)).natAbs (wm (pl_cn (gst g) 32)))) ((wm (pl_cn (gst g) 32) / Nat.gcd (mM P (gtn g) (gst g)).natAbs (wm (pl_cn (gst g) 32)) : Nat))
  have g10 := h2.G.1
  have g10' := h1.G.1
  rw [x2] at g10 g10'
  have ea : gst g &&& 16383 = gst g := by
    have := gth_and (g := g) ok
    rw [x1, x2] at this
    exact this
  refine ⟨_, h4.J (by omega) ((((MF.rf.s (by decide) _ _).s (by decide) _ _).tr s3.F).t2 _ _), ?_⟩
  refine aa_E_of (by decide) 7 [some (.ref 63), none, none, none, none, none, none, none] rfl rfl ?_
  refine aa_go (aa_aload0 iX12_mean_0) (aa_go (aa_iconst iX12_mean_1 ki_0) (aa_go (aa_putI iX12_mean_2 fl_X12_3 (fun h => nomatch h) (sh_63 h.W) rfl ⟨rfl, rfl⟩) ?_))
  refine aa_go (aa_aload0 iX12_mean_5) (aa_go (aa_getE iX12_mean_6 fl_X12_99 (sh_63 h1.W) rfl g10') (aa_go (aa_sipush iX12_mean_9 ks_16383) (aa_go (aa_iandN iX12_mean_12 ) ?_)))
  refine aa_go (aa_top (y := nI (gst g)) (by rw [ea])) ?_
  refine aa_go (aa_cSi iX12_mean_13 (c_bitCount (by omega)) (by decide) lc_J6_bitCount_0f7a4 lk_X12_212 rfl (Nat.le_of_ble_eq_true rfl)) (aa_go (aa_istore1 iX12_mean_16 rfl (by decide)) (aa_go (aa_iload1 iX12_mean_17) (aa_go (aa_bipush iX12_mean_18 kb_6) ?_)))
  refine aa_ic_gtN iX12_mean_20 (by omega) (by omega) (fun g1 => ?_) (fun g1 => ?_)
  · skip
    omega
  · skip
    refine aa_go (aa_aload0 iX12_mean_23) (aa_go (aa_getE iX12_mean_24 fl_X12_63 (sh_63 h1.W) rfl h1.M.2.2.1) ?_)
    refine aa_if_leN iX12_mean_27 (by omega) (fun g2 => ?_) (fun g2 => ?_)
    · skip
      refine aa_go (aa_aload0 iX12_mean_33) (aa_go (aa_cVv iX12_mean_34 (hA) (by decide) lc_X12_asks lk_X12_189 (sh_63 h1.W) rfl rfl (Nat.le_of_ble_eq_true rfl)) ?_)
      refine aa_go (aa_aload0 iX12_mean_37) (aa_go (aa_aload0 iX12_mean_38) (aa_go (aa_getE iX12_mean_39 fl_X12_99 (sh_63 h2.W) rfl g10) (aa_go (aa_aload0 iX12_mean_42) (aa_go (aa_getE iX12_mean_43 fl_X12_102 (sh_63 h2.W) rfl h2.G.2.1) (aa_go (aa_cVl iX12_mean_46 (hS3) (by decide) lc_X12_means lk_X12_278 (sh_63 h2.W) rfl rfl (Nat.le_of_ble_eq_true rfl)) (aa_go (aa_lstore2 iX12_mean_49 rfl (by decide)) ?_))))))
      refine aa_go (aa_iload1 iX12_mean_50) (aa_go (aa_cSl iX12_mean_51 (m_wholeOfMean c6) (by decide) lc_X12_wholeOfMean lk_X12_274 rfl (Nat.le_of_ble_eq_true rfl)) (aa_go (aa_lstore4 iX12_mean_54 rfl (by decide)) (aa_go (aa_lload2 iX12_mean_56) (aa_go (aa_mabsL (y := 0) iX12_mean_57 (by omega) lk_X12_282 (Nat.le_of_ble_eq_true rfl)) ?_))))
      refine aa_go (aa_topl (y := lN (mM P (gtn g) (gst g)).natAbs) (lZ_abs z1 z2)) ?_
      refine aa_go (aa_lload4 iX12_mean_60) (aa_go (aa_cSl iX12_mean_62 (m_common (by omega) (by omega)) (by decide) lc_X12_common lk_X12_286 rfl (Nat.le_of_ble_eq_true rfl)) (aa_go (aa_lstore6 iX12_mean_65 rfl (by decide)) (aa_go (aa_aload0 iX12_mean_67) (aa_go (aa_iconst iX12_mean_68 ki_0) (aa_go (aa_putI iX12_mean_69 fl_X12_11 (fun h => nomatch h) (sh_63 h3.W) rfl ⟨rfl, rfl⟩) (aa_go (aa_aload0 iX12_mean_72) (aa_go (aa_lload2 iX12_mean_73) ?_)))))))
      refine aa_go (aa_lload6 iX12_mean_74) (aa_go (aa_ldiv iX12_mean_76 (lN_nz gp (by omega))) ?_)
      refine aa_go (aa_topl (y := lZ ((mM P (gtn g) (gst g)).tdiv (Nat.gcd (mM P (gtn g) (gst g)).natAbs (wm (pl_cn (gst g) 32))))) (by rw [lZ_N, lZ_div (by omega) (by omega) (by omega) (by omega)])) ?_
      refine aa_go (aa_cVv iX12_mean_77 (h3.e0 _) (by decide) lc_X12_enters lk_X12_163 (sh_63 h3.W) rfl rfl (Nat.le_of_ble_eq_true rfl)) ?_
      refine aa_go (aa_aload0 iX12_mean_80) (aa_go (aa_lload4 iX12_mean_81) (aa_go (aa_lload6 iX12_mean_83) (aa_go (aa_ldivN iX12_mean_85 (by omega) (by omega) (by omega)) ?_)))
      refine aa_go (aa_topl (y := lZ ((wm (pl_cn (gst g) 32) / Nat.gcd (mM P (gtn g) (gst g)).natAbs (wm (pl_cn (gst g) 32)) : Nat))) (by rw [lZ_N])) ?_
      refine aa_go (aa_cVv iX12_mean_86 (h3.e1 _ _) (by decide) lc_X12_enters lk_X12_163 (sh_63 (h3.t1 ((mM P (gtn g) (gst g)).tdiv (Nat.gcd (mM P (gtn g) (gst g)).natAbs (wm (pl_cn (gst g) 32))))).W) rfl rfl (Nat.le_of_ble_eq_true rfl)) (aa_go (aa_iconst iX12_mean_89 ki_0) ?_)
      refine aa_iret iX12_mean_90 rfl ?_
      exact ⟨rfl, rfl⟩
    · skip
      omega
/-! heaps side by side -/
def CLo (P : pl_T) (T L : Nat) : Prop := L < 2 ^ pl_n P ∧ (∀ i, L.testBit i = true → T.testBit i = true) ∧ ∀ a b, a < pl_n P → b < pl_n P → L.testBit a = true → T.testBit b = true → (pl_tc P a).testBit b = true → L.testBit b = true
theorem CLo.gr {T L X : Nat} (h : CLo P T L) (hX : ∀ i, X.testBit i = true → L.testBit i = true) : pl_gr P T X = pl_gr P L X := by
  unfold pl_gr
  congr 1
  apply bb_ext
  intro i
  rw [Nat.testBit_and, Nat.testBit_and]
  cases q : (pl_orA (pl_tc P) X (pl_n P)).testBit i with
  | false => rfl
  | true =>
    rw [Bool.true_and, Bool.true_and, Bool.eq_iff_iff]
    obtain ⟨j, j1, j2, j3⟩ := (orA_bit _ _ _ _).mp q
    refine ⟨fun hT => h.2.2 j i j1 ?_ (hX j j2) hT j3, h.2.1 i⟩
    apply Classical.byContradiction
    intro c
    rw [bb_hi (pl_tc_lt P j) (by omega)] at j3
    exact absurd j3 (by decide)
theorem CLo.it {T L : Nat} (h : CLo P T L) : ∀ k X, (∀ i, X.testBit i = true → L.testBit i = true) → pl_it P T k X = pl_it P L k X
  | 0, X, _ => rfl
  | k + 1, X, hX => by
    rw [it_out, it_out, h.it k X hX, h.gr (it_in k X hX)]
theorem CLo.hp {T L k : Nat} (h : CLo P T L) (hk : L.testBit k = true) : pl_hp P T k = pl_hp P L k := by
  have e : 2 ^ k &&& T = 2 ^ k &&& L := by
    apply bb_ext
    intro i
    rw [Nat.testBit_and, Nat.testBit_and, bb_tp]
    by_cases c : k = i
    · subst c; rw [hk, h.2.1 k hk]
    · rw [decide_eq_false c]; rfl
  unfold pl_hp
  rw [e]
  exact h.it _ _ (fun i hi => by rw [Nat.testBit_and, Bool.and_eq_true] at hi; exact hi.2)
theorem CLo.next {T L k : Nat} (h : CLo P T L) (hk : L.testBit k = true) : CLo P T (bd L (pl_hp P L k)) := by
  refine ⟨bb_bd h.1, fun i hi => ?_, fun a b ha hb hLa hTb hab => ?_⟩
  · rw [bd_bit, Bool.and_eq_true] at hi
    exact h.2.1 i hi.1
  · rw [bd_bit, Bool.and_eq_true] at hLa ⊢
    have hLb := h.2.2 a b ha hb hLa.1 hTb hab
    refine ⟨hLb, ?_⟩
    cases q : (pl_hp P L k).testBit b with
    | false => rfl
    | true =>
      have hba : (pl_tc P b).testBit a = true := by
        rw [tc_bit ha, Bool.or_comm, ← tc_bit hb]; exact hab
      have := hp_tc h.1 hk q hb hba hLa.1
      rw [this] at hLa
      exact absurd hLa.2 (by decide)
theorem hpw_skip {th k : Nat} : ∀ d, (∀ i, k ≤ i → i < k + d → (hpw P th k).2.testBit i = false) → hpw P th (k + d) = hpw P th k
  | 0, _ => rfl
  | d + 1, hz => by
    have ih := hpw_skip d (fun i h1 h2 => hz i h1 (by omega))
    rw [show k + (d + 1) = k + d + 1 by omega, hpw, ih, hz (k + d) (by omega) (by omega)]
    rfl
theorem hpR_a (L : List Nat) (v : Nat) : (∀ i, i < L.length → hpR (L ++ [v]) i = hpR L i) ∧ hpR (L ++ [v]) L.length = v := by
  constructor
  · intro i hi
    rw [hpR, hpR, List.getD_eq_getElem?_getD, List.getD_eq_getElem?_getD, List.getElem?_append_left hi]
  · rw [hpR, List.getD_eq_getElem?_getD, List.getElem?_append_right (Nat.le_refl _), Nat.sub_self]; rfl
theorem q_heaps (h : MI P tx n g kp lk tl rw Q r dy σ) (hQ : Q + 2000 < 500000) : ∃ σ', MJ P tx n g kp lk (hpw P (gth P g) (pl_n P)).1.length (hpR (hpw P (gth P g) (pl_n P)).1) Q r dy σ σ' ∧ aa_SX mX12_heaps 100 [.ref 63] σ (some (.int (nI (hpw P (gth P g) (pl_n P)).1.length))) σ' := by
  have h1 := h.thr (nI 0)
  have ok := h.ok
  have n14 := h.n14
  have gl := gth_lt P g
  have p14 : 2 ^ pl_n P ≤ 16384 := Nat.pow_le_pow_right (by decide : 0 < 2) n14
  have loop : ∀ f k (σ1 : aa_St) y3, pl_n P - k < f → k ≤ pl_n P → CLo P (gth P g) (hpw P (gth P g) k).2 → (∀ i, i < k → (hpw P (gth P g) k).2.testBit i = false) → MI P tx n g kp lk (hpw P (gth P g) k).1.length (hpR (hpw P (gth P g) k).1) (Q + (hpw P (gth P g) k).1.length) r dy σ1 → MF σ σ1 → aa_V mX12_heaps 100 21 [some (.ref 63), some (.int (nI (hpw P (gth P g) k).2)), some (.int (nI (hpw P (gth P g) k).1.length)), y3] [] σ1 (fun ra σ' => ra = some (.int (nI (hpw P (gth P g) (pl_n P)).1.length)) ∧ MJ P tx n g kp lk (hpw P (gth P g) (pl_n P)).1.length (hpR (hpw P (gth P g) (pl_n P)).1) Q r dy σ σ') := by
    intro f
    induction f with
    | zero => intro k σ1 y3 g1; omega
    | succ f ih =>
      intro k σ1 y3 g1 g2 hC hz hI hF
      have hl := hpw_le P gl k
      refine aa_go (aa_iload1 iX12_heaps_21) ?_
      refine aa_if_eqN iX12_heaps_22 (by omega) (fun g3 => ?_) (fun g3 => ?_)
      · skip
        have e : hpw P (gth P g) (pl_n P) = hpw P (gth P g) k := by
          have := hpw_skip (P := P) (th := gth P g) (k := k) (pl_n P - k) (fun i _ _ => by rw [g3, Nat.zero_testBit])
          rw [show k + (pl_n P - k) = pl_n P by omega] at this
          exact this
        refine aa_go (aa_iload2 iX12_heaps_56) ?_
        refine aa_iret iX12_heaps_57 rfl ?_
        rw [e]
        exact ⟨rfl, hI.J (by omega) hF⟩
      · skip
        obtain ⟨l1, l2, l3⟩ := lo1_spec g3 (by omega)
        generalize ej : lo1 (hpw P (gth P g) k).2 = j at l1 l2 l3
        have jn : j < pl_n P := by
          apply Classical.byContradiction
          intro c
          rw [bb_hi hl.2 (by omega)] at l2
          exact absurd l2 (by decide)
        have kj : k ≤ j := by
          apply Classical.byContradiction
          intro c
          rw [hz j (by omega)] at l2
          exact absurd l2 (by decide)
        have e : hpw P (gth P g) j = hpw P (gth P g) k := by
          have := hpw_skip (P := P) (th := gth P g) (k := k) (j - k) (fun i _ _ => l3 i (by omega))
          rw [show k + (j - k) = j by omega] at this
          exact this
        have hpe := hC.hp l2
        have hTj := hC.2.1 j l2
        have hp16 := pl_hp_lt (P := P) (i := j) hl.2
        have hS1 := m_heapOf hI.W hI.M (cv_lt _) hI.G.1 gl (fun i hi => gth_cv ok hi) jn hTj
        rw [hpe] at hS1
        obtain ⟨σ2, ⟨hF2, hQ2⟩, hS2⟩ := m_aloneOf hI.W hI.M (a := pl_hp P (hpw P (gth P g) k).2 j) (by omega) hI.q (by omega)
        rw [dv_done ok (by omega)] at hS2
        have s2 : SQ σ1 σ2 := (SQ.rf.f (by decide) _).A hF2
        have h2 := hI.sq s2 hQ2
        have vb := vl_le ok (jtP P (pl_hp P (hpw P (gth P g) k).2 j))
        have hr := hpR_a (hpw P (gth P g) k).1 (vl P (jtP P (pl_hp P (hpw P (gth P g) k).2 j)))
        have h3 := h2.row1 (rw' := hpR ((hpw P (gth P g) k).1 ++ [vl P (jtP P (pl_hp P (hpw P (gth P g) k).2 j))])) (by omega) _ hr.1 hr.2
        have hE := h2.ent (show (hpw P (gth P g) k).1.length < 20 by omega) (lZ (vl P (jtP P (pl_hp P (hpw P (gth P g) k).2 j))))
        have es : hpw P (gth P g) (j + 1) = ((hpw P (gth P g) k).1 ++ [vl P (jtP P (pl_hp P (hpw P (gth P g) k).2 j))], bd (hpw P (gth P g) k).2 (pl_hp P (hpw P (gth P g) k).2 j)) := by
          rw [hpw, e, if_pos l2]
        have nxt := ih (j + 1) (aa_sI (aa_sL σ2 64 (hpw P (gth P g) k).1.length (lZ (vl P (jtP P (pl_hp P (hpw P (gth P g) k).2 j))))) 63 1 (nI ((hpw P (gth P g) k).1.length + 1))) (some (.int (nI (pl_hp P (hpw P (gth P g) k).2 j)))) (by omega) (by omega)
        rw [es] at nxt
        rw [List.length_append] at nxt
        refine aa_go (aa_aload0 iX12_heaps_25) (aa_go (aa_iload1 iX12_heaps_26) (aa_go (aa_cSi iX12_heaps_27 (c_ntz (lb_nI (by omega) l2 l3)) (by decide) lc_J6_numberOfTrailingZeros_0f7a4 lk_X12_217 rfl (Nat.le_of_ble_eq_true rfl)) (aa_go (aa_cVi iX12_heaps_30 (hS1) (by decide) lc_X12_heapOf lk_X12_237 (sh_63 hI.W) rfl rfl (Nat.le_of_ble_eq_true rfl)) (aa_go (aa_istore3 iX12_heaps_33 rfl (by decide)) (aa_go (aa_aload0 iX12_heaps_34) (aa_go (aa_aload0 iX12_heaps_35) (aa_go (aa_iload3 iX12_heaps_36) ?_)))))))
        refine aa_go (aa_cVi iX12_heaps_37 (hS2) (by decide) lc_X12_aloneOf lk_X12_234 (sh_63 hI.W) rfl rfl (Nat.le_of_ble_eq_true rfl)) (aa_go (aa_i2lN iX12_heaps_40 (by omega)) ?_)
        refine aa_go (aa_topl (y := lZ (vl P (jtP P (pl_hp P (hpw P (gth P g) k).2 j)))) (by rw [lZ_N])) ?_
        refine aa_go (aa_cVv iX12_heaps_41 (hE) (by decide) lc_X12_enters lk_X12_163 (sh_63 h2.W) rfl rfl (Nat.le_of_ble_eq_true rfl)) ?_
        refine aa_go (aa_iload1 iX12_heaps_44) (aa_go (aa_iload3 iX12_heaps_45) (aa_go (aa_iconst iX12_heaps_46 ki_m1) (aa_go (aa_ixor iX12_heaps_47) (aa_go (aa_iandC iX12_heaps_48) (aa_go (aa_istore1 iX12_heaps_49 rfl (by decide)) (aa_go (aa_iincN2 (k := 1) iX12_heaps_50 rfl (by decide)) (aa_go (aa_goto iX12_heaps_53) ?_)))))))
        refine nxt (hC.next l2) (fun i hi => ?_) h3 (((hF.tr s2.F).l (by decide) _ _).s (by decide) _ _)
        show (bd (hpw P (gth P g) k).2 (pl_hp P (hpw P (gth P g) k).2 j)).testBit i = false
        rw [bd_bit]
        by_cases c : i = j
        · subst c
          rw [hp_bit l2]; simp
        · rw [l3 i (by omega)]; rfl
  have key : aa_V mX12_heaps 100 0 [some (.ref 63), none, none, none] [] σ (fun ra σ' => ra = some (.int (nI (hpw P (gth P g) (pl_n P)).1.length)) ∧ MJ P tx n g kp lk (hpw P (gth P g) (pl_n P)).1.length (hpR (hpw P (gth P g) (pl_n P)).1) Q r dy σ σ') := by
    have h2 : MI P tx n g kp lk 0 (hpR []) Q r dy (aa_sI (aa_sI σ 63 0 (nI 0)) 63 1 (nI 0)) := h1.row0
    refine aa_go (aa_aload0 iX12_heaps_0) (aa_go (aa_iconst iX12_heaps_1 ki_0) (aa_go (aa_putI iX12_heaps_2 fl_X12_3 (fun h => nomatch h) (sh_63 h.W) rfl ⟨rfl, rfl⟩) ?_))
    refine aa_go (aa_aload0 iX12_heaps_5) (aa_go (aa_iconst iX12_heaps_6 ki_0) (aa_go (aa_putI iX12_heaps_7 fl_X12_11 (fun h => nomatch h) (sh_63 h1.W) rfl ⟨rfl, rfl⟩) ?_))
    refine aa_go (aa_aload0 iX12_heaps_10) (aa_go (aa_getE iX12_heaps_11 fl_X12_99 (sh_63 h2.W) rfl h2.G.1) (aa_go (aa_sipush iX12_heaps_14 ks_16383) (aa_go (aa_iandN iX12_heaps_17 ) ?_)))
    refine aa_go (aa_top (y := nI (gth P g)) (by rw [gth_and ok])) ?_
    refine aa_go (aa_istore1 iX12_heaps_18 rfl (by decide)) (aa_go (aa_iconst iX12_heaps_19 ki_0) (aa_go (aa_istore2 iX12_heaps_20 rfl (by decide)) ?_))
    exact loop (pl_n P + 1) 0 _ _ (by omega) (by omega) ⟨gl, fun i hi => hi, fun a b _ _ _ hT _ => hT⟩ (fun i hi => by omega) h2 ((MF.rf.s (by decide) _ _).s (by decide) _ _)
  obtain ⟨ra, σ', ⟨rfl, h9⟩, hS9⟩ := aa_S_of (avs := [.ref 63]) (by decide) 3 [some (.ref 63), none, none, none] rfl rfl key
  exact ⟨σ', h9, hS9⟩
end
