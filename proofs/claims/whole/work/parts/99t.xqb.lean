/-! THE REFERENCE, PUBLIC METHODS: parrots, out, means -/
section
variable {P P' : pl_T} {tx tx' : Nat → Nat} {n n' : Nat} {g g' : gm_T} {kp kp' : Nat → Option gm_T} {lk lk' tl tl' : Nat} {rw rw' : Nat → Int} {Q Q' : Nat} {r : Nat → Nat} {dy : List aa_Shp} {σ σ' : aa_St}
theorem ffk_lt {w s j : Nat} (h : ffk P lk w s (pl_n P + pl_b P) = some j) : j < pl_n P + pl_b P := mlk_lt (List.mem_of_find?_eq_some h)
theorem q_parrot (h : MI P tx n g kp lk tl rw Q r dy σ) (hG : GG P g) (hQ : Q + 2000 < 500000) {t : Nat} (ht : t ≤ 2) : ∃ σ', MJ P tx n g kp lk 1 (rw1 (mvZ P (ffk P lk t (gst g) (pl_n P + pl_b P)))) Q r dy σ σ' ∧ aa_SX mX12_parrot 100 [.ref 63, .int (nI t)] σ (some (.int (nI (kpB P lk t (gst g))))) σ' := by
  have h1 := h.thr (nI 0)
  have ok := h.ok
  obtain ⟨σ3, ⟨h3, s3, -, hm⟩, hA, h2, hS3⟩ := m_keepQ h1 hG (by omega) ht
  have h4 := h3.t1 (mvZ P (ffk P lk t (gst g) (pl_n P + pl_b P)))
  have hz := mvZ_b2 ok (o := ffk P lk t (gst g) (pl_n P + pl_b P)) (fun j hj => ffk_lt hj)
  have hf : (aa_sI σ3 63 1 (nI 0)).1 63 25 = iZ (mvZ P (ffk P lk t (gst g) (pl_n P + pl_b P))) := by rw [sI_nk (by decide)]; exact hm
  refine ⟨_, h4.J (by omega) (((MF.rf.s (by decide) _ _).tr s3.F).t1 _), ?_⟩
  refine aa_E_of (by decide) 1 [some (.ref 63), some (.int (nI t)), none] rfl rfl ?_
  refine aa_go (aa_aload0 iX12_parrot_0) (aa_go (aa_iconst iX12_parrot_1 ki_0) (aa_go (aa_putI iX12_parrot_2 fl_X12_3 (fun h => nomatch h) (sh_63 h.W) rfl ⟨rfl, rfl⟩) ?_))
  refine aa_go (aa_iload1 iX12_parrot_5) (aa_go (aa_i2lN iX12_parrot_6 (by omega)) (aa_go (aa_lconst iX12_parrot_7 kl_0) (aa_go (aa_ldc2 iX12_parrot_8 ld_X12_144) (aa_go (aa_cSi iX12_parrot_11 (m_inN (hi := 2) (by omega) (by omega)) (by decide) lc_X12_in lk_X12_21 rfl (Nat.le_of_ble_eq_true rfl)) ?_))))
  refine aa_if_neB iX12_parrot_14 (fun g1 => ?_) (fun g1 => ?_)
  · skip
    refine aa_go (aa_aload0 iX12_parrot_19) (aa_go (aa_cVv iX12_parrot_20 (hA) (by decide) lc_X12_asks lk_X12_189 (sh_63 h1.W) rfl rfl (Nat.le_of_ble_eq_true rfl)) ?_)
    refine aa_go (aa_aload0 iX12_parrot_23) (aa_go (aa_aload0 iX12_parrot_24) (aa_go (aa_getE iX12_parrot_25 fl_X12_99 (sh_63 h2.W) rfl h2.G.1) (aa_go (aa_iload1 iX12_parrot_28) (aa_go (aa_iconst iX12_parrot_29 ki_3) (aa_go (aa_cVi iX12_parrot_30 (hS3) (by decide) lc_X12_keeper lk_X12_293 (sh_63 h2.W) rfl rfl (Nat.le_of_ble_eq_true rfl)) (aa_go (aa_istore2 iX12_parrot_33 rfl (by decide)) ?_))))))
    refine aa_go (aa_aload0 iX12_parrot_34) (aa_go (aa_iconst iX12_parrot_35 ki_0) (aa_go (aa_putI iX12_parrot_36 fl_X12_11 (fun h => nomatch h) (sh_63 h3.W) rfl ⟨rfl, rfl⟩) (aa_go (aa_aload0 iX12_parrot_39) (aa_go (aa_aload0 iX12_parrot_40) (aa_go (aa_getE iX12_parrot_41 fl_X12_198 (sh_63 h3.W) rfl hf) (aa_go (aa_i2l iX12_parrot_44) ?_))))))
    refine aa_go (aa_topl (y := lZ (mvZ P (ffk P lk t (gst g) (pl_n P + pl_b P)))) (iZ_l (by omega) (by omega))) ?_
    refine aa_go (aa_cVv iX12_parrot_45 (h3.e0 _) (by decide) lc_X12_enters lk_X12_163 (sh_63 h3.W) rfl rfl (Nat.le_of_ble_eq_true rfl)) (aa_go (aa_iload2 iX12_parrot_48) ?_)
    refine aa_iret iX12_parrot_49 rfl ?_
    exact ⟨rfl, rfl⟩
  · skip
    exact absurd ht (of_decide_eq_false g1)
theorem q_parrotB (h : MI P tx n g kp lk tl rw Q r dy σ) {x : Int32} (hx : x < 0 ∨ nI 2 < x) : ∃ σ', MJ P tx n g kp lk tl rw Q r dy σ σ' ∧ aa_SX mX12_parrot 100 [.ref 63, .int x] σ (some (.int (-1))) σ' := by
  have h1 := h.thr (nI 0)
  refine ⟨_, h.JB, ?_⟩
  refine aa_E_of (by decide) 1 [some (.ref 63), some (.int (x)), none] rfl rfl ?_
  refine aa_go (aa_aload0 iX12_parrot_0) (aa_go (aa_iconst iX12_parrot_1 ki_0) (aa_go (aa_putI iX12_parrot_2 fl_X12_3 (fun h => nomatch h) (sh_63 h.W) rfl ⟨rfl, rfl⟩) ?_))
  refine aa_go (aa_iload1 iX12_parrot_5) (aa_go (aa_i2l iX12_parrot_6) (aa_go (aa_lconst iX12_parrot_7 kl_0) (aa_go (aa_ldc2 iX12_parrot_8 ld_X12_144) (aa_go (aa_cSi iX12_parrot_11 (m_inB (c := 2) (by omega) hx) (by decide) lc_X12_in lk_X12_21 rfl (Nat.le_of_ble_eq_true rfl)) ?_))))
  refine aa_if_neB iX12_parrot_14 (fun g1 => ?_) (fun g1 => ?_)
  · skip
    exact absurd g1 (by decide)
  · skip
    refine aa_go (aa_iconst iX12_parrot_17 ki_m1) ?_
    refine aa_iret iX12_parrot_18 rfl ?_
    exact ⟨rfl, rfl⟩
def orK (P : pl_T) (lk s : Nat) : Nat → Nat
  | 0 => 0
  | k + 1 => orK P lk s k ||| 2 ^ kpB P lk k s
theorem orK_lt (ok : pl_ok P) (s : Nat) : ∀ k, k ≤ 3 → orK P lk s k < 16
  | 0, _ => by show 0 < 16; decide
  | k + 1, hk => by
    have := kpB_le (lk := lk) ok (show k ≤ 2 by omega) s
    exact bb_or (k := 4) (orK_lt ok s k (by omega)) (bb_p2 (by omega))
theorem q_parrots (h : MI P tx n g kp lk tl rw Q r dy σ) (hG : GG P g) (hQ : Q + 2000 < 500000) : ∃ σ', MJ P tx n g kp lk 3 (rw3 (kpB P lk 0 (gst g)) (kpB P lk 1 (gst g)) (kpB P lk 2 (gst g))) Q r dy σ σ' ∧ aa_SX mX12_parrots 100 [.ref 63] σ (some (.int (nI (pl_cn (2 ^ kpB P lk 0 (gst g) ||| 2 ^ kpB P lk 1 (gst g) ||| 2 ^ kpB P lk 2 (gst g)) 32)))) σ' := by
  have h1 := h.thr (nI 0)
  have ok := h.ok
  have k0 := kpB_le (lk := lk) h.ok (show 0 ≤ 2 by omega) (gst g)
  have k1 := kpB_le (lk := lk) h.ok (show 1 ≤ 2 by omega) (gst g)
  have k2 := kpB_le (lk := lk) h.ok (show 2 ≤ 2 by omega) (gst g)
  have eo : orK P lk (gst g) 3 = 2 ^ kpB P lk 0 (gst g) ||| 2 ^ kpB P lk 1 (gst g) ||| 2 ^ kpB P lk 2 (gst g) := by
    show 0 ||| _ ||| _ ||| _ = _
    rw [Nat.zero_or]
  rw [← eo]
  have ol := orK_lt (lk := lk) ok (gst g) 3 (by omega)
  have fin : ∀ σ1 : aa_St, MI P tx n g kp lk tl rw (Q + 3) r dy σ1 → MF σ σ1 → (∀ j, j < 3 → σ1.1 81 j = nI (kpB P lk j (gst g))) → aa_V mX12_parrots 100 51 [some (.ref 63), some (.int (nI (orK P lk (gst g) 3))), some (.int (nI 3))] [] σ1 (fun ra σ' => ra = some (.int (nI (pl_cn (orK P lk (gst g) 3) 32))) ∧ MJ P tx n g kp lk 3 (rw3 (kpB P lk 0 (gst g)) (kpB P lk 1 (gst g)) (kpB P lk 2 (gst g))) Q r dy σ σ') := by
    intro σ1 hI hF hj
    have a1 := hI.t1 (kpB P lk 0 (gst g))
    have a2 := hI.t2 (kpB P lk 0 (gst g)) (kpB P lk 1 (gst g))
    have a3 := hI.t3 (kpB P lk 0 (gst g)) (kpB P lk 1 (gst g)) (kpB P lk 2 (gst g))
    have r0 : (aa_sI σ1 63 1 (nI 0)).1 81 0 = nI (kpB P lk 0 (gst g)) := by rw [sI_ne (by decide)]; exact hj 0 (by omega)
    have r1 : (t1S σ1 (kpB P lk 0 (gst g))).1 81 1 = nI (kpB P lk 1 (gst g)) := by rw [t1_i (by decide)]; exact hj 1 (by omega)
    have r2 : (t2S σ1 (kpB P lk 0 (gst g)) (kpB P lk 1 (gst g))).1 81 2 = nI (kpB P lk 2 (gst g)) := by rw [t2_i (by decide)]; exact hj 2 (by omega)
    refine aa_go (aa_aload0 iX12_parrots_51) (aa_go (aa_iconst iX12_parrots_52 ki_0) (aa_go (aa_putI iX12_parrots_53 fl_X12_11 (fun h => nomatch h) (sh_63 hI.W) rfl ⟨rfl, rfl⟩) (aa_go (aa_iconst iX12_parrots_56 ki_0) (aa_go (aa_istore2 iX12_parrots_57 rfl (by decide)) (aa_go (aa_iload2 iX12_parrots_58) (aa_go (aa_iconst iX12_parrots_59 ki_3) ?_))))))
    refine aa_ic_geN iX12_parrots_60 (by omega) (by omega) (fun g1 => ?_) (fun g1 => ?_)
    · skip
      omega
    · skip
      refine aa_go (aa_aload0 iX12_parrots_63) (aa_go (aa_aload0 iX12_parrots_64) (aa_go (aa_getR iX12_parrots_65 fl_X12_299 (sh_63 hI.W) rfl) (aa_go (aa_iload2 iX12_parrots_68) (aa_go (aa_ialE iX12_parrots_69 (sh_81 hI.W) (by omega) (by omega) (r0)) (aa_go (aa_i2lN iX12_parrots_70 (by omega)) ?_)))))
      refine aa_go (aa_topl (y := lZ (kpB P lk 0 (gst g))) (by rw [lZ_N])) ?_
      refine aa_go (aa_cVv iX12_parrots_71 (hI.e0 _) (by decide) lc_X12_enters lk_X12_163 (sh_63 hI.W) rfl rfl (Nat.le_of_ble_eq_true rfl)) ?_
      refine aa_go (aa_iincN2 (k := 1) iX12_parrots_74 rfl (by decide)) (aa_go (aa_goto iX12_parrots_77) (aa_go (aa_iload2 iX12_parrots_58) (aa_go (aa_iconst iX12_parrots_59 ki_3) ?_)))
      refine aa_ic_geN iX12_parrots_60 (by omega) (by omega) (fun g2 => ?_) (fun g2 => ?_)
      · skip
        omega
      · skip
        refine aa_go (aa_aload0 iX12_parrots_63) (aa_go (aa_aload0 iX12_parrots_64) (aa_go (aa_getR iX12_parrots_65 fl_X12_299 (sh_63 a1.W) rfl) (aa_go (aa_iload2 iX12_parrots_68) (aa_go (aa_ialE iX12_parrots_69 (sh_81 a1.W) (by omega) (by omega) (r1)) (aa_go (aa_i2lN iX12_parrots_70 (by omega)) ?_)))))
        refine aa_go (aa_topl (y := lZ (kpB P lk 1 (gst g))) (by rw [lZ_N])) ?_
        refine aa_go (aa_cVv iX12_parrots_71 (hI.e1 _ _) (by decide) lc_X12_enters lk_X12_163 (sh_63 a1.W) rfl rfl (Nat.le_of_ble_eq_true rfl)) ?_
        refine aa_go (aa_iincN2 (k := 1) iX12_parrots_74 rfl (by decide)) (aa_go (aa_goto iX12_parrots_77) (aa_go (aa_iload2 iX12_parrots_58) (aa_go (aa_iconst iX12_parrots_59 ki_3) ?_)))
        refine aa_ic_geN iX12_parrots_60 (by omega) (by omega) (fun g3 => ?_) (fun g3 => ?_)
        · skip
          omega
        · skip
          refine aa_go (aa_aload0 iX12_parrots_63) (aa_go (aa_aload0 iX12_parrots_64) (aa_go (aa_getR iX12_parrots_65 fl_X12_299 (sh_63 a2.W) rfl) (aa_go (aa_iload2 iX12_parrots_68) (aa_go (aa_ialE iX12_parrots_69 (sh_81 a2.W) (by omega) (by omega) (r2)) (aa_go (aa_i2lN iX12_parrots_70 (by omega)) ?_)))))
          refine aa_go (aa_topl (y := lZ (kpB P lk 2 (gst g))) (by rw [lZ_N])) ?_
          refine aa_go (aa_cVv iX12_parrots_71 (hI.e2 _ _ _) (by decide) lc_X12_enters lk_X12_163 (sh_63 a2.W) rfl rfl (Nat.le_of_ble_eq_true rfl)) ?_
          refine aa_go (aa_iincN2 (k := 1) iX12_parrots_74 rfl (by decide)) (aa_go (aa_goto iX12_parrots_77) (aa_go (aa_iload2 iX12_parrots_58) (aa_go (aa_iconst iX12_parrots_59 ki_3) ?_)))
          refine aa_ic_geN iX12_parrots_60 (by omega) (by omega) (fun g4 => ?_) (fun g4 => ?_)
          · skip
            refine aa_go (aa_iload1 iX12_parrots_80) (aa_go (aa_cSi iX12_parrots_81 (c_bitCount (by omega)) (by decide) lc_J6_bitCount_0f7a4 lk_X12_212 rfl (Nat.le_of_ble_eq_true rfl)) ?_)
            refine aa_iret iX12_parrots_84 rfl ?_
            exact ⟨rfl, a3.J (by omega) (hF.t3 _ _ _)⟩
          · skip
            omega
  have loop : ∀ f q (σ1 : aa_St), 3 - q < f → q ≤ 3 → MI P tx n g kp lk tl rw (Q + q) r dy σ1 → MF σ σ1 → (∀ j, j < q → σ1.1 81 j = nI (kpB P lk j (gst g))) → aa_V mX12_parrots 100 9 [some (.ref 63), some (.int (nI (orK P lk (gst g) q))), some (.int (nI q))] [] σ1 (fun ra σ' => ra = some (.int (nI (pl_cn (orK P lk (gst g) 3) 32))) ∧ MJ P tx n g kp lk 3 (rw3 (kpB P lk 0 (gst g)) (kpB P lk 1 (gst g)) (kpB P lk 2 (gst g))) Q r dy σ σ') := by
    intro f
    induction f with
    | zero => intro q σ1 g1; omega
    | succ f ih =>
      intro q σ1 g1 g2 hI hF hj
      refine aa_go (aa_iload2 iX12_parrots_9) (aa_go (aa_iconst iX12_parrots_10 ki_3) ?_)
      refine aa_ic_geN iX12_parrots_11 (by omega) (by omega) (fun g3 => ?_) (fun g3 => ?_)
      · skip
        have e : q = 3 := by omega
        subst e
        exact fin σ1 hI hF hj
      · skip
        have kb := kpB_le (lk := lk) ok (show q ≤ 2 by omega) (gst g)
        obtain ⟨σ3, ⟨h3, s3, i3, -⟩, hA, h2, hS3⟩ := m_keepQ hI hG (by omega) (show q ≤ 2 by omega)
        obtain ⟨h4, s4⟩ := h3.fA (A := [81]) (by decide) (FrA.rf.s (c := 81) (by decide) q (nI (kpB P lk q (gst g))))
        have r4 : (aa_sI σ3 81 q (nI (kpB P lk q (gst g)))).1 81 q = nI (kpB P lk q (gst g)) := sI_eq
        have ob := orK_lt (lk := lk) ok (gst g) q (by omega)
        refine aa_go (aa_aload0 iX12_parrots_14) (aa_go (aa_cVv iX12_parrots_15 (hA) (by decide) lc_X12_asks lk_X12_189 (sh_63 hI.W) rfl rfl (Nat.le_of_ble_eq_true rfl)) ?_)
        refine aa_go (aa_aload0 iX12_parrots_18) (aa_go (aa_getR iX12_parrots_19 fl_X12_299 (sh_63 h2.W) rfl) (aa_go (aa_iload2 iX12_parrots_22) (aa_go (aa_aload0 iX12_parrots_23) (aa_go (aa_aload0 iX12_parrots_24) (aa_go (aa_getE iX12_parrots_25 fl_X12_99 (sh_63 h2.W) rfl h2.G.1) (aa_go (aa_iload2 iX12_parrots_28) (aa_go (aa_iconst iX12_parrots_29 ki_3) ?_)))))))
        refine aa_go (aa_cVi iX12_parrots_30 (hS3) (by decide) lc_X12_keeper lk_X12_293 (sh_63 h2.W) rfl rfl (Nat.le_of_ble_eq_true rfl)) ?_
        refine aa_go (aa_iasN iX12_parrots_33 (sh_81 h3.W) (by omega) (by omega)) ?_
        refine aa_go (aa_iload1 iX12_parrots_34) (aa_go (aa_iconst iX12_parrots_35 ki_1) (aa_go (aa_aload0 iX12_parrots_36) (aa_go (aa_getR iX12_parrots_37 fl_X12_299 (sh_63 h4.W) rfl) (aa_go (aa_iload2 iX12_parrots_40) (aa_go (aa_ialE iX12_parrots_41 (sh_81 h4.W) (by omega) (by omega) (r4)) (aa_go (aa_ishlN iX12_parrots_42 (by omega)) (aa_go (aa_iorN iX12_parrots_43 ) ?_)))))))
        refine aa_go (aa_top (y := nI (orK P lk (gst g) (q + 1))) (by rw [Nat.one_shiftLeft]; rfl)) ?_
        refine aa_go (aa_istore1 iX12_parrots_44 rfl (by decide)) (aa_go (aa_iincN2 (k := 1) iX12_parrots_45 rfl (by decide)) (aa_go (aa_goto iX12_parrots_48) ?_))
        refine ih (q + 1) _ (by omega) (by omega) h4 ((hF.tr s3.F).tr s4.F) (fun j hj2 => ?_)
        rw [sI_at]
        by_cases c : j = q
        · rw [if_pos c, c]
        · rw [if_neg c, i3 81 (by decide) (by decide) (by decide)]; exact hj j (by omega)
  have key : aa_V mX12_parrots 100 0 [some (.ref 63), none, none] [] σ (fun ra σ' => ra = some (.int (nI (pl_cn (orK P lk (gst g) 3) 32))) ∧ MJ P tx n g kp lk 3 (rw3 (kpB P lk 0 (gst g)) (kpB P lk 1 (gst g)) (kpB P lk 2 (gst g))) Q r dy σ σ') := by
    refine aa_go (aa_aload0 iX12_parrots_0) (aa_go (aa_iconst iX12_parrots_1 ki_0) (aa_go (aa_putI iX12_parrots_2 fl_X12_3 (fun h => nomatch h) (sh_63 h.W) rfl ⟨rfl, rfl⟩) ?_))
    refine aa_go (aa_iconst iX12_parrots_5 ki_0) (aa_go (aa_istore1 iX12_parrots_6 rfl (by decide)) (aa_go (aa_iconst iX12_parrots_7 ki_0) (aa_go (aa_istore2 iX12_parrots_8 rfl (by decide)) ?_)))
    exact loop 4 0 _ (by omega) (by omega) h1 (MF.rf.s (by decide) _ _) (fun j hj => by omega)
  obtain ⟨ra, σ', ⟨rfl, h9⟩, hS9⟩ := aa_S_of (avs := [.ref 63]) (by decide) 2 [some (.ref 63), none, none] rfl rfl key
  exact ⟨σ', h9, hS9⟩
theorem kw_mm {t q : Nat} (ht : t ≤ 2) (hq : q ≤ 2) (hn : q ≠ t) : min t (3 - q - t) = kwL q ∧ max t (3 - q - t) = kwG q := by
  unfold kwL kwG
  split <;> split <;> omega
theorem q_out (h : MI P tx n g kp lk tl rw Q r dy σ) (hG : GG P g) (hQ : Q + 2000 < 500000) {t : Nat} (ht : t ≤ 2) : ∃ σ', MJ P tx n g kp lk tl rw Q r dy σ σ' ∧ aa_SX mX12_out 100 [.ref 63, .int (nI t)] σ (some (.int (outR P lk t (gst g)))) σ' := by
  have h1 := h.thr (nI 0)
  have ok := h.ok
  have dc := hG.dv ok
  have cl := cv_lt (P := P) (gst g)
  have k0 := kpB_le (lk := lk) ok (show 0 ≤ 2 by omega) (gst g)
  obtain ⟨σ3, ⟨h3, s3, -, -⟩, hA, h2, hS3⟩ := m_keepQ h1 hG (by omega) (show 0 ≤ 2 by omega)
  have loop : ∀ f q (σ1 : aa_St) y3 y4, 3 - q < f → q ≤ 3 → (∃ Q', Q' ≤ Q + 1 + q ∧ MI P tx n g kp lk tl rw Q' r dy σ1) → MF σ σ1 → kpB P lk 0 (gst g) = t → (List.range q).find? (fun q => decide (q ≠ t) && decide (kwo P (kwL q) (kwG q) (gst g) ≠ t)) = none → aa_V mX12_out 100 42 [some (.ref 63), some (.int (nI t)), some (.int (nI q)), y3, y4] [] σ1 (fun ra σ' => ra = some (.int (outR P lk t (gst g))) ∧ MJ P tx n g kp lk tl rw Q r dy σ σ') := by
    intro f
    induction f with
    | zero => intro q σ1 y3 y4 g1; omega
    | succ f ih =>
      intro q σ1 y3 y4 g1 g2 ⟨Q', hQ', hI⟩ hF hk hno
      have nxt := rfind_n hno
      refine aa_go (aa_iload2 iX12_out_42) (aa_go (aa_iconst iX12_out_43 ki_3) ?_)
      refine aa_ic_geN iX12_out_44 (by omega) (by omega) (fun g3 => ?_) (fun g3 => ?_)
      · skip
        have e : q = 3 := by omega
        subst e
        refine aa_go (aa_bipush iX12_out_100 kb_m2) ?_
        refine aa_iret iX12_out_102 rfl ?_
        exact ⟨by rw [outR, if_neg (fun c => c hk), hno], hI.J (by omega) hF⟩
      · skip
        refine aa_go (aa_iload2 iX12_out_47) (aa_go (aa_iload1 iX12_out_48) ?_)
        refine aa_ic_neN iX12_out_49 (by omega) (by omega) (fun g4 => ?_) (fun g4 => ?_)
        · skip
          obtain ⟨m1, m2⟩ := kw_mm ht (show q ≤ 2 by omega) g4
          have kL := kwL_le q
          have kG := kwG_le q
          have kn : kwL q ≠ kwG q := by unfold kwL kwG; split <;> split <;> omega
          obtain ⟨h5, k5, hA5⟩ := hI.ask (by omega) (vE P (kwL q + kwG q))
          have fr := hI.fre (p := kwL q * 65536 + cv P (gst g)) (by omega) (by omega)
          obtain ⟨σ6, ⟨hF6, hK6⟩, hS6⟩ := m_two0 (f := 18) (by rw [dc]; exact h.mu _) cl kL kG kn h5.W h5.M k5 fr
          rw [dc] at hS6
          have s6 : SQ (aa_sI σ1 63 24 (nI (Q' + 1))) σ6 := SQ.rf.A hF6
          have h6 := h5.sq s6 hK6
          have kw3 := kwo_le (P := P) (kwL q) (kwG q) (gst g) kL kG
          refine aa_go (aa_iconst iX12_out_55 ki_3) (aa_go (aa_iload2 iX12_out_56) (aa_go (aa_isubN iX12_out_57 (by omega)) (aa_go (aa_iload1 iX12_out_58) ?_)))
          refine aa_go (aa_isubN iX12_out_59 (by omega)) ?_
          refine aa_go (aa_istore3 iX12_out_60 rfl (by decide)) ?_
          refine aa_go (aa_aload0 iX12_out_61) (aa_go (aa_cVv iX12_out_62 (hA5) (by decide) lc_X12_asks lk_X12_189 (sh_63 hI.W) rfl rfl (Nat.le_of_ble_eq_true rfl)) ?_)
          refine aa_go (aa_aload0 iX12_out_65) (aa_go (aa_aload0 iX12_out_66) (aa_go (aa_getE iX12_out_67 fl_X12_99 (sh_63 h5.W) rfl h5.G.1) (aa_go (aa_iload1 iX12_out_70) (aa_go (aa_iload3 iX12_out_71) (aa_go (aa_mminN iX12_out_72 (by omega) lk_X12_72 (Nat.le_of_ble_eq_true rfl) (by omega) (by omega)) ?_)))))
          refine aa_go (aa_top (y := nI (kwL q)) (by rw [m1])) ?_
          refine aa_go (aa_iload1 iX12_out_75) (aa_go (aa_iload3 iX12_out_76) (aa_go (aa_mmaxN iX12_out_77 (by omega) lk_X12_129 (Nat.le_of_ble_eq_true rfl) (by omega) (by omega)) ?_))
          refine aa_go (aa_top (y := nI (kwG q)) (by rw [m2])) ?_
          refine aa_go (aa_iconst iX12_out_80 ki_3) (aa_go (aa_cVi iX12_out_81 (hS6) (by decide) lc_X12_keeperOfTwo lk_X12_302 (sh_63 h5.W) rfl rfl (Nat.le_of_ble_eq_true rfl)) (aa_go (aa_istore4 iX12_out_84 rfl (by decide)) (aa_go (aa_iload4 iX12_out_86) (aa_go (aa_iload1 iX12_out_88) ?_))))
          refine aa_ic_eqN iX12_out_89 (by omega) (by omega) (fun g5 => ?_) (fun g5 => ?_)
          · skip
            refine aa_go (aa_iincN2 (k := 1) iX12_out_94 rfl (by decide)) (aa_go (aa_goto iX12_out_97) ?_)
            refine ih (q + 1) σ6 _ _ (by omega) (by omega) ⟨Q' + 1, by omega, h6⟩ ((hF.s (by decide) _ _).tr s6.F) hk ?_
            rw [nxt, decide_eq_true g4, decide_eq_false (fun c => c g5)]; rfl
          · skip
            refine aa_go (aa_iload2 iX12_out_92) ?_
            refine aa_iret iX12_out_93 rfl ?_
            refine ⟨?_, h6.J (by omega) ((hF.s (by decide) _ _).tr s6.F)⟩
            rw [outR, if_neg (fun c => c hk), rfind_d (show q + 1 ≤ 3 by omega) (by rw [nxt, decide_eq_true g4, decide_eq_true g5]; rfl)]
        · skip
          refine aa_go (aa_goto iX12_out_52) (aa_go (aa_iincN2 (k := 1) iX12_out_94 rfl (by decide)) (aa_go (aa_goto iX12_out_97) ?_))
          refine ih (q + 1) σ1 _ _ (by omega) (by omega) ⟨Q', by omega, hI⟩ hF hk ?_
          rw [nxt, decide_eq_false (fun c => c g4)]; rfl
  have key : aa_V mX12_out 100 0 [some (.ref 63), some (.int (nI t)), none, none, none] [] σ (fun ra σ' => ra = some (.int (outR P lk t (gst g))) ∧ MJ P tx n g kp lk tl rw Q r dy σ σ') := by
    refine aa_go (aa_aload0 iX12_out_0) (aa_go (aa_iconst iX12_out_1 ki_0) (aa_go (aa_putI iX12_out_2 fl_X12_3 (fun h => nomatch h) (sh_63 h.W) rfl ⟨rfl, rfl⟩) ?_))
    refine aa_go (aa_iload1 iX12_out_5) (aa_go (aa_i2lN iX12_out_6 (by omega)) (aa_go (aa_lconst iX12_out_7 kl_0) (aa_go (aa_ldc2 iX12_out_8 ld_X12_144) (aa_go (aa_cSi iX12_out_11 (m_inN (hi := 2) (by omega) (by omega)) (by decide) lc_X12_in lk_X12_21 rfl (Nat.le_of_ble_eq_true rfl)) ?_))))
    refine aa_if_neB iX12_out_14 (fun g1 => ?_) (fun g1 => ?_)
    · skip
      refine aa_go (aa_aload0 iX12_out_19) (aa_go (aa_cVv iX12_out_20 (hA) (by decide) lc_X12_asks lk_X12_189 (sh_63 h1.W) rfl rfl (Nat.le_of_ble_eq_true rfl)) ?_)
      refine aa_go (aa_aload0 iX12_out_23) (aa_go (aa_aload0 iX12_out_24) (aa_go (aa_getE iX12_out_25 fl_X12_99 (sh_63 h2.W) rfl h2.G.1) (aa_go (aa_iconst iX12_out_28 ki_0) (aa_go (aa_iconst iX12_out_29 ki_3) (aa_go (aa_cVi iX12_out_30 (hS3) (by decide) lc_X12_keeper lk_X12_293 (sh_63 h2.W) rfl rfl (Nat.le_of_ble_eq_true rfl)) (aa_go (aa_iload1 iX12_out_33) ?_))))))
      refine aa_ic_eqN iX12_out_34 (by omega) (by omega) (fun g2 => ?_) (fun g2 => ?_)
      · skip
        refine aa_go (aa_iconst iX12_out_40 ki_0) (aa_go (aa_istore2 iX12_out_41 rfl (by decide)) ?_)
        exact loop 4 0 σ3 _ _ (by omega) (by omega) ⟨Q + 1, by omega, h3⟩ ((MF.rf.s (by decide) _ _).tr s3.F) g2 rfl
      · skip
        refine aa_go (aa_bipush iX12_out_37 kb_m3) ?_
        refine aa_iret iX12_out_39 rfl ?_
        exact ⟨by rw [outR, if_pos g2], h3.J (by omega) ((MF.rf.s (by decide) _ _).tr s3.F)⟩
    · skip
      exact absurd ht (of_decide_eq_false g1)
  obtain ⟨ra, σ', ⟨rfl, h9⟩, hS9⟩ := aa_S_of (avs := [.ref 63, .int (nI t)]) (by decide) 3 [some (.ref 63), some (.int (nI t)), none, none, none] rfl rfl key
  exact ⟨σ', h9, hS9⟩
theorem q_outB (h : MI P tx n g kp lk tl rw Q r dy σ) {x : Int32} (hx : x < 0 ∨ nI 2 < x) : ∃ σ', MJ P tx n g kp lk tl rw Q r dy σ σ' ∧ aa_SX mX12_out 100 [.ref 63, .int x] σ (some (.int (-1))) σ' := by
  have h1 := h.thr (nI 0)
  refine ⟨_, h.JB, ?_⟩
  refine aa_E_of (by decide) 3 [some (.ref 63), some (.int (x)), none, none, none] rfl rfl ?_
  refine aa_go (aa_aload0 iX12_out_0) (aa_go (aa_iconst iX12_out_1 ki_0) (aa_go (aa_putI iX12_out_2 fl_X12_3 (fun h => nomatch h) (sh_63 h.W) rfl ⟨rfl, rfl⟩) ?_))
  refine aa_go (aa_iload1 iX12_out_5) (aa_go (aa_i2l iX12_out_6) (aa_go (aa_lconst iX12_out_7 kl_0) (aa_go (aa_ldc2 iX12_out_8 ld_X12_144) (aa_go (aa_cSi iX12_out_11 (m_inB (c := 2) (by omega) hx) (by decide) lc_X12_in lk_X12_21 rfl (Nat.le_of_ble_eq_true rfl)) ?_))))
  refine aa_if_neB iX12_out_14 (fun g1 => ?_) (fun g1 => ?_)
  · skip
    exact absurd g1 (by decide)
  · skip
    refine aa_go (aa_iconst iX12_out_17 ki_m1) ?_
    refine aa_iret iX12_out_18 rfl ?_
    exact ⟨rfl, rfl⟩
end
