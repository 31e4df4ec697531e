/-! THE REFERENCE, PUBLIC METHODS: winning moves, how soon, leaving out -/
def cnP (P : pl_T) (p : Nat → Bool) (m : Nat) : Bool := decide (m < 28) && (match pl_sp P m with
  | some j => p j
  | none => false)
section
variable {P P' : pl_T} {tx tx' : Nat → Nat} {n n' : Nat} {g g' : gm_T} {kp kp' : Nat → Option gm_T} {lk lk' tl tl' : Nat} {rw rw' : Nat → Int} {Q Q' : Nat} {r : Nat → Nat} {dy : List aa_Shp} {σ σ' : aa_St}
theorem cnP_s {p : Nat → Bool} {m j : Nat} (hm : m < 28) (h : pl_sp P m = some j) : cnP P p m = p j := by
  rw [cnP, decide_eq_true hm, h]; rfl
theorem cnP_f {h t m : Nat} {q : Nat → Bool} (hc : cnM P h t m = false) : cnP P (fun j => pl_lg P h (dv P t) j && q j) m = false := by
  rw [cnM] at hc
  rw [cnP]
  cases e : pl_sp P m with
  | none => simp
  | some j =>
    rw [e] at hc
    by_cases c : m < 28
    · rw [decide_eq_true c, Bool.true_and] at hc
      have hc : pl_lg P h (dv P t) j = false := hc
      simp [hc]
    · simp [c]
theorem nmk_cnP (ok : pl_ok P) (p : Nat → Bool) : bm 28 (cnP P p) = pl_nmk P (bm (pl_n P + pl_b P) p) (pl_b P) := by
  have h1 := ok.1
  have h5 := ok.2.2.2.2.1
  apply bb_ext
  intro m
  rw [bm_bit, Bool.eq_iff_iff, nmk_bit]
  simp only [bm_bit, Bool.and_eq_true, decide_eq_true_eq]
  constructor
  · rintro ⟨hm, hc⟩
    rw [cnP, decide_eq_true hm, Bool.true_and] at hc
    by_cases c : m < pl_n P
    · rw [sp_lo c] at hc
      exact Or.inl ⟨c, by omega, hc⟩
    · by_cases c14 : m < 14
      · rw [sp_mid ok c c14] at hc; exact absurd hc Bool.false_ne_true
      · obtain ⟨i, rfl⟩ : ∃ i, m = 14 + i := ⟨m - 14, by omega⟩
        rw [sp_hi ok] at hc
        cases e : bkO P i with
        | none => rw [e] at hc; exact absurd hc Bool.false_ne_true
        | some q0 =>
          rw [e] at hc
          obtain ⟨q1, q2⟩ := bkO_some e
          exact Or.inr ⟨q0, q1, by rw [q2], by omega, hc⟩
  · rintro (⟨a, b, c⟩ | ⟨q, a, b, c, d⟩)
    · refine ⟨by omega, ?_⟩
      rw [cnP, sp_lo a, decide_eq_true (show m < 28 by omega)]; exact c
    · have := h5 q a
      subst b
      refine ⟨by omega, ?_⟩
      rw [cnP, sp_hi ok, bkO_k ok a, decide_eq_true (by omega)]; exact d
theorem wsk_bm (e h s : Nat) : ∀ k, wsk P e h s k = bm k (fun j => pl_lg P h s j && !wi P e (1 - h) (pl_nx P s j))
  | 0 => rfl
  | k + 1 => by
    rw [wsk, bm, wsk_bm e h s k]
    split
    · rfl
    · rw [Nat.or_zero]
theorem bm_t {f : Nat → Bool} {m : Nat} (h : f m = true) : bm (m + 1) f = bm m f ||| 2 ^ m := by rw [bm, if_pos h]
theorem bm_f {f : Nat → Bool} {m : Nat} (h : f m = false) : bm (m + 1) f = bm m f := by rw [bm, if_neg (by rw [h]; decide), Nat.or_zero]
def cnW (P : pl_T) (e h s : Nat) : Nat → Bool := cnP P (fun j => pl_lg P h s j && !wi P e (1 - h) (pl_nx P s j))
theorem MI.fre (h : MI P tx n g kp lk tl rw Q r dy σ) (hQ : Q + 1 < 500000) {p : Nat} (hp : p < 196608) : FRE (Q + 1) p (aa_sI σ 63 24 (nI (Q + 1))).1 := by
  obtain ⟨q, q1, q2⟩ := h.q.2.2 p hp
  unfold FRE
  rw [sI_ne (by decide), q2]
  intro c
  have := nI_inj (by omega) (by omega) c
  omega
theorem mvZ_b2 (ok : pl_ok P) {o : Option Nat} (ho : ∀ j, o = some j → j < pl_n P + pl_b P) : -1 ≤ mvZ P o ∧ mvZ P o < 28 := by
  cases o with
  | none => exact ⟨by show (-1 : Int) ≤ -1; omega, by show (-1 : Int) < 28; omega⟩
  | some j =>
    have := (sp_mo ok (ho j rfl)).2.1
    exact ⟨by show (-1 : Int) ≤ pl_mo P j; omega, by show (pl_mo P j : Int) < 28; omega⟩
theorem q_wins (h : MI P tx n g kp lk tl rw Q r dy σ) (hG : GG P g) (hQ : Q + 2000 < 500000) : ∃ σ', MJ P tx n g kp lk 1 (rw1 (pl_nmk P (wsk P (gen g) (gtn g) (gst g) (pl_n P + pl_b P)) (pl_b P))) Q r dy σ σ' ∧ aa_SX mX12_wins 100 [.ref 63] σ (some (.int (nI (if wi P (gen g) (gtn g) (gst g) then gtn g else 1 - gtn g)))) σ' := by
  have h1 := h.thr (nI 0)
  have ok := h.ok
  have t1 := gtn_le g
  have e1 := hG.2.1
  have dc := hG.dv ok
  rw [wsk_bm, ← nmk_cnP ok]
  show ∃ σ', MJ P tx n g kp lk 1 (rw1 (bm 28 (cnW P (gen g) (gtn g) (gst g)) : Nat)) Q r dy σ σ' ∧ _
  obtain ⟨σ2, ⟨h2, s2, k2⟩, hS2⟩ := m_winner h1 (by omega) hG.st t1 e1
  have loop : ∀ f m (σ3 : aa_St), 28 - m < f → m ≤ 28 → FrA [74, 75] σ2 σ3 → MMK (Q + 1) (vW P (gen g)) σ3.1 → aa_V mX12_wins 100 26 [some (.ref 63), some (.int (nI (if wi P (gen g) (gtn g) (gst g) then gtn g else 1 - gtn g))), some (.int (nI (bm m (cnW P (gen g) (gtn g) (gst g))))), some (.int (nI m))] [] σ3 (fun ra σ' => ra = some (.int (nI (if wi P (gen g) (gtn g) (gst g) then gtn g else 1 - gtn g))) ∧ MJ P tx n g kp lk 1 (rw1 (bm 28 (cnW P (gen g) (gtn g) (gst g)) : Nat)) Q r dy σ σ') := by
    intro f
    induction f with
    | zero => intro m σ3 g1; omega
    | succ f ih =>
      intro m σ3 g1 g2 hF hK
      have hsq : SQ σ2 σ3 := SQ.rf.A hF
      have h3 := h2.sq hsq hK.Q
      have bl : bm m (cnW P (gen g) (gtn g) (gst g)) < 2147483648 := by
        have := bm_lt m (cnW P (gen g) (gtn g) (gst g))
        have := Nat.pow_le_pow_right (by decide : 0 < 2) g2
        omega
      refine aa_go (aa_iload3 iX12_wins_26) (aa_go (aa_bipush iX12_wins_27 kb_28) ?_)
      refine aa_ic_geN iX12_wins_29 (by omega) (by omega) (fun g3 => ?_) (fun g3 => ?_)
      · skip
        have e : m = 28 := by omega
        subst e
        have h4 := h3.t1 (bm 28 (cnW P (gen g) (gtn g) (gst g)) : Nat)
        refine aa_go (aa_aload0 iX12_wins_90) (aa_go (aa_iconst iX12_wins_91 ki_0) (aa_go (aa_putI iX12_wins_92 fl_X12_11 (fun h => nomatch h) (sh_63 h3.W) rfl ⟨rfl, rfl⟩) (aa_go (aa_aload0 iX12_wins_95) (aa_go (aa_iload2 iX12_wins_96) (aa_go (aa_i2lN iX12_wins_97 (by omega)) ?_)))))
        refine aa_go (aa_topl (y := lZ (bm 28 (cnW P (gen g) (gtn g) (gst g)) : Nat)) (by rw [lZ_N])) ?_
        refine aa_go (aa_cVv iX12_wins_98 (h3.e0 _) (by decide) lc_X12_enters lk_X12_163 (sh_63 h3.W) rfl rfl (Nat.le_of_ble_eq_true rfl)) (aa_go (aa_iload1 iX12_wins_101) ?_)
        refine aa_iret iX12_wins_102 rfl ?_
        exact ⟨rfl, h4.J (by omega) ((((MF.rf.s (by decide) _ _).tr s2.F).tr hsq.F).t1 _)⟩
      · skip
        refine aa_go (aa_iload2 iX12_wins_32) (aa_go (aa_aload0 iX12_wins_33) (aa_go (aa_aload0 iX12_wins_34) (aa_go (aa_getE iX12_wins_35 fl_X12_99 (sh_63 h3.W) rfl h3.G.1) (aa_go (aa_aload0 iX12_wins_38) (aa_go (aa_getE iX12_wins_39 fl_X12_102 (sh_63 h3.W) rfl h3.G.2.1) (aa_go (aa_iload3 iX12_wins_42) (aa_go (aa_cVi iX12_wins_43 (m_can h3.W h3.M (cv_lt _) (by omega) (by omega)) (by decide) lc_X12_can lk_X12_140 (sh_63 h3.W) rfl rfl (Nat.le_of_ble_eq_true rfl)) ?_)))))))
        refine aa_if_eqB iX12_wins_46 (fun g4 => ?_) (fun g4 => ?_)
        · skip
          have c0 := cnP_f (q := fun j => !wi P (gen g) (1 - gtn g) (pl_nx P (gst g) j)) g4
          rw [dc] at c0
          replace c0 : cnW P (gen g) (gtn g) (gst g) m = false := c0
          refine aa_go (aa_iconst iX12_wins_81 ki_0) (aa_go (aa_iorN iX12_wins_82 ) ?_)
          refine aa_go (aa_top (y := nI (bm (m + 1) (cnW P (gen g) (gtn g) (gst g)))) (by rw [bm_f c0, Nat.or_zero])) ?_
          refine aa_go (aa_istore2 iX12_wins_83 rfl (by decide)) (aa_go (aa_iincN3 (k := 1) iX12_wins_84 rfl (by decide)) (aa_go (aa_goto iX12_wins_87) ?_))
          exact ih (m + 1) σ3 (by omega) (by omega) hF hK
        · skip
          obtain ⟨j, hj, jl, -, lg, m1, m2⟩ := cn_t ok g4
          rw [dc] at lg
          have c0 := cnP_s (p := fun j => pl_lg P (gtn g) (gst g) j && !wi P (gen g) (1 - gtn g) (pl_nx P (gst g) j)) g3 hj
          have ea := cv_af (s := gst g) ok hj
          have hA := m_after h3.W h3.M (t := cv P (gst g)) g3 hj
          rw [ea] at hA
          have nl := pl_nx_lt ok hG.st jl
          have dn := dv_cv ok nl
          obtain ⟨σ4, ⟨hF4, hK4⟩, hS4⟩ := m_win e1 18 (cv P (pl_nx P (gst g) j)) (1 - gtn g) σ3 (by rw [dn]; exact h.mu _) (cv_lt _) (by omega) h3.W h3.M hK
          rw [dn] at hS4
          have nxt := ih (m + 1) σ4 (by omega) (by omega) (hF.tr hF4) hK4
          rw [lg, Bool.true_and] at c0
          replace c0 : cnW P (gen g) (gtn g) (gst g) m = !wi P (gen g) (1 - gtn g) (pl_nx P (gst g) j) := c0
          refine aa_go (aa_aload0 iX12_wins_49) (aa_go (aa_aload0 iX12_wins_50) (aa_go (aa_aload0 iX12_wins_51) (aa_go (aa_getE iX12_wins_52 fl_X12_99 (sh_63 h3.W) rfl h3.G.1) (aa_go (aa_iload3 iX12_wins_55) (aa_go (aa_cVi iX12_wins_56 (hA) (by decide) lc_X12_after lk_X12_137 (sh_63 h3.W) rfl rfl (Nat.le_of_ble_eq_true rfl)) (aa_go (aa_iconst iX12_wins_59 ki_1) (aa_go (aa_aload0 iX12_wins_60) ?_)))))))
          refine aa_go (aa_getE iX12_wins_61 fl_X12_102 (sh_63 h3.W) rfl h3.G.2.1) (aa_go (aa_isubN iX12_wins_64 (by omega)) (aa_go (aa_aload0 iX12_wins_65) (aa_go (aa_getE iX12_wins_66 fl_X12_124 (sh_63 h3.W) rfl h3.G.2.2.1) (aa_go (aa_cVi iX12_wins_69 (hS4) (by decide) lc_X12_win lk_X12_183 (sh_63 h3.W) rfl rfl (Nat.le_of_ble_eq_true rfl)) ?_))))
          refine aa_if_neB iX12_wins_72 (fun g5 => ?_) (fun g5 => ?_)
          · skip
            rw [g5] at c0
            refine aa_go (aa_iconst iX12_wins_81 ki_0) (aa_go (aa_iorN iX12_wins_82 ) ?_)
            refine aa_go (aa_top (y := nI (bm (m + 1) (cnW P (gen g) (gtn g) (gst g)))) (by rw [bm_f c0, Nat.or_zero])) ?_
            refine aa_go (aa_istore2 iX12_wins_83 rfl (by decide)) (aa_go (aa_iincN3 (k := 1) iX12_wins_84 rfl (by decide)) (aa_go (aa_goto iX12_wins_87) ?_))
            exact nxt
          · skip
            rw [g5] at c0
            refine aa_go (aa_iconst iX12_wins_75 ki_1) (aa_go (aa_iload3 iX12_wins_76) (aa_go (aa_ishlN iX12_wins_77 (by omega)) (aa_go (aa_goto iX12_wins_78) (aa_go (aa_iorN iX12_wins_82 ) ?_))))
            refine aa_go (aa_top (y := nI (bm (m + 1) (cnW P (gen g) (gtn g) (gst g)))) (by rw [bm_t c0, Nat.one_shiftLeft])) ?_
            refine aa_go (aa_istore2 iX12_wins_83 rfl (by decide)) (aa_go (aa_iincN3 (k := 1) iX12_wins_84 rfl (by decide)) (aa_go (aa_goto iX12_wins_87) ?_))
            exact nxt
  have key : aa_V mX12_wins 100 0 [some (.ref 63), none, none, none] [] σ (fun ra σ' => ra = some (.int (nI (if wi P (gen g) (gtn g) (gst g) then gtn g else 1 - gtn g))) ∧ MJ P tx n g kp lk 1 (rw1 (bm 28 (cnW P (gen g) (gtn g) (gst g)) : Nat)) Q r dy σ σ') := by
    refine aa_go (aa_aload0 iX12_wins_0) (aa_go (aa_iconst iX12_wins_1 ki_0) (aa_go (aa_putI iX12_wins_2 fl_X12_3 (fun h => nomatch h) (sh_63 h.W) rfl ⟨rfl, rfl⟩) ?_))
    refine aa_go (aa_aload0 iX12_wins_5) (aa_go (aa_aload0 iX12_wins_6) (aa_go (aa_getE iX12_wins_7 fl_X12_99 (sh_63 h1.W) rfl h1.G.1) (aa_go (aa_aload0 iX12_wins_10) (aa_go (aa_getE iX12_wins_11 fl_X12_102 (sh_63 h1.W) rfl h1.G.2.1) (aa_go (aa_aload0 iX12_wins_14) (aa_go (aa_getE iX12_wins_15 fl_X12_124 (sh_63 h1.W) rfl h1.G.2.2.1) (aa_go (aa_cVi iX12_wins_18 (hS2) (by decide) lc_X12_winner lk_X12_192 (sh_63 h1.W) rfl rfl (Nat.le_of_ble_eq_true rfl)) ?_)))))))
    refine aa_go (aa_istore1 iX12_wins_21 rfl (by decide)) (aa_go (aa_iconst iX12_wins_22 ki_0) (aa_go (aa_istore2 iX12_wins_23 rfl (by decide)) (aa_go (aa_iconst iX12_wins_24 ki_0) (aa_go (aa_istore3 iX12_wins_25 rfl (by decide)) ?_))))
    exact loop 29 0 σ2 (by omega) (by omega) FrA.rf k2
  obtain ⟨ra, σ', ⟨rfl, h9⟩, hS9⟩ := aa_S_of (avs := [.ref 63]) (by decide) 3 [some (.ref 63), none, none, none] rfl rfl key
  exact ⟨σ', h9, hS9⟩
theorem so_99 (ok : pl_ok P) {e : Nat} (he : e ≤ 1) (h s : Nat) : so P e h s ≤ 19 := by rw [← som_all ok]; exact som_le ok he h s _
theorem q_soon (h : MI P tx n g kp lk tl rw Q r dy σ) (hG : GG P g) (hQ : Q + 2000 < 500000) : ∃ σ', MJ P tx n g kp lk 1 (rw1 (mvZ P (fsk P (gen g) (gtn g) (gst g) (pl_n P + pl_b P)))) Q r dy σ σ' ∧ aa_SX mX12_soon 100 [.ref 63] σ (some (.int (nI (so P (gen g) (gtn g) (gst g))))) σ' := by
  have h1 := h.thr (nI 0)
  have ok := h.ok
  have t1 := gtn_le g
  have e1 := hG.2.1
  have dc := hG.dv ok
  obtain ⟨h2, k2, hA⟩ := h1.ask (by omega) (vS P (gen g))
  have cl := cv_lt (P := P) (gst g)
  have fr := h1.fre (p := gtn g * 65536 + cv P (gst g)) (by omega) (by omega)
  obtain ⟨σ3, ⟨hF3, hK3, hm⟩, hS3⟩ := m_lasts e1 18 (cv P (gst g)) (gtn g) _ (by rw [dc]; exact h.mu _) cl t1 h2.W h2.M k2 h2.G.2.2.1
  have hm := hm fr
  rw [dc] at hS3 hm
  rw [fsm_all ok] at hm
  have s3 : SQ (aa_sI (aa_sI σ 63 0 (nI 0)) 63 24 (nI (Q + 1))) σ3 := SQ.rf.Q hF3
  have h3 := h2.sq s3 hK3.Q
  have h4 := h3.t1 (mvZ P (fsk P (gen g) (gtn g) (gst g) (pl_n P + pl_b P)))
  have hz := mvZ_b2 ok (o := fsk P (gen g) (gtn g) (gst g) (pl_n P + pl_b P)) (fun j hj => mlk_lt (List.mem_of_find?_eq_some hj))
  have s19 := so_99 ok e1 (gtn g) (gst g)
  have lm : lc (gen g) (so P (gen g) (gtn g) (gst g)) % 100 = so P (gen g) (gtn g) (gst g) ∧ lc (gen g) (so P (gen g) (gtn g) (gst g)) < 200 := by
    rcases lc_c (gen g) (so P (gen g) (gtn g) (gst g)) with ⟨-, q⟩ | ⟨-, q⟩ <;> rw [q] <;> omega
  have hf : (aa_sI σ3 63 1 (nI 0)).1 63 25 = iZ (mvZ P (fsk P (gen g) (gtn g) (gst g) (pl_n P + pl_b P))) := by rw [sI_nk (by decide)]; exact hm
  refine ⟨_, h4.J (by omega) ((((MF.rf.s (by decide) _ _).s (by decide) _ _).tr s3.F).t1 _), ?_⟩
  refine aa_E_of (by decide) 1 [some (.ref 63), none] rfl rfl ?_
  refine aa_go (aa_aload0 iX12_soon_0) (aa_go (aa_iconst iX12_soon_1 ki_0) (aa_go (aa_putI iX12_soon_2 fl_X12_3 (fun h => nomatch h) (sh_63 h.W) rfl ⟨rfl, rfl⟩) ?_))
  refine aa_go (aa_aload0 iX12_soon_5) (aa_go (aa_cVv iX12_soon_6 (hA) (by decide) lc_X12_asks lk_X12_189 (sh_63 h1.W) rfl rfl (Nat.le_of_ble_eq_true rfl)) ?_)
  refine aa_go (aa_aload0 iX12_soon_9) (aa_go (aa_aload0 iX12_soon_10) (aa_go (aa_getE iX12_soon_11 fl_X12_99 (sh_63 h2.W) rfl h2.G.1) (aa_go (aa_aload0 iX12_soon_14) (aa_go (aa_getE iX12_soon_15 fl_X12_102 (sh_63 h2.W) rfl h2.G.2.1) (aa_go (aa_cVi iX12_soon_18 (hS3) (by decide) lc_X12_lasts lk_X12_195 (sh_63 h2.W) rfl rfl (Nat.le_of_ble_eq_true rfl)) (aa_go (aa_istore1 iX12_soon_21 rfl (by decide)) ?_))))))
  refine aa_go (aa_aload0 iX12_soon_22) (aa_go (aa_iconst iX12_soon_23 ki_0) (aa_go (aa_putI iX12_soon_24 fl_X12_11 (fun h => nomatch h) (sh_63 h3.W) rfl ⟨rfl, rfl⟩) (aa_go (aa_aload0 iX12_soon_27) (aa_go (aa_aload0 iX12_soon_28) (aa_go (aa_getE iX12_soon_29 fl_X12_198 (sh_63 h3.W) rfl hf) (aa_go (aa_i2l iX12_soon_32) ?_))))))
  refine aa_go (aa_topl (y := lZ (mvZ P (fsk P (gen g) (gtn g) (gst g) (pl_n P + pl_b P)))) (iZ_l (by omega) (by omega))) ?_
  refine aa_go (aa_cVv iX12_soon_33 (h3.e0 _) (by decide) lc_X12_enters lk_X12_163 (sh_63 h3.W) rfl rfl (Nat.le_of_ble_eq_true rfl)) (aa_go (aa_iload1 iX12_soon_36) (aa_go (aa_bipush iX12_soon_37 kb_100) (aa_go (aa_iremN iX12_soon_39 (by omega) (by omega) (by omega)) ?_)))
  refine aa_iret iX12_soon_40 rfl ?_
  exact ⟨by rw [lm.1], rfl⟩
theorem q_leave (h : MI P tx n g kp lk tl rw Q r dy σ) (hG : GG P g) (hQ : Q + 2000 < 500000) : ∃ σ', MJ P tx n g kp lk 1 (rw1 (if !lvO P g && lvL P g then 1 else 0)) Q r dy σ σ' ∧ aa_SX mX12_leave 100 [.ref 63] σ (some (.int (nI (if lvO P g || lvL P g then gtn g else 1 - gtn g)))) σ' := by
  have h1 := h.thr (nI 0)
  have ok := h.ok
  have t1 := gtn_le g
  have e1 := hG.2.1
  obtain ⟨σ2, ⟨h2, s2, k2⟩, hS2⟩ := m_winner h1 (by omega) hG.st t1 e1
  obtain ⟨σ3, ⟨h3, s3, k3⟩, hS3⟩ := m_winner h2 (by omega) hG.st (show 1 - gtn g ≤ 1 by omega) e1
  have h4 := h3.t1 (if !lvO P g && lvL P g then 1 else 0)
  have fin : aa_V mX12_leave 100 65 [some (.ref 63), some (.int (nI (lvO P g).toNat)), some (.int (nI (lvL P g).toNat))] [] σ3 (fun ra σ' => ra = some (.int (nI (if lvO P g || lvL P g then gtn g else 1 - gtn g))) ∧ MJ P tx n g kp lk 1 (rw1 (if !lvO P g && lvL P g then 1 else 0)) Q r dy σ σ') := by
    have fn2 : aa_V mX12_leave 100 91 [some (.ref 63), some (.int (nI (lvO P g).toNat)), some (.int (nI (lvL P g).toNat))] [] (t1S σ3 (if !lvO P g && lvL P g then 1 else 0)) (fun ra σ' => ra = some (.int (nI (if lvO P g || lvL P g then gtn g else 1 - gtn g))) ∧ MJ P tx n g kp lk 1 (rw1 (if !lvO P g && lvL P g then 1 else 0)) Q r dy σ σ') := by
      have fJ : MJ P tx n g kp lk 1 (rw1 (if !lvO P g && lvL P g then 1 else 0)) Q r dy σ (t1S σ3 (if !lvO P g && lvL P g then 1 else 0)) := h4.J (by omega) ((((MF.rf.s (by decide) _ _).tr s2.F).tr s3.F).t1 _)
      refine aa_go (aa_iload1 iX12_leave_91) ?_
      refine aa_if_neB iX12_leave_92 (fun g1 => ?_) (fun g1 => ?_)
      · skip
        refine aa_go (aa_aload0 iX12_leave_99) (aa_go (aa_getE iX12_leave_100 fl_X12_102 (sh_63 h4.W) rfl h4.G.2.1) (aa_go (aa_goto iX12_leave_103) ?_))
        refine aa_iret iX12_leave_112 rfl ?_
        exact ⟨by rw [g1]; rfl, fJ⟩
      · skip
        refine aa_go (aa_iload2 iX12_leave_95) ?_
        refine aa_if_eqB iX12_leave_96 (fun g2 => ?_) (fun g2 => ?_)
        · skip
          refine aa_go (aa_iconst iX12_leave_106 ki_1) (aa_go (aa_aload0 iX12_leave_107) (aa_go (aa_getE iX12_leave_108 fl_X12_102 (sh_63 h4.W) rfl h4.G.2.1) (aa_go (aa_isubN iX12_leave_111 (by omega)) ?_)))
          refine aa_iret iX12_leave_112 rfl ?_
          exact ⟨by rw [g1, g2]; rfl, fJ⟩
        · skip
          refine aa_go (aa_aload0 iX12_leave_99) (aa_go (aa_getE iX12_leave_100 fl_X12_102 (sh_63 h4.W) rfl h4.G.2.1) (aa_go (aa_goto iX12_leave_103) ?_))
          refine aa_iret iX12_leave_112 rfl ?_
          exact ⟨by rw [g1, g2]; rfl, fJ⟩
    refine aa_go (aa_aload0 iX12_leave_65) (aa_go (aa_iconst iX12_leave_66 ki_0) (aa_go (aa_putI iX12_leave_67 fl_X12_11 (fun h => nomatch h) (sh_63 h3.W) rfl ⟨rfl, rfl⟩) (aa_go (aa_aload0 iX12_leave_70) (aa_go (aa_iload1 iX12_leave_71) ?_))))
    refine aa_if_neB iX12_leave_72 (fun g1 => ?_) (fun g1 => ?_)
    · skip
      refine aa_go (aa_iconst iX12_leave_83 ki_0) (aa_go (aa_cSi iX12_leave_84 (m_flag false) (by decide) lc_X12_flag lk_X12_31 rfl (Nat.le_of_ble_eq_true rfl)) (aa_go (aa_i2lN iX12_leave_87 (by decide)) ?_))
      refine aa_go (aa_topl (y := lZ (if !lvO P g && lvL P g then 1 else 0)) (by rw [g1]; rfl)) ?_
      refine aa_go (aa_cVv iX12_leave_88 (h3.e0 _) (by decide) lc_X12_enters lk_X12_163 (sh_63 h3.W) rfl rfl (Nat.le_of_ble_eq_true rfl)) ?_
      exact fn2
    · skip
      refine aa_go (aa_iload2 iX12_leave_75) ?_
      refine aa_if_eqB iX12_leave_76 (fun g2 => ?_) (fun g2 => ?_)
      · skip
        refine aa_go (aa_iconst iX12_leave_83 ki_0) (aa_go (aa_cSi iX12_leave_84 (m_flag false) (by decide) lc_X12_flag lk_X12_31 rfl (Nat.le_of_ble_eq_true rfl)) (aa_go (aa_i2lN iX12_leave_87 (by decide)) ?_))
        refine aa_go (aa_topl (y := lZ (if !lvO P g && lvL P g then 1 else 0)) (by rw [g1, g2]; rfl)) ?_
        refine aa_go (aa_cVv iX12_leave_88 (h3.e0 _) (by decide) lc_X12_enters lk_X12_163 (sh_63 h3.W) rfl rfl (Nat.le_of_ble_eq_true rfl)) ?_
        exact fn2
      · skip
        refine aa_go (aa_iconst iX12_leave_79 ki_1) (aa_go (aa_goto iX12_leave_80) (aa_go (aa_cSi iX12_leave_84 (m_flag true) (by decide) lc_X12_flag lk_X12_31 rfl (Nat.le_of_ble_eq_true rfl)) (aa_go (aa_i2lN iX12_leave_87 (by decide)) ?_)))
        refine aa_go (aa_topl (y := lZ (if !lvO P g && lvL P g then 1 else 0)) (by rw [g1, g2]; rfl)) ?_
        refine aa_go (aa_cVv iX12_leave_88 (h3.e0 _) (by decide) lc_X12_enters lk_X12_163 (sh_63 h3.W) rfl rfl (Nat.le_of_ble_eq_true rfl)) ?_
        exact fn2
  have mid : ∀ y2, aa_V mX12_leave 100 34 [some (.ref 63), some (.int (nI (lvO P g).toNat)), y2] [] σ2 (fun ra σ' => ra = some (.int (nI (if lvO P g || lvL P g then gtn g else 1 - gtn g))) ∧ MJ P tx n g kp lk 1 (rw1 (if !lvO P g && lvL P g then 1 else 0)) Q r dy σ σ') := by
    intro y2
    have wl : (if wi P (gen g) (1 - gtn g) (gst g) then 1 - gtn g else 1 - (1 - gtn g)) ≤ 1 := by split <;> omega
    refine aa_go (aa_aload0 iX12_leave_34) (aa_go (aa_aload0 iX12_leave_35) (aa_go (aa_getE iX12_leave_36 fl_X12_99 (sh_63 h2.W) rfl h2.G.1) (aa_go (aa_iconst iX12_leave_39 ki_1) (aa_go (aa_aload0 iX12_leave_40) (aa_go (aa_getE iX12_leave_41 fl_X12_102 (sh_63 h2.W) rfl h2.G.2.1) (aa_go (aa_isubN iX12_leave_44 (by omega)) (aa_go (aa_aload0 iX12_leave_45) ?_)))))))
    refine aa_go (aa_getE iX12_leave_46 fl_X12_124 (sh_63 h2.W) rfl h2.G.2.2.1) (aa_go (aa_cVi iX12_leave_49 (hS3) (by decide) lc_X12_winner lk_X12_192 (sh_63 h2.W) rfl rfl (Nat.le_of_ble_eq_true rfl)) ?_)
    refine aa_go (aa_aload0 iX12_leave_52) (aa_go (aa_getE iX12_leave_53 fl_X12_102 (sh_63 h3.W) rfl h3.G.2.1) ?_)
    refine aa_ic_neN iX12_leave_56 (by omega) (by omega) (fun g1 => ?_) (fun g1 => ?_)
    · skip
      have el : lvL P g = false := by
        unfold lvL
        cases q : wi P (gen g) (1 - gtn g) (gst g) with
        | true => rfl
        | false => rw [q] at g1; exact absurd (show 1 - (1 - gtn g) = gtn g by omega) g1
      rw [el] at fin
      refine aa_go (aa_iconst iX12_leave_63 ki_0) (aa_go (aa_istore2 iX12_leave_64 rfl (by decide)) ?_)
      rw [el]
      exact fin
    · skip
      have el : lvL P g = true := by
        unfold lvL
        cases q : wi P (gen g) (1 - gtn g) (gst g) with
        | false => rfl
        | true => rw [q, if_pos rfl] at g1; omega
      rw [el] at fin
      refine aa_go (aa_iconst iX12_leave_59 ki_1) (aa_go (aa_goto iX12_leave_60) (aa_go (aa_istore2 iX12_leave_64 rfl (by decide)) ?_))
      rw [el]
      exact fin
  have key : aa_V mX12_leave 100 0 [some (.ref 63), none, none] [] σ (fun ra σ' => ra = some (.int (nI (if lvO P g || lvL P g then gtn g else 1 - gtn g))) ∧ MJ P tx n g kp lk 1 (rw1 (if !lvO P g && lvL P g then 1 else 0)) Q r dy σ σ') := by
    have wl : (if wi P (gen g) (gtn g) (gst g) then gtn g else 1 - gtn g) ≤ 1 := by split <;> omega
    refine aa_go (aa_aload0 iX12_leave_0) (aa_go (aa_iconst iX12_leave_1 ki_0) (aa_go (aa_putI iX12_leave_2 fl_X12_3 (fun h => nomatch h) (sh_63 h.W) rfl ⟨rfl, rfl⟩) ?_))
    refine aa_go (aa_aload0 iX12_leave_5) (aa_go (aa_aload0 iX12_leave_6) (aa_go (aa_getE iX12_leave_7 fl_X12_99 (sh_63 h1.W) rfl h1.G.1) (aa_go (aa_aload0 iX12_leave_10) (aa_go (aa_getE iX12_leave_11 fl_X12_102 (sh_63 h1.W) rfl h1.G.2.1) (aa_go (aa_aload0 iX12_leave_14) (aa_go (aa_getE iX12_leave_15 fl_X12_124 (sh_63 h1.W) rfl h1.G.2.2.1) (aa_go (aa_cVi iX12_leave_18 (hS2) (by decide) lc_X12_winner lk_X12_192 (sh_63 h1.W) rfl rfl (Nat.le_of_ble_eq_true rfl)) ?_)))))))
    refine aa_go (aa_aload0 iX12_leave_21) (aa_go (aa_getE iX12_leave_22 fl_X12_102 (sh_63 h2.W) rfl h2.G.2.1) ?_)
    refine aa_ic_neN iX12_leave_25 (by omega) (by omega) (fun g1 => ?_) (fun g1 => ?_)
    · skip
      have el : lvO P g = false := by
        unfold lvO
        cases q : wi P (gen g) (gtn g) (gst g) with
        | false => rfl
        | true => rw [q] at g1; exact absurd rfl g1
      have md := mid none
      rw [el] at md
      refine aa_go (aa_iconst iX12_leave_32 ki_0) (aa_go (aa_istore1 iX12_leave_33 rfl (by decide)) ?_)
      rw [el]
      exact md
    · skip
      have el : lvO P g = true := by
        unfold lvO
        cases q : wi P (gen g) (gtn g) (gst g) with
        | true => rfl
        | false => rw [q, if_neg (by decide)] at g1; omega
      have md := mid none
      rw [el] at md
      refine aa_go (aa_iconst iX12_leave_28 ki_1) (aa_go (aa_goto iX12_leave_29) (aa_go (aa_istore1 iX12_leave_33 rfl (by decide)) ?_))
      rw [el]
      exact md
  obtain ⟨ra, σ', ⟨rfl, h9⟩, hS9⟩ := aa_S_of (avs := [.ref 63]) (by decide) 2 [some (.ref 63), none, none] rfl rfl key
  exact ⟨σ', h9, hS9⟩
end
