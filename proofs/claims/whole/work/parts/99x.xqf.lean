/-! THE REFERENCE, PUBLIC METHODS: forced, greedy -/
section
variable {P P' : pl_T} {tx tx' : Nat → Nat} {n n' : Nat} {g g' : gm_T} {kp kp' : Nat → Option gm_T} {lk lk' tl tl' : Nat} {rw rw' : Nat → Int} {Q Q' : Nat} {r : Nat → Nat} {dy : List aa_Shp} {σ σ' : aa_St}
theorem nmk_len (ok : pl_ok P) (h t : Nat) : pl_cn (pl_nmk P (pl_mv P h (dv P t)) (pl_b P)) 32 = (pl_ML P h (dv P t)).length := by
  have e : ∀ m, m ≤ 28 → ((List.range m).filter (cnM P h t)).length = (mlk P h (dv P t) (msT P m)).length := by
    intro m
    induction m with
    | zero => intro _; rw [ms_0]; rfl
    | succ m ih =>
      intro hm
      have ih := ih (by omega)
      cases q : cnM P h t m with
      | true =>
        obtain ⟨j, hj, -⟩ := cn_t ok q
        rw [flt_t q, mlk_cn_t ok q hj, List.length_append, List.length_append, ih]; rfl
      | false => rw [flt_f q, mlk_cn_f ok (by omega) q, ih]
  rw [← nmk_cn ok, cn_bm _ 28 32 (by omega), e 28 (by omega), ms_28 ok, mlk_all]
theorem nmk_lb (ok : pl_ok P) {h t j : Nat} (e : pl_ML P h (dv P t) = [j]) : lb (nI (pl_nmk P (pl_mv P h (dv P t)) (pl_b P))) (pl_mo P j) ∧ j < pl_n P + pl_b P ∧ pl_lg P h (dv P t) j = true := by
  have hl : pl_lg P h (dv P t) j = true := pl_ML_mem.mp (by rw [e]; simp)
  have jl := pl_lg_lt hl
  obtain ⟨s1, s2, -⟩ := sp_mo ok jl
  rw [← nmk_cn ok]
  refine ⟨lb_nI (by omega) ?_ (fun i hi => ?_), jl, hl⟩
  · rw [bm_bit, decide_eq_true s2, cnM, decide_eq_true s2, s1]; exact hl
  · rw [bm_bit]
    cases q : cnM P h t i with
    | false => simp
    | true =>
      obtain ⟨j', hj', -, -, lg, -⟩ := cn_t ok q
      have : j' ∈ pl_ML P h (dv P t) := pl_ML_mem.mpr lg
      rw [e] at this
      simp at this
      subst this
      have := mo_sp ok hj'
      omega
theorem frR_a (L : List Nat) (j : Nat) : (∀ i, i < L.length → frR P (L ++ [j]) i = frR P L i) ∧ frR P (L ++ [j]) L.length = pl_mo P j := by
  constructor
  · intro i hi
    rw [frR, frR, List.getD_eq_getElem?_getD, List.getD_eq_getElem?_getD, List.getElem?_append_left hi]
  · rw [frR, List.getD_eq_getElem?_getD, List.getElem?_append_right (Nat.le_refl _), Nat.sub_self]; rfl
theorem q_forced (h : MI P tx n g kp lk tl rw Q r dy σ) (hG : GG P g) : ∃ σ', MJ P tx n g kp lk (frc P 20 (gtn g) (gst g)).length (frR P (frc P 20 (gtn g) (gst g))) Q r dy σ σ' ∧ aa_SX mX12_forced 100 [.ref 63] σ (some (.int (nI (frc P 20 (gtn g) (gst g)).length))) σ' := by
  have h1 := h.thr (nI 0)
  have ok := h.ok
  have t1 := gtn_le g
  have nb : ∀ a s, pl_nmk P (pl_mv P a s) (pl_b P) < 268435456 := fun a s => by
    have hs : pl_mv P a s < 2147483648 := by
      have := pl_mv_lt P a s
      have := pw16 (k := pl_n P + pl_b P) (by have := ok.1; have := ok.2.1; omega)
      omega
    have : ∀ k, k ≤ pl_b P → pl_nmk P (pl_mv P a s) k < 2 ^ 28 := by
      intro k
      induction k with
      | zero =>
        intro _
        rw [pl_nmk]
        have q1 : pl_mv P a s &&& (2 ^ pl_n P - 1) ≤ 2 ^ pl_n P - 1 := Nat.and_le_right
        have q2 := pw14 ok.1
        omega
      | succ k ih =>
        intro hk
        have ih := ih (by omega)
        have kn := ok.2.2.2.2.1 k (by omega)
        have := ok.1
        rw [pl_nmk]
        exact bb_or (k := 28) ih (bb_shl1 (by omega))
    have := this (pl_b P) (Nat.le_refl _)
    omega
  have loop : ∀ f k s L (σ1 : aa_St) y4, k + f = 20 → k + pl_mu P s ≤ 18 → L.length = k → frc P 20 (gtn g) (gst g) = L ++ frc P f ((gtn g + k) % 2) s → s < 2 ^ (pl_n P + pl_b P) → MI P tx n g kp lk k (frR P L) Q r dy σ1 → MF σ σ1 → aa_V mX12_forced 100 27 [some (.ref 63), some (.int (nI (cv P s))), some (.int (nI k)), some (.int (nI (pl_nmk P (pl_mv P ((gtn g + k) % 2) s) (pl_b P)))), y4] [] σ1 (fun ra σ' => ra = some (.int (nI (frc P 20 (gtn g) (gst g)).length)) ∧ MJ P tx n g kp lk (frc P 20 (gtn g) (gst g)).length (frR P (frc P 20 (gtn g) (gst g))) Q r dy σ σ') := by
    intro f
    induction f with
    | zero => intro k s L σ1 y4 q1 q2; omega
    | succ f ih =>
      intro k s L σ1 y4 q1 q2 hL hfr hs hI hF
      have nl := nb ((gtn g + k) % 2) s
      have cm := nmk_len ok ((gtn g + k) % 2) (cv P s)
      rw [dv_cv ok hs] at cm
      have c32 := cn_le (pl_nmk P (pl_mv P ((gtn g + k) % 2) s) (pl_b P)) 32
      refine aa_go (aa_iload3 iX12_forced_27) (aa_go (aa_cSi iX12_forced_28 (c_bitCount (by omega)) (by decide) lc_J6_bitCount_0f7a4 lk_X12_212 rfl (Nat.le_of_ble_eq_true rfl)) (aa_go (aa_iconst iX12_forced_31 ki_1) ?_))
      refine aa_ic_neN iX12_forced_32 (by omega) (by omega) (fun g4 => ?_) (fun g4 => ?_)
      · skip
        rw [cm] at g4
        have e0 : frc P (f + 1) ((gtn g + k) % 2) s = [] := by
          rw [frc]
          split
          · rename_i j e; rw [e] at g4; simp at g4
          · rfl
        rw [e0, List.append_nil] at hfr
        rw [hfr, hL]
        refine aa_go (aa_iload2 iX12_forced_82) ?_
        refine aa_iret iX12_forced_83 rfl ?_
        exact ⟨rfl, hI.J (by omega) hF⟩
      · skip
        rw [cm] at g4
        obtain ⟨j, ej⟩ := List.length_eq_one_iff.mp g4
        have lbq := nmk_lb ok (h := (gtn g + k) % 2) (t := cv P s) (j := j) (by rw [dv_cv ok hs]; exact ej)
        rw [dv_cv ok hs] at lbq
        obtain ⟨lb1, jl, lg⟩ := lbq
        obtain ⟨s1, s2, -⟩ := sp_mo ok jl
        have mu := pl_mu_lt ok lg
        have nlt := pl_nx_lt ok hs jl
        have et : 1 - (gtn g + k) % 2 = (gtn g + (k + 1)) % 2 := by omega
        have hfr2 : frc P 20 (gtn g) (gst g) = (L ++ [j]) ++ frc P f ((gtn g + (k + 1)) % 2) (pl_nx P s j) := by rw [hfr, frc, ej, List.append_assoc, ← et]; rfl
        have hr := frR_a (P := P) L j
        rw [hL] at hr
        have h2 := hI.row1 (rw' := frR P (L ++ [j])) (by omega) _ hr.1 hr.2
        have hE := hI.ent (show k < 20 by omega) (lZ (pl_mo P j))
        have hA := m_after h2.W h2.M (t := cv P s) s2 s1
        rw [cv_af ok s1] at hA
        have hV := m_movesOf h2.W h2.M (t := cv P (pl_nx P s j)) (cv_lt _) (show (gtn g + (k + 1)) % 2 ≤ 3 by omega)
        rw [dv_cv ok nlt] at hV
        have nxt := ih (k + 1) (pl_nx P s j) (L ++ [j]) (aa_sI (aa_sL σ1 64 k (lZ (pl_mo P j))) 63 1 (nI (k + 1))) (some (.int (nI (pl_mo P j)))) (by omega) (by omega) (by rw [List.length_append, hL]; rfl) hfr2 nlt h2 ((hF.l (by decide) _ _).s (by decide) _ _)
        refine aa_go (aa_iload3 iX12_forced_35) (aa_go (aa_cSi iX12_forced_36 (c_ntz lb1) (by decide) lc_J6_numberOfTrailingZeros_0f7a4 lk_X12_217 rfl (Nat.le_of_ble_eq_true rfl)) (aa_go (aa_istore4 iX12_forced_39 rfl (by decide)) (aa_go (aa_iload2 iX12_forced_41) (aa_go (aa_bipush iX12_forced_42 kb_20) ?_))))
        refine aa_ic_geN iX12_forced_44 (by omega) (by omega) (fun g5 => ?_) (fun g5 => ?_)
        · skip
          omega
        · skip
          refine aa_go (aa_aload0 iX12_forced_47) (aa_go (aa_iload4 iX12_forced_48) (aa_go (aa_i2lN iX12_forced_50 (by omega)) ?_))
          refine aa_go (aa_topl (y := lZ (pl_mo P j)) (by rw [lZ_N])) ?_
          refine aa_go (aa_cVv iX12_forced_51 (hE) (by decide) lc_X12_enters lk_X12_163 (sh_63 hI.W) rfl rfl (Nat.le_of_ble_eq_true rfl)) ?_
          refine aa_go (aa_aload0 iX12_forced_54) (aa_go (aa_iload1 iX12_forced_55) (aa_go (aa_iload4 iX12_forced_56) (aa_go (aa_cVi iX12_forced_58 (hA) (by decide) lc_X12_after lk_X12_137 (sh_63 h2.W) rfl rfl (Nat.le_of_ble_eq_true rfl)) (aa_go (aa_istore1 iX12_forced_61 rfl (by decide)) (aa_go (aa_iincN2 (k := 1) iX12_forced_62 rfl (by decide)) (aa_go (aa_aload0 iX12_forced_65) (aa_go (aa_iload1 iX12_forced_66) ?_)))))))
          refine aa_go (aa_aload0 iX12_forced_67) (aa_go (aa_getE iX12_forced_68 fl_X12_102 (sh_63 h2.W) rfl h2.G.2.1) (aa_go (aa_iload2 iX12_forced_71) (aa_go (aa_iaddN iX12_forced_72 ) (aa_go (aa_iconst iX12_forced_73 ki_2) (aa_go (aa_iremN iX12_forced_74 (by omega) (by omega) (by omega)) (aa_go (aa_cVi iX12_forced_75 (hV) (by decide) lc_X12_movesOf lk_X12_146 (sh_63 h2.W) rfl rfl (Nat.le_of_ble_eq_true rfl)) (aa_go (aa_istore3 iX12_forced_78 rfl (by decide)) ?_)))))))
          refine aa_go (aa_goto iX12_forced_79) ?_
          exact nxt
  have key : aa_V mX12_forced 100 0 [some (.ref 63), none, none, none, none] [] σ (fun ra σ' => ra = some (.int (nI (frc P 20 (gtn g) (gst g)).length)) ∧ MJ P tx n g kp lk (frc P 20 (gtn g) (gst g)).length (frR P (frc P 20 (gtn g) (gst g))) Q r dy σ σ') := by
    have h2 : MI P tx n g kp lk 0 (frR P []) Q r dy (aa_sI (aa_sI σ 63 0 (nI 0)) 63 1 (nI 0)) := h1.row0
    have hV := m_movesOf h2.W h2.M (t := cv P (gst g)) (cv_lt _) (show gtn g ≤ 3 by omega)
    rw [hG.dv ok] at hV
    have lp := loop 20 0 (gst g) [] (aa_sI (aa_sI σ 63 0 (nI 0)) 63 1 (nI 0)) none rfl (by have := h.mu (gst g); omega) rfl (by rw [show (gtn g + 0) % 2 = gtn g by omega]; rfl) hG.st h2 ((MF.rf.s (by decide) _ _).s (by decide) _ _)
    rw [show (gtn g + 0) % 2 = gtn g by omega] at lp
    refine aa_go (aa_aload0 iX12_forced_0) (aa_go (aa_iconst iX12_forced_1 ki_0) (aa_go (aa_putI iX12_forced_2 fl_X12_3 (fun h => nomatch h) (sh_63 h.W) rfl ⟨rfl, rfl⟩) ?_))
    refine aa_go (aa_aload0 iX12_forced_5) (aa_go (aa_iconst iX12_forced_6 ki_0) (aa_go (aa_putI iX12_forced_7 fl_X12_11 (fun h => nomatch h) (sh_63 h1.W) rfl ⟨rfl, rfl⟩) ?_))
    refine aa_go (aa_aload0 iX12_forced_10) (aa_go (aa_getE iX12_forced_11 fl_X12_99 (sh_63 h2.W) rfl h2.G.1) (aa_go (aa_istore1 iX12_forced_14 rfl (by decide)) (aa_go (aa_iconst iX12_forced_15 ki_0) (aa_go (aa_istore2 iX12_forced_16 rfl (by decide)) (aa_go (aa_aload0 iX12_forced_17) (aa_go (aa_iload1 iX12_forced_18) (aa_go (aa_aload0 iX12_forced_19) ?_)))))))
    refine aa_go (aa_getE iX12_forced_20 fl_X12_102 (sh_63 h2.W) rfl h2.G.2.1) (aa_go (aa_cVi iX12_forced_23 (hV) (by decide) lc_X12_movesOf lk_X12_146 (sh_63 h2.W) rfl rfl (Nat.le_of_ble_eq_true rfl)) (aa_go (aa_istore3 iX12_forced_26 rfl (by decide)) ?_))
    exact lp
  obtain ⟨ra, σ', ⟨rfl, h9⟩, hS9⟩ := aa_S_of (avs := [.ref 63]) (by decide) 4 [some (.ref 63), none, none, none, none] rfl rfl key
  exact ⟨σ', h9, hS9⟩
theorem gdk_inv (h s : Nat) : ∀ k, ((gdk P h s k).2 = none → (gdk P h s k).1 = -1) ∧ ∀ j, (gdk P h s k).2 = some j → (gdk P h s k).1 = pl_wo P (bd s (pl_nx P s j)) ∧ j < k ∧ pl_lg P h s j = true
  | 0 => ⟨fun _ => rfl, fun j q => by simp [gdk] at q⟩
  | k + 1 => by
    have ih := gdk_inv h s k
    rw [gdk]
    split
    · rename_i c
      refine ⟨fun q => by simp at q, fun j q => ?_⟩
      cases q
      exact ⟨rfl, by omega, c.1⟩
    · exact ⟨ih.1, fun j q => ⟨(ih.2 j q).1, by have := (ih.2 j q).2.1; omega, (ih.2 j q).2.2⟩⟩
theorem q_greedy (h : MI P tx n g kp lk tl rw Q r dy σ) (hG : GG P g) : ∃ σ', MJ P tx n g kp lk 2 (rw2 (grf P (gtn g) 18 0 (gst g, 0, 0)).2.1 (grf P (gtn g) 18 0 (gst g, 0, 0)).2.2) Q r dy σ σ' ∧ aa_SX mX12_greedy 100 [.ref 63] σ (some (.int (nI (grf P (gtn g) 18 0 (gst g, 0, 0)).1))) σ' := by
  have h1 := h.thr (nI 0)
  have ok := h.ok
  have n14 := h.n14
  have t1 := gtn_le g
  generalize hR : grf P (gtn g) 18 0 (gst g, 0, 0) = R
  have fin : ∀ k s x y (σ1 : aa_St) (z : Int32) (y4 y5 : Option Value), x ≤ 126 * 18 → y ≤ 126 * 18 → FrA [73] (aa_sI σ 63 0 (nI 0)) σ1 → σ1.1 73 0 = nI x → σ1.1 73 1 = nI y → R = (k, x, y) → aa_V mX12_greedy 100 133 [some (.ref 63), some (.int (nI (cv P s))), some (.int (nI k)), some (.int z), y4, y5] [] σ1 (fun ra σ' => ra = some (.int (nI R.1)) ∧ MJ P tx n g kp lk 2 (rw2 R.2.1 R.2.2) Q r dy σ σ') := by
    intro k s x y σ1 z y4 y5 xb yb hF c0 c1 hR
    rw [hR]
    obtain ⟨h2, s2⟩ := h1.fA (by decide) hF
    have h3 := h2.t1 x
    have h4 := h2.t2 x y
    have r0 : (aa_sI σ1 63 1 (nI 0)).1 73 0 = nI x := by rw [sI_ne (by decide)]; exact c0
    have r1 : (t1S σ1 x).1 73 1 = nI y := by rw [t1_i (by decide)]; exact c1
    refine aa_go (aa_aload0 iX12_greedy_133) (aa_go (aa_iconst iX12_greedy_134 ki_0) (aa_go (aa_putI iX12_greedy_135 fl_X12_11 (fun h => nomatch h) (sh_63 h2.W) rfl ⟨rfl, rfl⟩) (aa_go (aa_aload0 iX12_greedy_138) (aa_go (aa_aload0 iX12_greedy_139) (aa_go (aa_getR iX12_greedy_140 fl_X12_157 (sh_63 h2.W) rfl) (aa_go (aa_iconst iX12_greedy_143 ki_0) (aa_go (aa_ialE iX12_greedy_144 (sh_73 h2.W) (by omega) (by omega) (r0)) ?_)))))))
    refine aa_go (aa_i2lN iX12_greedy_145 (by omega)) ?_
    refine aa_go (aa_topl (y := lZ x) (by rw [lZ_N])) ?_
    refine aa_go (aa_cVv iX12_greedy_146 (h2.e0 _) (by decide) lc_X12_enters lk_X12_163 (sh_63 h2.W) rfl rfl (Nat.le_of_ble_eq_true rfl)) ?_
    refine aa_go (aa_aload0 iX12_greedy_149) (aa_go (aa_aload0 iX12_greedy_150) (aa_go (aa_getR iX12_greedy_151 fl_X12_157 (sh_63 h3.W) rfl) (aa_go (aa_iconst iX12_greedy_154 ki_1) (aa_go (aa_ialE iX12_greedy_155 (sh_73 h3.W) (by omega) (by omega) (r1)) (aa_go (aa_i2lN iX12_greedy_156 (by omega)) ?_)))))
    refine aa_go (aa_topl (y := lZ y) (by rw [lZ_N])) ?_
    refine aa_go (aa_cVv iX12_greedy_157 (h2.e1 _ _) (by decide) lc_X12_enters lk_X12_163 (sh_63 h3.W) rfl rfl (Nat.le_of_ble_eq_true rfl)) (aa_go (aa_iload2 iX12_greedy_160) ?_)
    refine aa_iret iX12_greedy_161 rfl ?_
    exact ⟨rfl, h4.J (by omega) (((MF.rf.s (by decide) _ _).tr s2.F).t2 _ _)⟩
  have loop : ∀ f k s x y (σ1 : aa_St) (z : Int32) y4 y5, k + f = 18 → k + pl_mu P s ≤ 18 → x ≤ 126 * k → y ≤ 126 * k → R = grf P (gtn g) f k (s, x, y) → s < 2 ^ (pl_n P + pl_b P) → FrA [73] (aa_sI σ 63 0 (nI 0)) σ1 → σ1.1 73 0 = nI x → σ1.1 73 1 = nI y → aa_V mX12_greedy 100 32 [some (.ref 63), some (.int (nI (cv P s))), some (.int (nI k)), some (.int z), y4, y5] [] σ1 (fun ra σ' => ra = some (.int (nI R.1)) ∧ MJ P tx n g kp lk 2 (rw2 R.2.1 R.2.2) Q r dy σ σ') := by
    intro f
    induction f with
    | zero =>
      intro k s x y σ1 z y4 y5 q1 q2 xb yb hR hs hF c0 c1
      obtain ⟨h2, s2⟩ := h1.fA (by decide) hF
      have nolg : ∀ w j, pl_lg P w s j = false := fun w j => by
        cases q : pl_lg P w s j with
        | false => rfl
        | true => have := pl_mu_lt ok q; omega
      have inner : ∀ d m, 14 - m < d → m ≤ 14 → aa_V mX12_greedy 100 47 [some (.ref 63), some (.int (nI (cv P s))), some (.int (nI k)), some (.int (-1)), some (.int (nI ((gtn g + k) % 2))), some (.int (nI m))] [] σ1 (fun ra σ' => ra = some (.int (nI R.1)) ∧ MJ P tx n g kp lk 2 (rw2 R.2.1 R.2.2) Q r dy σ σ') := by
        intro d
        induction d with
        | zero => intro m g1; omega
        | succ d ihd =>
          intro m g1 g2
          have cl := cnM_lo ok (w := (gtn g + k) % 2) (t := cv P s) (m := m)
          rw [dv_cv ok hs, nolg] at cl
          refine aa_go (aa_iload5 iX12_greedy_47) (aa_go (aa_bipush iX12_greedy_49 kb_14) ?_)
          refine aa_ic_geN iX12_greedy_51 (by omega) (by omega) (fun g3 => ?_) (fun g3 => ?_)
          · skip
            refine aa_go (aa_iload3 iX12_greedy_99) ?_
            refine aa_if_lt iX12_greedy_100 (fun g4 => ?_) (fun g4 => ?_)
            · skip
              refine aa_go (aa_goto iX12_greedy_130) (aa_go (aa_iload3 iX12_greedy_28) ?_)
              refine aa_if_lt iX12_greedy_29 (fun g5 => ?_) (fun g5 => ?_)
              · skip
                exact fin k s x y σ1 _ _ _ (by omega) (by omega) hF c0 c1 hR
              · skip
                exact absurd (by decide : (-1 : Int32) < 0) g5
            · skip
              exact absurd (by decide : (-1 : Int32) < 0) g4
          · skip
            have cl := cl (by omega)
            rw [Bool.and_false] at cl
            refine aa_go (aa_aload0 iX12_greedy_54) (aa_go (aa_iload1 iX12_greedy_55) (aa_go (aa_iload4 iX12_greedy_56) (aa_go (aa_iload5 iX12_greedy_58) (aa_go (aa_cVi iX12_greedy_60 (m_can h2.W h2.M (cv_lt _) (by omega) (by omega)) (by decide) lc_X12_can lk_X12_140 (sh_63 h2.W) rfl rfl (Nat.le_of_ble_eq_true rfl)) ?_))))
            rw [cl]
            refine aa_if_eqB iX12_greedy_63 (fun g4 => ?_) (fun g4 => ?_)
            · skip
              refine aa_go (aa_iload3 iX12_greedy_91) (aa_go (aa_istore3 iX12_greedy_92 rfl (by decide)) (aa_go (aa_iincN5 (k := 1) iX12_greedy_93 rfl (by decide)) (aa_go (aa_goto iX12_greedy_96) ?_)))
              exact ihd (m + 1) (by omega) (by omega)
            · skip
              exact absurd g4 (by decide)
      refine aa_go (aa_aload0 iX12_greedy_32) (aa_go (aa_getE iX12_greedy_33 fl_X12_102 (sh_63 h2.W) rfl h2.G.2.1) (aa_go (aa_iload2 iX12_greedy_36) (aa_go (aa_iaddN iX12_greedy_37 ) (aa_go (aa_iconst iX12_greedy_38 ki_2) (aa_go (aa_iremN iX12_greedy_39 (by omega) (by omega) (by omega)) (aa_go (aa_istore4 iX12_greedy_40 rfl (by decide)) (aa_go (aa_iconst iX12_greedy_42 ki_m1) ?_)))))))
      refine aa_go (aa_istore3 iX12_greedy_43 rfl (by decide)) (aa_go (aa_iconst iX12_greedy_44 ki_0) (aa_go (aa_istore5 iX12_greedy_45 rfl (by decide)) ?_))
      exact inner 15 0 (by omega) (by omega)
    | succ f ih =>
      intro k s x y σ1 z y4 y5 q1 q2 xb yb hR hs hF c0 c1
      obtain ⟨h2, s2⟩ := h1.fA (by decide) hF
      have dc := dv_cv ok hs
      have clt := cv_lt (P := P) s
      have wob : ∀ j, pl_wo P (bd s (pl_nx P s j)) ≤ 126 := fun j => pl_wo_le ok _
      have wO : ∀ j, j < pl_n P → aa_SX mX12_worthOf 3 [.ref 63, .int (nI (cv P s)), .int (nI j)] σ1 (some (.int (nI (pl_wo P (bd s (pl_nx P s j)))))) σ1 := fun j hj => by
        have := m_worthOf h2.W h2.M (t := cv P s) clt (show j < 28 by omega) (sp_lo hj)
        rw [dc] at this
        exact this
      generalize ew : (gtn g + k) % 2 = w at *
      have w1 : w ≤ 1 := by omega
      -- behind the inner loop
      have aft : ∀ y5, aa_V mX12_greedy 100 99 [some (.ref 63), some (.int (nI (cv P s))), some (.int (nI k)), some (.int (oI (gdk P w s (pl_n P)).2)), some (.int (nI w)), y5] [] σ1 (fun ra σ' => ra = some (.int (nI R.1)) ∧ MJ P tx n g kp lk 2 (rw2 R.2.1 R.2.2) Q r dy σ σ') := by
        intro y5
        cases q : (gdk P w s (pl_n P)).2 with
        | none =>
          have e1 : grf P (gtn g) (f + 1) k (s, x, y) = (k, x, y) := by rw [grf, ew, q]
          rw [e1] at hR
          show aa_V mX12_greedy 100 99 [some (.ref 63), some (.int (nI (cv P s))), some (.int (nI k)), some (.int (-1)), some (.int (nI w)), y5] [] σ1 _
          refine aa_go (aa_iload3 iX12_greedy_99) ?_
          refine aa_if_lt iX12_greedy_100 (fun g4 => ?_) (fun g4 => ?_)
          · skip
            refine aa_go (aa_goto iX12_greedy_130) (aa_go (aa_iload3 iX12_greedy_28) ?_)
            refine aa_if_lt iX12_greedy_29 (fun g5 => ?_) (fun g5 => ?_)
            · skip
              exact fin k s x y σ1 _ _ _ (by omega) (by omega) hF c0 c1 hR
            · skip
              exact absurd (by decide : (-1 : Int32) < 0) g5
          · skip
            exact absurd (by decide : (-1 : Int32) < 0) g4
        | some j =>
          have iv := (gdk_inv w s (pl_n P)).2 j q
          have jn := iv.2.1
          have mu := pl_mu_lt ok iv.2.2
          have jl : j < pl_n P + pl_b P := by omega
          have nlt := pl_nx_lt ok hs jl
          have wl := wob j
          have e1 : grf P (gtn g) (f + 1) k (s, x, y) = grf P (gtn g) f (k + 1) (pl_nx P s j, x + (if k % 2 = 0 then pl_wo P (bd s (pl_nx P s j)) else 0), y + (if k % 2 = 0 then 0 else pl_wo P (bd s (pl_nx P s j)))) := by rw [grf, ew, q]
          rw [e1] at hR
          have hAf := m_after h2.W h2.M (t := cv P s) (show j < 28 by omega) (sp_lo jn)
          rw [cv_af ok (sp_lo jn)] at hAf
          show aa_V mX12_greedy 100 99 [some (.ref 63), some (.int (nI (cv P s))), some (.int (nI k)), some (.int (nI j)), some (.int (nI w)), y5] [] σ1 _
          refine aa_go (aa_iload3 iX12_greedy_99) ?_
          refine aa_go (aa_if_ltN iX12_greedy_100 (by omega)) ?_
          refine aa_go (aa_aload0 iX12_greedy_103) (aa_go (aa_getR iX12_greedy_104 fl_X12_157 (sh_63 h2.W) rfl) (aa_go (aa_iload2 iX12_greedy_107) (aa_go (aa_iconst iX12_greedy_108 ki_2) (aa_go (aa_iremN iX12_greedy_109 (by omega) (by omega) (by omega)) ?_))))
          rcases (show k % 2 = 0 ∨ k % 2 = 1 by omega) with e | e
          · rw [e, if_pos rfl, if_pos rfl, Nat.add_zero] at hR
            rw [e]
            have hF2 := hF.s (c := 73) (by decide) 0 (nI (x + pl_wo P (bd s (pl_nx P s j))))
            obtain ⟨h5, s5⟩ := h1.fA (by decide) hF2
            have hAf2 := m_after h5.W h5.M (t := cv P s) (show j < 28 by omega) (sp_lo jn)
            rw [cv_af ok (sp_lo jn)] at hAf2
            refine aa_go (aa_dup2 iX12_greedy_110 rfl rfl) (aa_go (aa_ialE iX12_greedy_111 (sh_73 h2.W) (by omega) (by omega) (c0)) (aa_go (aa_aload0 iX12_greedy_112) (aa_go (aa_iload1 iX12_greedy_113) (aa_go (aa_iload3 iX12_greedy_114) (aa_go (aa_cVi iX12_greedy_115 (wO j jn) (by decide) lc_X12_worthOf lk_X12_160 (sh_63 h2.W) rfl rfl (Nat.le_of_ble_eq_true rfl)) (aa_go (aa_iaddN iX12_greedy_118 ) (aa_go (aa_iasN iX12_greedy_119 (sh_73 h2.W) (by omega) (by omega)) ?_)))))))
            refine aa_go (aa_aload0 iX12_greedy_120) (aa_go (aa_iload1 iX12_greedy_121) (aa_go (aa_iload3 iX12_greedy_122) (aa_go (aa_cVi iX12_greedy_123 (hAf2) (by decide) lc_X12_after lk_X12_137 (sh_63 h5.W) rfl rfl (Nat.le_of_ble_eq_true rfl)) (aa_go (aa_istore1 iX12_greedy_126 rfl (by decide)) (aa_go (aa_iincN2 (k := 1) iX12_greedy_127 rfl (by decide)) (aa_go (aa_goto iX12_greedy_130) (aa_go (aa_iload3 iX12_greedy_28) ?_)))))))
            refine aa_go (aa_if_ltN iX12_greedy_29 (by omega)) ?_
            exact ih (k + 1) (pl_nx P s j) _ _ _ _ _ _ (by omega) (by omega) (by omega) (by omega) hR nlt hF2 sI_eq (by rw [sI_nk (by decide)]; exact c1)
          · rw [e, if_neg (by decide), if_neg (by decide), Nat.add_zero] at hR
            rw [e]
            have hF2 := hF.s (c := 73) (by decide) 1 (nI (y + pl_wo P (bd s (pl_nx P s j))))
            obtain ⟨h5, s5⟩ := h1.fA (by decide) hF2
            have hAf2 := m_after h5.W h5.M (t := cv P s) (show j < 28 by omega) (sp_lo jn)
            rw [cv_af ok (sp_lo jn)] at hAf2
            refine aa_go (aa_dup2 iX12_greedy_110 rfl rfl) (aa_go (aa_ialE iX12_greedy_111 (sh_73 h2.W) (by omega) (by omega) (c1)) (aa_go (aa_aload0 iX12_greedy_112) (aa_go (aa_iload1 iX12_greedy_113) (aa_go (aa_iload3 iX12_greedy_114) (aa_go (aa_cVi iX12_greedy_115 (wO j jn) (by decide) lc_X12_worthOf lk_X12_160 (sh_63 h2.W) rfl rfl (Nat.le_of_ble_eq_true rfl)) (aa_go (aa_iaddN iX12_greedy_118 ) (aa_go (aa_iasN iX12_greedy_119 (sh_73 h2.W) (by omega) (by omega)) ?_)))))))
            refine aa_go (aa_aload0 iX12_greedy_120) (aa_go (aa_iload1 iX12_greedy_121) (aa_go (aa_iload3 iX12_greedy_122) (aa_go (aa_cVi iX12_greedy_123 (hAf2) (by decide) lc_X12_after lk_X12_137 (sh_63 h5.W) rfl rfl (Nat.le_of_ble_eq_true rfl)) (aa_go (aa_istore1 iX12_greedy_126 rfl (by decide)) (aa_go (aa_iincN2 (k := 1) iX12_greedy_127 rfl (by decide)) (aa_go (aa_goto iX12_greedy_130) (aa_go (aa_iload3 iX12_greedy_28) ?_)))))))
            refine aa_go (aa_if_ltN iX12_greedy_29 (by omega)) ?_
            exact ih (k + 1) (pl_nx P s j) _ _ _ _ _ _ (by omega) (by omega) (by omega) (by omega) hR nlt hF2 (by rw [sI_nk (by decide)]; exact c0) sI_eq
      have inner : ∀ d m, 14 - m < d → m ≤ 14 → aa_V mX12_greedy 100 47 [some (.ref 63), some (.int (nI (cv P s))), some (.int (nI k)), some (.int (oI (gdk P w s (min m (pl_n P))).2)), some (.int (nI w)), some (.int (nI m))] [] σ1 (fun ra σ' => ra = some (.int (nI R.1)) ∧ MJ P tx n g kp lk 2 (rw2 R.2.1 R.2.2) Q r dy σ σ') := by
        intro d
        induction d with
        | zero => intro m g1; omega
        | succ d ihd =>
          intro m g1 g2
          have cl := cnM_lo ok (w := w) (t := cv P s) (m := m)
          rw [dc] at cl
          by_cases g3' : m = 14
          · subst g3'
            rw [show min 14 (pl_n P) = pl_n P by omega]
            have af := aft (some (.int (nI 14)))
            refine aa_go (aa_iload5 iX12_greedy_47) (aa_go (aa_bipush iX12_greedy_49 kb_14) ?_)
            refine aa_ic_geN iX12_greedy_51 (by omega) (by omega) (fun g3 => ?_) (fun g3 => ?_)
            · skip
              exact af
            · skip
              omega
          · have cl := cl (by omega)
            have nxt := ihd (m + 1) (by omega) (by omega)
            by_cases cm : cnM P w (cv P s) m = true
            · have cl2 := cl
              rw [cm] at cl2
              have cl2 := cl2.symm
              rw [Bool.and_eq_true, decide_eq_true_eq] at cl2
              obtain ⟨mn, lg⟩ := cl2
              rw [show min (m + 1) (pl_n P) = m + 1 by omega] at nxt
              rw [show min m (pl_n P) = m by omega]
              have iv := gdk_inv (P := P) w s m
              have wm := wob m
              cases q : (gdk P w s m).2 with
              | none =>
                have e9 : gdk P w s (m + 1) = ((pl_wo P (bd s (pl_nx P s m)) : Int), some m) := by
                  rw [gdk, if_pos ⟨lg, by rw [iv.1 q]; omega⟩]
                rw [e9] at nxt
                show aa_V mX12_greedy 100 47 [some (.ref 63), some (.int (nI (cv P s))), some (.int (nI k)), some (.int (-1)), some (.int (nI w)), some (.int (nI m))] [] σ1 _
                refine aa_go (aa_iload5 iX12_greedy_47) (aa_go (aa_bipush iX12_greedy_49 kb_14) ?_)
                refine aa_ic_geN iX12_greedy_51 (by omega) (by omega) (fun g3 => ?_) (fun g3 => ?_)
                · skip
                  omega
                · skip
                  refine aa_go (aa_aload0 iX12_greedy_54) (aa_go (aa_iload1 iX12_greedy_55) (aa_go (aa_iload4 iX12_greedy_56) (aa_go (aa_iload5 iX12_greedy_58) (aa_go (aa_cVi iX12_greedy_60 (m_can h2.W h2.M clt (by omega) (by omega)) (by decide) lc_X12_can lk_X12_140 (sh_63 h2.W) rfl rfl (Nat.le_of_ble_eq_true rfl)) ?_))))
                  rw [cm]
                  refine aa_if_eqB iX12_greedy_63 (fun g4 => ?_) (fun g4 => ?_)
                  · skip
                    exact absurd g4 (by decide)
                  · skip
                    refine aa_go (aa_iload3 iX12_greedy_66) ?_
                    refine aa_if_lt iX12_greedy_67 (fun g5 => ?_) (fun g5 => ?_)
                    · skip
                      refine aa_go (aa_iload5 iX12_greedy_86) (aa_go (aa_goto iX12_greedy_88) (aa_go (aa_istore3 iX12_greedy_92 rfl (by decide)) (aa_go (aa_iincN5 (k := 1) iX12_greedy_93 rfl (by decide)) (aa_go (aa_goto iX12_greedy_96) ?_))))
                      exact nxt
                    · skip
                      exact absurd (by decide : (-1 : Int32) < 0) g5
              | some j =>
                obtain ⟨i1, i2, i3⟩ := iv.2 j q
                have wj := wob j
                show aa_V mX12_greedy 100 47 [some (.ref 63), some (.int (nI (cv P s))), some (.int (nI k)), some (.int (nI j)), some (.int (nI w)), some (.int (nI m))] [] σ1 _
                refine aa_go (aa_iload5 iX12_greedy_47) (aa_go (aa_bipush iX12_greedy_49 kb_14) ?_)
                refine aa_ic_geN iX12_greedy_51 (by omega) (by omega) (fun g3 => ?_) (fun g3 => ?_)
                · skip
                  omega
                · skip
                  refine aa_go (aa_aload0 iX12_greedy_54) (aa_go (aa_iload1 iX12_greedy_55) (aa_go (aa_iload4 iX12_greedy_56) (aa_go (aa_iload5 iX12_greedy_58) (aa_go (aa_cVi iX12_greedy_60 (m_can h2.W h2.M clt (by omega) (by omega)) (by decide) lc_X12_can lk_X12_140 (sh_63 h2.W) rfl rfl (Nat.le_of_ble_eq_true rfl)) ?_))))
                  rw [cm]
                  refine aa_if_eqB iX12_greedy_63 (fun g4 => ?_) (fun g4 => ?_)
                  · skip
                    exact absurd g4 (by decide)
                  · skip
                    refine aa_go (aa_iload3 iX12_greedy_66) ?_
                    refine aa_go (aa_if_ltN iX12_greedy_67 (by omega)) ?_
                    refine aa_go (aa_aload0 iX12_greedy_70) (aa_go (aa_iload1 iX12_greedy_71) (aa_go (aa_iload5 iX12_greedy_72) (aa_go (aa_cVi iX12_greedy_74 (wO m mn) (by decide) lc_X12_worthOf lk_X12_160 (sh_63 h2.W) rfl rfl (Nat.le_of_ble_eq_true rfl)) (aa_go (aa_aload0 iX12_greedy_77) (aa_go (aa_iload1 iX12_greedy_78) (aa_go (aa_iload3 iX12_greedy_79) (aa_go (aa_cVi iX12_greedy_80 (wO j (by omega)) (by decide) lc_X12_worthOf lk_X12_160 (sh_63 h2.W) rfl rfl (Nat.le_of_ble_eq_true rfl)) ?_)))))))
                    refine aa_ic_leN iX12_greedy_83 (by omega) (by omega) (fun g5 => ?_) (fun g5 => ?_)
                    · skip
                      have e9 : gdk P w s (m + 1) = gdk P w s m := by
                        rw [gdk, if_neg (fun c => by have := c.2; rw [i1] at this; omega)]
                      rw [e9, q] at nxt
                      refine aa_go (aa_iload3 iX12_greedy_91) (aa_go (aa_istore3 iX12_greedy_92 rfl (by decide)) (aa_go (aa_iincN5 (k := 1) iX12_greedy_93 rfl (by decide)) (aa_go (aa_goto iX12_greedy_96) ?_)))
                      exact nxt
                    · skip
                      have e9 : gdk P w s (m + 1) = ((pl_wo P (bd s (pl_nx P s m)) : Int), some m) := by
                        rw [gdk, if_pos ⟨lg, by rw [i1]; omega⟩]
                      rw [e9] at nxt
                      refine aa_go (aa_iload5 iX12_greedy_86) (aa_go (aa_goto iX12_greedy_88) (aa_go (aa_istore3 iX12_greedy_92 rfl (by decide)) (aa_go (aa_iincN5 (k := 1) iX12_greedy_93 rfl (by decide)) (aa_go (aa_goto iX12_greedy_96) ?_))))
                      exact nxt
            · have cm : cnM P w (cv P s) m = false := by simpa using cm
              have e9 : gdk P w s (min (m + 1) (pl_n P)) = gdk P w s (min m (pl_n P)) := by
                by_cases mn : m < pl_n P
                · rw [show min (m + 1) (pl_n P) = m + 1 by omega, show min m (pl_n P) = m by omega, gdk, if_neg]
                  intro c
                  rw [cm, decide_eq_true mn, c.1] at cl
                  exact absurd cl (by decide)
                · rw [show min (m + 1) (pl_n P) = pl_n P by omega, show min m (pl_n P) = pl_n P by omega]
              rw [e9] at nxt
              refine aa_go (aa_iload5 iX12_greedy_47) (aa_go (aa_bipush iX12_greedy_49 kb_14) ?_)
              refine aa_ic_geN iX12_greedy_51 (by omega) (by omega) (fun g3 => ?_) (fun g3 => ?_)
              · skip
                omega
              · skip
                refine aa_go (aa_aload0 iX12_greedy_54) (aa_go (aa_iload1 iX12_greedy_55) (aa_go (aa_iload4 iX12_greedy_56) (aa_go (aa_iload5 iX12_greedy_58) (aa_go (aa_cVi iX12_greedy_60 (m_can h2.W h2.M clt (by omega) (by omega)) (by decide) lc_X12_can lk_X12_140 (sh_63 h2.W) rfl rfl (Nat.le_of_ble_eq_true rfl)) ?_))))
                rw [cm]
                refine aa_if_eqB iX12_greedy_63 (fun g4 => ?_) (fun g4 => ?_)
                · skip
                  refine aa_go (aa_iload3 iX12_greedy_91) (aa_go (aa_istore3 iX12_greedy_92 rfl (by decide)) (aa_go (aa_iincN5 (k := 1) iX12_greedy_93 rfl (by decide)) (aa_go (aa_goto iX12_greedy_96) ?_)))
                  exact nxt
                · skip
                  exact absurd g4 (by decide)
      have in0 := inner 15 0 (by omega) (by omega)
      rw [show min 0 (pl_n P) = 0 by omega] at in0
      refine aa_go (aa_aload0 iX12_greedy_32) (aa_go (aa_getE iX12_greedy_33 fl_X12_102 (sh_63 h2.W) rfl h2.G.2.1) (aa_go (aa_iload2 iX12_greedy_36) (aa_go (aa_iaddN iX12_greedy_37 ) (aa_go (aa_iconst iX12_greedy_38 ki_2) (aa_go (aa_iremN iX12_greedy_39 (by omega) (by omega) (by omega)) ?_)))))
      refine aa_go (aa_top (y := nI w) (by rw [ew])) ?_
      refine aa_go (aa_istore4 iX12_greedy_40 rfl (by decide)) (aa_go (aa_iconst iX12_greedy_42 ki_m1) (aa_go (aa_istore3 iX12_greedy_43 rfl (by decide)) (aa_go (aa_iconst iX12_greedy_44 ki_0) (aa_go (aa_istore5 iX12_greedy_45 rfl (by decide)) ?_))))
      exact in0
  have key : aa_V mX12_greedy 100 0 [some (.ref 63), none, none, none, none, none] [] σ (fun ra σ' => ra = some (.int (nI R.1)) ∧ MJ P tx n g kp lk 2 (rw2 R.2.1 R.2.2) Q r dy σ σ') := by
    refine aa_go (aa_aload0 iX12_greedy_0) (aa_go (aa_iconst iX12_greedy_1 ki_0) (aa_go (aa_putI iX12_greedy_2 fl_X12_3 (fun h => nomatch h) (sh_63 h.W) rfl ⟨rfl, rfl⟩) ?_))
    refine aa_go (aa_aload0 iX12_greedy_5) (aa_go (aa_getE iX12_greedy_6 fl_X12_99 (sh_63 h1.W) rfl h1.G.1) (aa_go (aa_istore1 iX12_greedy_9 rfl (by decide)) (aa_go (aa_aload0 iX12_greedy_10) (aa_go (aa_getR iX12_greedy_11 fl_X12_157 (sh_63 h1.W) rfl) (aa_go (aa_iconst iX12_greedy_14 ki_0) (aa_go (aa_iconst iX12_greedy_15 ki_0) (aa_go (aa_iasN iX12_greedy_16 (sh_73 h1.W) (by omega) (by omega)) ?_)))))))
    refine aa_go (aa_aload0 iX12_greedy_17) (aa_go (aa_getR iX12_greedy_18 fl_X12_157 (sh_63 h1.W) rfl) (aa_go (aa_iconst iX12_greedy_21 ki_1) (aa_go (aa_iconst iX12_greedy_22 ki_0) (aa_go (aa_iasN iX12_greedy_23 (sh_73 h1.W) (by omega) (by omega)) (aa_go (aa_iconst iX12_greedy_24 ki_0) (aa_go (aa_istore2 iX12_greedy_25 rfl (by decide)) (aa_go (aa_iconst iX12_greedy_26 ki_0) ?_)))))))
    refine aa_go (aa_istore3 iX12_greedy_27 rfl (by decide)) (aa_go (aa_iload3 iX12_greedy_28) ?_)
    refine aa_go (aa_if_ltN iX12_greedy_29 (by omega)) ?_
    exact loop 18 0 (gst g) 0 0 _ _ _ _ rfl (by have := h.mu (gst g); omega) (by omega) (by omega) hR.symm hG.st ((FrA.rf.s (by decide) _ _).s (by decide) _ _) (by rw [sI_nk (by decide), sI_eq]) (by rw [sI_eq])
  obtain ⟨ra, σ', ⟨rfl, h9⟩, hS9⟩ := aa_S_of (avs := [.ref 63]) (by decide) 5 [some (.ref 63), none, none, none, none, none] rfl rfl key
  exact ⟨σ', h9, hS9⟩
end
