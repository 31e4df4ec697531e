/-! THE REFERENCE, PUBLIC METHODS: judge, sheet -/
theorem sp_28 {P : pl_T} (ok : pl_ok P) {m j : Nat} (h : pl_sp P m = some j) : m < 28 := by
  have h1 := ok.1
  have h5 := ok.2.2.2.2.1
  unfold pl_sp at h
  split at h
  · omega
  · split at h
    · rename_i c; have := h5 0 c.1; omega
    · split at h
      · rename_i c; have := h5 1 c.1; omega
      · simp at h
theorem jgs_none {P : pl_T} {a b c k : Nat} (h : jgs P a b c k = none) : ∀ d, jgs P a b c (k + d) = none
  | 0 => h
  | d + 1 => by
    rw [show k + (d + 1) = k + d + 1 by omega, jgs, jgs_none h d]; rfl
theorem JR_fun {P : pl_T} {n a b c x y x' y' : Nat} {ra ra' : Int32} (h : JR P n a b c ra x y) (h' : JR P n a b c ra' x' y') : ra = ra' ∧ x = x' ∧ y = y' := by
  have nn : ∀ k m, jgs P a b c (k + 1) = none → k < m → jgs P a b c m = none := fun k m q1 q2 => by
    have := jgs_none q1 (m - (k + 1))
    rw [show k + 1 + (m - (k + 1)) = m by omega] at this
    exact this
  rcases h with ⟨s, h1, h2⟩ | ⟨k, s, h1, h2, h3, h4⟩
  · rcases h' with ⟨s', g1, g2⟩ | ⟨k', s', g1, g2, g3, g4⟩
    · rw [h1] at g1
      cases g1
      exact ⟨by rw [h2, g2], rfl, rfl⟩
    · have := nn k' n g3 g1
      rw [h1] at this; simp at this
  · rcases h' with ⟨s', g1, g2⟩ | ⟨k', s', g1, g2, g3, g4⟩
    · have := nn k n h3 h1
      rw [g1] at this; simp at this
    · rcases Nat.lt_trichotomy k k' with q | q | q
      · have := nn k k' h3 q
        rw [g2] at this; simp at this
      · subst q
        rw [h2] at g2
        cases g2
        exact ⟨by rw [h4, g4], rfl, rfl⟩
      · have := nn k' k g3 q
        rw [h2] at this; simp at this
theorem jgS_f {P : pl_T} (ok : pl_ok P) {k m s x y : Nat} (hs : s < 2 ^ (pl_n P + pl_b P)) (h : cnM P (k % 2) (cv P s) m = false) : jgS P k m (s, x, y) = none := by
  rw [jgS]
  cases q : pl_sp P m with
  | none => rfl
  | some j =>
    have m28 := sp_28 ok q
    rw [cnM, decide_eq_true m28, q, dv_cv ok hs] at h
    replace h : pl_lg P (k % 2) s j = false := h
    show (if pl_lg P (k % 2) s j then _ else none) = none
    rw [h]; rfl
theorem jgS_t {P : pl_T} {k m s x y j : Nat} (q : pl_sp P m = some j) (hl : pl_lg P (k % 2) s j = true) : jgS P k m (s, x, y) = some (pl_nx P s j, x + (if k % 2 = 0 then pl_wo P (bd s (pl_nx P s j)) else 0), y + (if k % 2 = 0 then 0 else pl_wo P (bd s (pl_nx P s j)))) := by
  rw [jgS, q]
  show (if pl_lg P (k % 2) s j then _ else none) = _
  rw [hl]; rfl
section
variable {P P' : pl_T} {tx tx' : Nat → Nat} {n n' : Nat} {g g' : gm_T} {kp kp' : Nat → Option gm_T} {lk lk' tl tl' : Nat} {rw rw' : Nat → Int} {Q Q' : Nat} {r : Nat → Nat} {dy : List aa_Shp} {σ σ' : aa_St}
theorem q_judge (h : MI P tx n g kp lk tl rw Q r dy σ) {m a b c : Nat} (hm : m ≤ 15) (ha : a < 4294967296) (hb : b < 4294967296) (hc : c < 4294967296) : ∃ (ra : Int32) (x y : Nat) (σ' : aa_St), (JR P m a b c ra x y ∧ MJ P tx n g kp lk 2 (rw2 x y) Q r dy σ σ') ∧ aa_SX mX12_judge 100 [.ref 63, .int (nI m), .int (nI a), .int (nI b), .int (nI c)] σ (some (.int ra)) σ' := by
  have h1 := h.thr (nI 0)
  have ok := h.ok
  have n14 := h.n14
  have fin : ∀ s x y (σ1 : aa_St) (z : Int32) (y8 y9 y10 : Option Value), x ≤ 126 * 15 → y ≤ 126 * 15 → FrA [73] (aa_sI σ 63 0 (nI 0)) σ1 → σ1.1 73 0 = nI x → σ1.1 73 1 = nI y → JR P m a b c z x y → aa_V mX12_judge 100 159 [some (.ref 63), some (.int (nI m)), some (.int (nI a)), some (.int (nI b)), some (.int (nI c)), some (.int (nI (cv P s))), some (.ref 73), some (.int z), y8, y9, y10] [] σ1 (fun ra σ' => ∃ (z : Int32) (x y : Nat), ra = some (.int z) ∧ JR P m a b c z x y ∧ MJ P tx n g kp lk 2 (rw2 x y) Q r dy σ σ') := by
    intro s x y σ1 z y8 y9 y10 xb yb hF c0 c1 hJ
    obtain ⟨h2, s2⟩ := h1.fA (by decide) hF
    have h3 := h2.t1 x
    have h4 := h2.t2 x y
    have r0 : (aa_sI σ1 63 1 (nI 0)).1 73 0 = nI x := by rw [sI_ne (by decide)]; exact c0
    have r1 : (t1S σ1 x).1 73 1 = nI y := by rw [t1_i (by decide)]; exact c1
    refine aa_go (aa_aload0 iX12_judge_159) (aa_go (aa_iconst iX12_judge_160 ki_0) (aa_go (aa_putI iX12_judge_161 fl_X12_11 (fun h => nomatch h) (sh_63 h2.W) rfl ⟨rfl, rfl⟩) (aa_go (aa_aload0 iX12_judge_164) (aa_go (aa_aload6 iX12_judge_165) (aa_go (aa_iconst iX12_judge_167 ki_0) (aa_go (aa_ialE iX12_judge_168 (sh_73 h2.W) (by omega) (by omega) (r0)) (aa_go (aa_i2lN iX12_judge_169 (by omega)) ?_)))))))
    refine aa_go (aa_topl (y := lZ x) (by rw [lZ_N])) ?_
    refine aa_go (aa_cVv iX12_judge_170 (h2.e0 _) (by decide) lc_X12_enters lk_X12_163 (sh_63 h2.W) rfl rfl (Nat.le_of_ble_eq_true rfl)) ?_
    refine aa_go (aa_aload0 iX12_judge_173) (aa_go (aa_aload6 iX12_judge_174) (aa_go (aa_iconst iX12_judge_176 ki_1) (aa_go (aa_ialE iX12_judge_177 (sh_73 h3.W) (by omega) (by omega) (r1)) (aa_go (aa_i2lN iX12_judge_178 (by omega)) ?_))))
    refine aa_go (aa_topl (y := lZ y) (by rw [lZ_N])) ?_
    refine aa_go (aa_cVv iX12_judge_179 (h2.e1 _ _) (by decide) lc_X12_enters lk_X12_163 (sh_63 h3.W) rfl rfl (Nat.le_of_ble_eq_true rfl)) (aa_go (aa_iload7 iX12_judge_182) ?_)
    refine aa_iret iX12_judge_184 rfl ?_
    exact ⟨z, x, y, rfl, hJ, h4.J (by omega) (((MF.rf.s (by decide) _ _).tr s2.F).t2 _ _)⟩
  have loop : ∀ f k s x y (σ1 : aa_St) y9 y10, m - k < f → k ≤ m → jgs P a b c k = some (s, x, y) → FrA [73] (aa_sI σ 63 0 (nI 0)) σ1 → σ1.1 73 0 = nI x → σ1.1 73 1 = nI y → aa_V mX12_judge 100 52 [some (.ref 63), some (.int (nI m)), some (.int (nI a)), some (.int (nI b)), some (.int (nI c)), some (.int (nI (cv P s))), some (.ref 73), some (.int (-2)), some (.int (nI k)), y9, y10] [] σ1 (fun ra σ' => ∃ (z : Int32) (x y : Nat), ra = some (.int z) ∧ JR P m a b c z x y ∧ MJ P tx n g kp lk 2 (rw2 x y) Q r dy σ σ') := by
    intro f
    induction f with
    | zero => intro k s x y σ1 y9 y10 g1; omega
    | succ f ih =>
      intro k s x y σ1 y9 y10 g1 g2 hj hF c0 c1
      obtain ⟨h2, s2⟩ := h1.fA (by decide) hF
      obtain ⟨hs, xb, yb⟩ := jgs_lt ok k s x y hj
      have dc := dv_cv ok hs
      have clt := cv_lt (P := P) s
      have ml : jmv a b c k < 64 := Nat.lt_of_le_of_lt Nat.and_le_right (by omega)
      have e5 : jgs P a b c (k + 1) = jgS P k (jmv a b c k) (s, x, y) := by rw [jgs, hj]; rfl
      -- from 88, with the number chosen
      have sel : ∀ u y10, u = (if k < 5 then a else if k < 10 then b else c) → k < m → aa_V mX12_judge 100 88 [some (.ref 63), some (.int (nI m)), some (.int (nI a)), some (.int (nI b)), some (.int (nI c)), some (.int (nI (cv P s))), some (.ref 73), some (.int (-2)), some (.int (nI k)), some (.int (nI u)), y10] [] σ1 (fun ra σ' => ∃ (z : Int32) (x y : Nat), ra = some (.int z) ∧ JR P m a b c z x y ∧ MJ P tx n g kp lk 2 (rw2 x y) Q r dy σ σ') := by
        intro u y10 hu km
        have ul : u < 4294967296 := by rw [hu]; split <;> (try split) <;> omega
        have eu : u >>> (6 * (k % 5)) &&& 63 = jmv a b c k := by rw [jmv, hu]
        refine aa_go (aa_iload9 iX12_judge_88) (aa_go (aa_bipush iX12_judge_90 kb_6) (aa_go (aa_iload8 iX12_judge_92) (aa_go (aa_iconst iX12_judge_94 ki_5) (aa_go (aa_iremN iX12_judge_95 (by omega) (by omega) (by omega)) (aa_go (aa_imulN iX12_judge_96 ) (aa_go (aa_ishr iX12_judge_97 ) (aa_go (aa_bipush iX12_judge_98 kb_63) ?_)))))))
        refine aa_go (aa_iand iX12_judge_100) ?_
        refine aa_go (aa_top (y := nI (jmv a b c k)) (by rw [← eu]; exact nI_sra (w := 6) ul (by omega) (by omega))) ?_
        refine aa_go (aa_istore10 iX12_judge_101 rfl (by decide)) (aa_go (aa_aload0 iX12_judge_103) (aa_go (aa_iload5 iX12_judge_104) (aa_go (aa_iload8 iX12_judge_106) (aa_go (aa_iconst iX12_judge_108 ki_2) (aa_go (aa_iremN iX12_judge_109 (by omega) (by omega) (by omega)) (aa_go (aa_iload10 iX12_judge_110) (aa_go (aa_cVi iX12_judge_112 (m_can h2.W h2.M clt (by omega) (by omega)) (by decide) lc_X12_can lk_X12_140 (sh_63 h2.W) rfl rfl (Nat.le_of_ble_eq_true rfl)) ?_)))))))
        refine aa_if_eqB iX12_judge_115 (fun g5 => ?_) (fun g5 => ?_)
        · skip
          have e6 : jgs P a b c (k + 1) = none := by rw [e5]; exact jgS_f ok hs g5
          have hJ : JR P m a b c (nI k) x y := Or.inr ⟨k, s, km, hj, e6, rfl⟩
          refine aa_go (aa_iload8 iX12_judge_149) (aa_go (aa_istore7 iX12_judge_151 rfl (by decide)) (aa_go (aa_iincN8 (k := 1) iX12_judge_153 rfl (by decide)) (aa_go (aa_goto iX12_judge_156) (aa_go (aa_iload8 iX12_judge_52) (aa_go (aa_iload1 iX12_judge_54) ?_)))))
          refine aa_ic_geN iX12_judge_55 (by omega) (by omega) (fun g6 => ?_) (fun g6 => ?_)
          · skip
            exact fin s x y σ1 (nI k) _ _ _ (by omega) (by omega) hF c0 c1 hJ
          · skip
            refine aa_go (aa_iload7 iX12_judge_58) ?_
            refine aa_go (aa_if_geN iX12_judge_60 (by omega)) ?_
            exact fin s x y σ1 (nI k) _ _ _ (by omega) (by omega) hF c0 c1 hJ
        · skip
          obtain ⟨j, hq, jl, m28, lg, -, -⟩ := cn_t ok g5
          rw [dc] at lg
          have wl := pl_wo_le ok (bd s (pl_nx P s j))
          have e6 : jgs P a b c (k + 1) = some (pl_nx P s j, x + (if k % 2 = 0 then pl_wo P (bd s (pl_nx P s j)) else 0), y + (if k % 2 = 0 then 0 else pl_wo P (bd s (pl_nx P s j)))) := by rw [e5]; exact jgS_t hq lg
          have wO := m_worthOf h2.W h2.M (t := cv P s) clt m28 hq
          rw [dc] at wO
          refine aa_go (aa_aload6 iX12_judge_118) (aa_go (aa_iload8 iX12_judge_120) (aa_go (aa_iconst iX12_judge_122 ki_2) (aa_go (aa_iremN iX12_judge_123 (by omega) (by omega) (by omega)) ?_)))
          rcases (show k % 2 = 0 ∨ k % 2 = 1 by omega) with e | e
          · rw [e, if_pos rfl, if_pos rfl, Nat.add_zero] at e6
            rw [e]
            have hF2 := hF.s (c := 73) (by decide) 0 (nI (x + pl_wo P (bd s (pl_nx P s j))))
            obtain ⟨h5, s5⟩ := h1.fA (by decide) hF2
            have hAf2 := m_after h5.W h5.M (t := cv P s) m28 hq
            rw [cv_af ok hq] at hAf2
            refine aa_go (aa_dup2 iX12_judge_124 rfl rfl) (aa_go (aa_ialE iX12_judge_125 (sh_73 h2.W) (by omega) (by omega) (c0)) (aa_go (aa_aload0 iX12_judge_126) (aa_go (aa_iload5 iX12_judge_127) (aa_go (aa_iload10 iX12_judge_129) (aa_go (aa_cVi iX12_judge_131 (wO) (by decide) lc_X12_worthOf lk_X12_160 (sh_63 h2.W) rfl rfl (Nat.le_of_ble_eq_true rfl)) (aa_go (aa_iaddN iX12_judge_134 ) (aa_go (aa_iasN iX12_judge_135 (sh_73 h2.W) (by omega) (by omega)) ?_)))))))
            refine aa_go (aa_aload0 iX12_judge_136) (aa_go (aa_iload5 iX12_judge_137) (aa_go (aa_iload10 iX12_judge_139) (aa_go (aa_cVi iX12_judge_141 (hAf2) (by decide) lc_X12_after lk_X12_137 (sh_63 h5.W) rfl rfl (Nat.le_of_ble_eq_true rfl)) (aa_go (aa_istore5 iX12_judge_144 rfl (by decide)) (aa_go (aa_goto iX12_judge_146) (aa_go (aa_iincN8 (k := 1) iX12_judge_153 rfl (by decide)) (aa_go (aa_goto iX12_judge_156) ?_)))))))
            exact ih (k + 1) (pl_nx P s j) _ _ _ _ _ (by omega) (by omega) e6 hF2 sI_eq (by rw [sI_nk (by decide)]; exact c1)
          · rw [e, if_neg (by decide), if_neg (by decide), Nat.add_zero] at e6
            rw [e]
            have hF2 := hF.s (c := 73) (by decide) 1 (nI (y + pl_wo P (bd s (pl_nx P s j))))
            obtain ⟨h5, s5⟩ := h1.fA (by decide) hF2
            have hAf2 := m_after h5.W h5.M (t := cv P s) m28 hq
            rw [cv_af ok hq] at hAf2
            refine aa_go (aa_dup2 iX12_judge_124 rfl rfl) (aa_go (aa_ialE iX12_judge_125 (sh_73 h2.W) (by omega) (by omega) (c1)) (aa_go (aa_aload0 iX12_judge_126) (aa_go (aa_iload5 iX12_judge_127) (aa_go (aa_iload10 iX12_judge_129) (aa_go (aa_cVi iX12_judge_131 (wO) (by decide) lc_X12_worthOf lk_X12_160 (sh_63 h2.W) rfl rfl (Nat.le_of_ble_eq_true rfl)) (aa_go (aa_iaddN iX12_judge_134 ) (aa_go (aa_iasN iX12_judge_135 (sh_73 h2.W) (by omega) (by omega)) ?_)))))))
            refine aa_go (aa_aload0 iX12_judge_136) (aa_go (aa_iload5 iX12_judge_137) (aa_go (aa_iload10 iX12_judge_139) (aa_go (aa_cVi iX12_judge_141 (hAf2) (by decide) lc_X12_after lk_X12_137 (sh_63 h5.W) rfl rfl (Nat.le_of_ble_eq_true rfl)) (aa_go (aa_istore5 iX12_judge_144 rfl (by decide)) (aa_go (aa_goto iX12_judge_146) (aa_go (aa_iincN8 (k := 1) iX12_judge_153 rfl (by decide)) (aa_go (aa_goto iX12_judge_156) ?_)))))))
            exact ih (k + 1) (pl_nx P s j) _ _ _ _ _ (by omega) (by omega) e6 hF2 (by rw [sI_nk (by decide)]; exact c0) sI_eq
      refine aa_go (aa_iload8 iX12_judge_52) (aa_go (aa_iload1 iX12_judge_54) ?_)
      refine aa_ic_geN iX12_judge_55 (by omega) (by omega) (fun g3 => ?_) (fun g3 => ?_)
      · skip
        have e : k = m := by omega
        subst e
        exact fin s x y σ1 (-2) _ _ _ (by omega) (by omega) hF c0 c1 (Or.inl ⟨s, hj, rfl⟩)
      · skip
        refine aa_go (aa_iload7 iX12_judge_58) ?_
        refine aa_if_ge iX12_judge_60 (fun g4 => ?_) (fun g4 => ?_)
        · skip
          exact absurd g4 (by decide)
        · skip
          refine aa_go (aa_iload8 iX12_judge_63) (aa_go (aa_iconst iX12_judge_65 ki_5) ?_)
          refine aa_ic_geN iX12_judge_66 (by omega) (by omega) (fun g5 => ?_) (fun g5 => ?_)
          · skip
            refine aa_go (aa_iload8 iX12_judge_73) (aa_go (aa_bipush iX12_judge_75 kb_10) ?_)
            refine aa_ic_geN iX12_judge_77 (by omega) (by omega) (fun g6 => ?_) (fun g6 => ?_)
            · skip
              refine aa_go (aa_iload4 iX12_judge_84) (aa_go (aa_istore9 iX12_judge_86 rfl (by decide)) ?_)
              exact sel c _ (by rw [if_neg (by omega), if_neg (by omega)]) g3
            · skip
              refine aa_go (aa_iload3 iX12_judge_80) (aa_go (aa_goto iX12_judge_81) (aa_go (aa_istore9 iX12_judge_86 rfl (by decide)) ?_))
              exact sel b _ (by rw [if_neg (by omega), if_pos (by omega)]) g3
          · skip
            refine aa_go (aa_iload2 iX12_judge_69) (aa_go (aa_goto iX12_judge_70) (aa_go (aa_istore9 iX12_judge_86 rfl (by decide)) ?_))
            exact sel a _ (by rw [if_pos (by omega)]) g3
  have key : aa_V mX12_judge 100 0 [some (.ref 63), some (.int (nI m)), some (.int (nI a)), some (.int (nI b)), some (.int (nI c)), none, none, none, none, none, none] [] σ (fun ra σ' => ∃ (z : Int32) (x y : Nat), ra = some (.int z) ∧ JR P m a b c z x y ∧ MJ P tx n g kp lk 2 (rw2 x y) Q r dy σ σ') := by
    have p1 : 1 ≤ 2 ^ pl_n P := Nat.one_le_two_pow
    refine aa_go (aa_aload0 iX12_judge_0) (aa_go (aa_iconst iX12_judge_1 ki_0) (aa_go (aa_putI iX12_judge_2 fl_X12_3 (fun h => nomatch h) (sh_63 h.W) rfl ⟨rfl, rfl⟩) ?_))
    refine aa_go (aa_iload1 iX12_judge_5) (aa_go (aa_i2lN iX12_judge_6 (by omega)) (aa_go (aa_lconst iX12_judge_7 kl_0) (aa_go (aa_ldc2 iX12_judge_8 ld_X12_155) (aa_go (aa_cSi iX12_judge_11 (m_inN (hi := 15) (by omega) (by omega)) (by decide) lc_X12_in lk_X12_21 rfl (Nat.le_of_ble_eq_true rfl)) ?_))))
    refine aa_if_neB iX12_judge_14 (fun g1 => ?_) (fun g1 => ?_)
    · skip
      refine aa_go (aa_iconst iX12_judge_19 ki_1) (aa_go (aa_aload0 iX12_judge_20) (aa_go (aa_getE iX12_judge_21 fl_X12_78 (sh_63 h1.W) rfl h1.M.2.1) (aa_go (aa_ishlN iX12_judge_24 (by omega)) ?_)))
      refine aa_go (aa_top (y := nI (2 ^ pl_n P)) (by rw [Nat.one_shiftLeft])) ?_
      refine aa_go (aa_iconst iX12_judge_25 ki_1) (aa_go (aa_isubN iX12_judge_26 (by omega)) ?_)
      refine aa_go (aa_top (y := nI (cv P (2 ^ pl_n P - 1))) (by rw [cv_full ok])) ?_
      refine aa_go (aa_istore5 iX12_judge_27 rfl (by decide)) (aa_go (aa_aload0 iX12_judge_29) (aa_go (aa_getR iX12_judge_30 fl_X12_157 (sh_63 h1.W) rfl) (aa_go (aa_astore6 iX12_judge_33 rfl (by decide)) (aa_go (aa_aload6 iX12_judge_35) (aa_go (aa_iconst iX12_judge_37 ki_0) (aa_go (aa_iconst iX12_judge_38 ki_0) (aa_go (aa_iasN iX12_judge_39 (sh_73 h1.W) (by omega) (by omega)) ?_)))))))
      refine aa_go (aa_aload6 iX12_judge_40) (aa_go (aa_iconst iX12_judge_42 ki_1) (aa_go (aa_iconst iX12_judge_43 ki_0) (aa_go (aa_iasN iX12_judge_44 (sh_73 h1.W) (by omega) (by omega)) (aa_go (aa_bipush iX12_judge_45 kb_m2) (aa_go (aa_istore7 iX12_judge_47 rfl (by decide)) (aa_go (aa_iconst iX12_judge_49 ki_0) (aa_go (aa_istore8 iX12_judge_50 rfl (by decide)) ?_)))))))
      exact loop (m + 1) 0 (2 ^ pl_n P - 1) 0 0 _ _ _ (by omega) (by omega) rfl ((FrA.rf.s (by decide) _ _).s (by decide) _ _) (by rw [sI_nk (by decide), sI_eq]) (by rw [sI_eq])
    · skip
      exact absurd hm (of_decide_eq_false g1)
  obtain ⟨ra, σ', ⟨z, x, y, rfl, h8, h9⟩, hS9⟩ := aa_S_of (avs := [.ref 63, .int (nI m), .int (nI a), .int (nI b), .int (nI c)]) (by decide) 6 [some (.ref 63), some (.int (nI m)), some (.int (nI a)), some (.int (nI b)), some (.int (nI c)), none, none, none, none, none, none] rfl rfl key
  exact ⟨z, x, y, σ', ⟨h8, h9⟩, hS9⟩
theorem q_judgeB (h : MI P tx n g kp lk tl rw Q r dy σ) {m a b c : Int32} (hm : m < 0 ∨ nI 15 < m) : ∃ σ', MJ P tx n g kp lk tl rw Q r dy σ σ' ∧ aa_SX mX12_judge 100 [.ref 63, .int m, .int a, .int b, .int c] σ (some (.int (-1))) σ' := by
  have h1 := h.thr (nI 0)
  refine ⟨_, h.JB, ?_⟩
  refine aa_E_of (by decide) 6 [some (.ref 63), some (.int (m)), some (.int (a)), some (.int (b)), some (.int (c)), none, none, none, none, none, none] rfl rfl ?_
  refine aa_go (aa_aload0 iX12_judge_0) (aa_go (aa_iconst iX12_judge_1 ki_0) (aa_go (aa_putI iX12_judge_2 fl_X12_3 (fun h => nomatch h) (sh_63 h.W) rfl ⟨rfl, rfl⟩) ?_))
  refine aa_go (aa_iload1 iX12_judge_5) (aa_go (aa_i2l iX12_judge_6) (aa_go (aa_lconst iX12_judge_7 kl_0) (aa_go (aa_ldc2 iX12_judge_8 ld_X12_155) (aa_go (aa_cSi iX12_judge_11 (m_inB (c := 15) (by omega) hm) (by decide) lc_X12_in lk_X12_21 rfl (Nat.le_of_ble_eq_true rfl)) ?_))))
  refine aa_if_neB iX12_judge_14 (fun g1 => ?_) (fun g1 => ?_)
  · skip
    exact absurd g1 (by decide)
  · skip
    refine aa_go (aa_iconst iX12_judge_17 ki_m1) ?_
    refine aa_iret iX12_judge_18 rfl ?_
    exact ⟨rfl, rfl⟩
theorem q_sheetB (h : MI P tx n g kp lk tl rw Q r dy σ) {k x f st : Int32} (hx : (k < 0 ∨ nI 3 < k) ∨ ¬ x ≤ nI 14) : ∃ σ', MJ P tx n g kp lk tl rw Q r dy σ σ' ∧ aa_SX mX12_sheet 100 [.ref 63, .int k, .int x, .int f, .int st] σ (some (.int (-1))) σ' := by
  have h1 := h.thr (nI 0)
  refine ⟨_, h.JB, ?_⟩
  have i3 := m_inJ (σ := aa_sI σ 63 0 (nI 0)) k (nI 3)
  rw [show (nI 3).toInt64 = lN 3 by decide, show (nI 3).toInt = 3 by decide] at i3
  refine aa_E_of (by decide) 4 [some (.ref 63), some (.int (k)), some (.int (x)), some (.int (f)), some (.int (st)), none, none, none, none] rfl rfl ?_
  refine aa_go (aa_aload0 iX12_sheet_0) (aa_go (aa_iconst iX12_sheet_1 ki_0) (aa_go (aa_putI iX12_sheet_2 fl_X12_3 (fun h => nomatch h) (sh_63 h.W) rfl ⟨rfl, rfl⟩) ?_))
  refine aa_go (aa_iload1 iX12_sheet_5) (aa_go (aa_i2l iX12_sheet_6) (aa_go (aa_lconst iX12_sheet_7 kl_0) (aa_go (aa_ldc2 iX12_sheet_8 ld_X12_127) (aa_go (aa_cSi iX12_sheet_11 (i3) (by decide) lc_X12_in lk_X12_21 rfl (Nat.le_of_ble_eq_true rfl)) ?_))))
  refine aa_if_eqB iX12_sheet_14 (fun g1 => ?_) (fun g1 => ?_)
  · skip
    refine aa_go (aa_iconst iX12_sheet_23 ki_m1) ?_
    refine aa_iret iX12_sheet_24 rfl ?_
    exact ⟨rfl, rfl⟩
  · skip
    refine aa_go (aa_iload2 iX12_sheet_17) (aa_go (aa_bipush iX12_sheet_18 kb_14) ?_)
    refine aa_ic_le iX12_sheet_20 (fun g2 => ?_) (fun g2 => ?_)
    · skip
      rcases hx with q | q
      · exact absurd (of_decide_eq_true g1) (dB_f (c := 3) (by omega) q)
      · exact absurd g2 q
    · skip
      refine aa_go (aa_iconst iX12_sheet_23 ki_m1) ?_
      refine aa_iret iX12_sheet_24 rfl ?_
      exact ⟨rfl, rfl⟩
theorem q_sheetM (h : MI P tx n g kp lk tl rw Q r dy σ) {k : Nat} {x f st : Int32} (hk : k < 3) (hx : x < 0) : ∃ σ', MJ P tx n g kp lk tl rw Q r dy σ σ' ∧ aa_SX mX12_sheet 100 [.ref 63, .int (nI k), .int x, .int f, .int st] σ (some (.int (-2))) σ' := by
  have h1 := h.thr (nI 0)
  refine ⟨_, h.JB, ?_⟩
  refine aa_E_of (by decide) 4 [some (.ref 63), some (.int (nI k)), some (.int (x)), some (.int (f)), some (.int (st)), none, none, none, none] rfl rfl ?_
  refine aa_go (aa_aload0 iX12_sheet_0) (aa_go (aa_iconst iX12_sheet_1 ki_0) (aa_go (aa_putI iX12_sheet_2 fl_X12_3 (fun h => nomatch h) (sh_63 h.W) rfl ⟨rfl, rfl⟩) ?_))
  refine aa_go (aa_iload1 iX12_sheet_5) (aa_go (aa_i2lN iX12_sheet_6 (by omega)) (aa_go (aa_lconst iX12_sheet_7 kl_0) (aa_go (aa_ldc2 iX12_sheet_8 ld_X12_127) (aa_go (aa_cSi iX12_sheet_11 (m_inN (hi := 3) (by omega) (by omega)) (by decide) lc_X12_in lk_X12_21 rfl (Nat.le_of_ble_eq_true rfl)) ?_))))
  refine aa_if_eqB iX12_sheet_14 (fun g1 => ?_) (fun g1 => ?_)
  · skip
    have := of_decide_eq_false g1
    omega
  · skip
    refine aa_go (aa_iload2 iX12_sheet_17) (aa_go (aa_bipush iX12_sheet_18 kb_14) ?_)
    refine aa_ic_le iX12_sheet_20 (fun g2 => ?_) (fun g2 => ?_)
    · skip
      refine aa_go (aa_iload1 iX12_sheet_25) (aa_go (aa_iconst iX12_sheet_26 ki_3) ?_)
      refine aa_ic_eqN iX12_sheet_27 (by omega) (by omega) (fun g3 => ?_) (fun g3 => ?_)
      · skip
        omega
      · skip
        refine aa_go (aa_iload2 iX12_sheet_30) ?_
        refine aa_if_ge iX12_sheet_31 (fun g4 => ?_) (fun g4 => ?_)
        · skip
          rw [Int32.le_iff_toInt_le] at g4
          rw [Int32.lt_iff_toInt_lt] at hx
          omega
        · skip
          refine aa_go (aa_bipush iX12_sheet_34 kb_m2) ?_
          refine aa_iret iX12_sheet_36 rfl ?_
          exact ⟨rfl, rfl⟩
    · skip
      exfalso
      rw [Int32.lt_iff_toInt_lt, Int32.toInt_zero] at hx
      rw [Int32.le_iff_toInt_le, nI_toInt (by omega)] at g2
      omega
theorem sh_step (f st : Int32) (i : Nat) : f + nI i * st + st = f + nI (i + 1) * st := by
  rw [show nI (i + 1) = nI i + nI 1 from (nI_add i 1).symm, Int32.add_mul, show nI 1 = (1 : Int32) from rfl, Int32.one_mul, Int32.add_assoc]
theorem sm_sh {k ent : Nat} {f st : Int32} {i : Nat} (hi : i < pl_n P) : pl_sm (shP P k ent f st) (2 ^ pl_n P - 1) (i + 1) = pl_sm (shP P k ent f st) (2 ^ pl_n P - 1) i + shV k ent f st i := by
  rw [pl_sm, Nat.testBit_two_pow_sub_one, decide_eq_true hi, if_pos rfl]
  show _ + (if i < pl_n P then shV k ent f st i else 0) = _
  rw [if_pos hi]
theorem q_sheet (h : MI P tx n g kp lk tl rw Q r dy σ) {k ent : Nat} {x f st : Int32} (hok : pl_ok (shP P k ent f st)) (hk : k ≤ 3) (hx : x ≤ nI 14) (hx0 : k = 3 ∧ ent = 0 ∨ k < 3 ∧ x = nI ent ∧ ent ≤ 14) : ∃ σ', MJ (shP P k ent f st) tx n g kp lk tl rw Q r dy σ σ' ∧ aa_SX mX12_sheet 100 [.ref 63, .int (nI k), .int x, .int f, .int st] σ (some (.int (if k = 3 then -3 else nI (pl_wo (shP P k ent f st) (2 ^ pl_n P - 1))))) σ' := by
  have h1 := h.thr (nI 0)
  have n14 := h.n14
  have s9 : ∀ i, shV k ent f st i ≤ 9 := fun i => by
    unfold shV
    split
    · exact shE_9 _ _
    · omega
  have smb : ∀ i, i ≤ pl_n P → pl_sm (shP P k ent f st) (2 ^ pl_n P - 1) i ≤ 9 * i := by
    intro i
    induction i with
    | zero => intro _; exact Nat.le_refl _
    | succ i ih =>
      intro hi
      have := ih (by omega)
      have := s9 i
      rw [sm_sh (by omega)]; omega
  have fin : ∀ (σ1 : aa_St), FrA [65] (aa_sI σ 63 0 (nI 0)) σ1 → (∀ j, j < pl_n P → σ1.1 65 j = nI (shV k ent f st j)) → MJ (shP P k ent f st) tx n g kp lk tl rw Q r dy σ σ1 := by
    intro σ1 hF hA
    have q : ∀ z, z ≠ 63 → z ≠ 65 → σ1.1 z = σ.1 z := fun z a1 a2 => by rw [hF.2 z (by simpa using a2), sI_ne a1]
    have qk : ∀ z, z ≠ 0 → σ1.1 63 z = σ.1 63 z := fun z a1 => by rw [hF.2 63 (by decide), sI_nk a1]
    obtain ⟨-, a1, a2, a3, a4⟩ := h.M
    have hMP : MP (shP P k ent f st) σ1.1 := by
      refine ⟨hok, by rw [qk 3 (by decide)]; exact a1, by rw [qk 8 (by decide)]; exact a2, fun j hj => ?_, fun j hj => by rw [q 69 (by decide) (by decide)]; exact a4 j hj⟩
      have hj' : j < pl_n P := hj
      refine ⟨?_, by rw [q 66 (by decide) (by decide)]; exact (a3 j hj').2.1, by rw [q 67 (by decide) (by decide)]; exact (a3 j hj').2.2.1, by rw [q 68 (by decide) (by decide)]; exact (a3 j hj').2.2.2⟩
      show σ1.1 65 j = nI (if j < pl_n P then shV k ent f st j else 0)
      rw [if_pos hj']; exact hA j hj'
    have hI : MI (shP P k ent f st) tx n g kp lk tl rw Q r dy σ1 := ⟨h.W.of2 (by rw [hF.1]; rfl), h.R, hMP, h.X.fr (qk 17 (by decide)) (q 72 (by decide) (by decide)), h.G.fr (fun z hz => qk z (by omega)) (q 70 (by decide) (by decide)) (q 71 (by decide) (by decide)), h.K.fr (q 83 (by decide) (by decide)) (q 84 (by decide) (by decide)) (q 85 (by decide) (by decide)), h.L.fr (q 80 (by decide) (by decide)), h.T.fr (qk 1 (by decide)) (by rw [hF.1]; rfl), h.q.fr (qk 24 (by decide)) (q 74 (by decide) (by decide))⟩
    exact hI.J (by omega) ⟨by rw [hF.1]; rfl, fun z hz => ⟨q z (by omega) (by omega), by rw [hF.1]; rfl⟩⟩
  have loop : ∀ f2 i (σ1 : aa_St) y8, pl_n P - i < f2 → i ≤ pl_n P → FrA [65] (aa_sI σ 63 0 (nI 0)) σ1 → (∀ j, j < i → σ1.1 65 j = nI (shV k ent f st j)) → aa_V mX12_sheet 100 46 [some (.ref 63), some (.int (nI k)), some (.int x), some (.int f), some (.int st), some (.int (nI (pl_sm (shP P k ent f st) (2 ^ pl_n P - 1) i))), some (.int (f + nI i * st)), some (.int (nI i)), y8] [] σ1 (fun ra σ' => ra = some (.int (if k = 3 then -3 else nI (pl_wo (shP P k ent f st) (2 ^ pl_n P - 1)))) ∧ MJ (shP P k ent f st) tx n g kp lk tl rw Q r dy σ σ') := by
    intro f2
    induction f2 with
    | zero => intro i σ1 y8 g1; omega
    | succ f2 ih =>
      intro i σ1 y8 g1 g2 hF hA
      have hW1 := hF.W h1.W
      have e3 : σ1.1 63 3 = nI (pl_n P) := by rw [hF.2 63 (by decide)]; exact h1.M.2.1
      have sb := smb i g2
      -- the entry is stored
      have sto : ∀ z y8, z = shV k ent f st i → i < pl_n P → aa_V mX12_sheet 100 112 [some (.ref 63), some (.int (nI k)), some (.int x), some (.int f), some (.int st), some (.int (nI (pl_sm (shP P k ent f st) (2 ^ pl_n P - 1) i))), some (.int (f + nI i * st)), some (.int (nI i)), y8] [.int (nI z), .int (nI i), .ref 65] σ1 (fun ra σ' => ra = some (.int (if k = 3 then -3 else nI (pl_wo (shP P k ent f st) (2 ^ pl_n P - 1)))) ∧ MJ (shP P k ent f st) tx n g kp lk tl rw Q r dy σ σ') := by
        intro z y8 hz hi
        have z9 : z ≤ 9 := by rw [hz]; exact s9 i
        have nxt := ih (i + 1) (aa_sI σ1 65 i (nI z)) y8 (by omega) (by omega) (hF.s (by decide) _ _) (fun j hj => by
          rw [sI_at]
          by_cases c : j = i
          · rw [if_pos c, c, hz]
          · rw [if_neg c]; exact hA j (by omega))
        rw [sm_sh hi, ← hz, ← sh_step] at nxt
        have r1 : (aa_sI σ1 65 i (nI z)).1 65 i = nI z := sI_eq
        refine aa_go (aa_iasN iX12_sheet_112 (sh_65 hW1) (by omega) (by omega)) (aa_go (aa_iload5 iX12_sheet_113) (aa_go (aa_aload0 iX12_sheet_115) (aa_go (aa_getR iX12_sheet_116 fl_X12_54 (sh_63 hW1) rfl) (aa_go (aa_iload7 iX12_sheet_119) (aa_go (aa_ialE iX12_sheet_121 (sh_65 hW1) (by omega) (by omega) (r1)) (aa_go (aa_iaddN iX12_sheet_122 ) (aa_go (aa_istore5 iX12_sheet_123 rfl (by decide)) ?_)))))))
        refine aa_go (aa_iload6 iX12_sheet_125) (aa_go (aa_iload4 iX12_sheet_127) (aa_go (aa_iadd iX12_sheet_129) (aa_go (aa_istore6 iX12_sheet_130 rfl (by decide)) (aa_go (aa_iincN7 (k := 1) iX12_sheet_132 rfl (by decide)) (aa_go (aa_goto iX12_sheet_135) ?_)))))
        exact nxt
      refine aa_go (aa_iload7 iX12_sheet_46) (aa_go (aa_aload0 iX12_sheet_48) (aa_go (aa_getE iX12_sheet_49 fl_X12_78 (sh_63 hW1) rfl e3) ?_))
      refine aa_ic_geN iX12_sheet_52 (by omega) (by omega) (fun g3 => ?_) (fun g3 => ?_)
      · skip
        have e : i = pl_n P := by omega
        subst e
        refine aa_go (aa_iload1 iX12_sheet_138) (aa_go (aa_iconst iX12_sheet_139 ki_3) ?_)
        refine aa_ic_neN iX12_sheet_140 (by omega) (by omega) (fun g4 => ?_) (fun g4 => ?_)
        · skip
          refine aa_go (aa_iload5 iX12_sheet_148) ?_
          refine aa_iret iX12_sheet_150 rfl ?_
          exact ⟨by rw [if_neg g4]; rfl, fin σ1 hF hA⟩
        · skip
          refine aa_go (aa_bipush iX12_sheet_143 kb_m3) (aa_go (aa_goto iX12_sheet_145) ?_)
          refine aa_iret iX12_sheet_150 rfl ?_
          exact ⟨by rw [if_pos g4], fin σ1 hF hA⟩
      · skip
        -- from 80, with the number narrowed
        have sel : ∀ w : Int32, w = (if k = 0 then (f + nI i * st).toInt8.toInt32 else if k = 1 then (f + nI i * st).toInt16.toInt32 else f + nI i * st) → aa_V mX12_sheet 100 80 [some (.ref 63), some (.int (nI k)), some (.int x), some (.int f), some (.int st), some (.int (nI (pl_sm (shP P k ent f st) (2 ^ pl_n P - 1) i))), some (.int (f + nI i * st)), some (.int (nI i)), some (.int w)] [] σ1 (fun ra σ' => ra = some (.int (if k = 3 then -3 else nI (pl_wo (shP P k ent f st) (2 ^ pl_n P - 1)))) ∧ MJ (shP P k ent f st) tx n g kp lk tl rw Q r dy σ σ') := by
          intro w hw
          rcases hx0 with ⟨k3, e0⟩ | ⟨k3, hxe, e14⟩
          · subst e0
            refine aa_go (aa_aload0 iX12_sheet_80) (aa_go (aa_getR iX12_sheet_81 fl_X12_54 (sh_63 hW1) rfl) (aa_go (aa_iload7 iX12_sheet_84) (aa_go (aa_iload1 iX12_sheet_86) (aa_go (aa_iconst iX12_sheet_87 ki_3) ?_))))
            refine aa_ic_eqN iX12_sheet_88 (by omega) (by omega) (fun g4 => ?_) (fun g4 => ?_)
            · skip
              refine aa_go (aa_iconst iX12_sheet_97 ki_0) (aa_go (aa_goto iX12_sheet_98) ?_)
              exact sto 0 _ (by rw [shV, if_neg (by omega)]) g3
            · skip
              omega
          · subst hxe
            refine aa_go (aa_aload0 iX12_sheet_80) (aa_go (aa_getR iX12_sheet_81 fl_X12_54 (sh_63 hW1) rfl) (aa_go (aa_iload7 iX12_sheet_84) (aa_go (aa_iload1 iX12_sheet_86) (aa_go (aa_iconst iX12_sheet_87 ki_3) ?_))))
            refine aa_ic_eqN iX12_sheet_88 (by omega) (by omega) (fun g4 => ?_) (fun g4 => ?_)
            · skip
              omega
            · skip
              refine aa_go (aa_iload7 iX12_sheet_91) (aa_go (aa_iload2 iX12_sheet_93) ?_)
              refine aa_ic_ltN iX12_sheet_94 (by omega) (by omega) (fun g5 => ?_) (fun g5 => ?_)
              · skip
                refine aa_go (aa_iconst iX12_sheet_101 ki_0) (aa_go (aa_bipush iX12_sheet_102 kb_9) (aa_go (aa_iload8 iX12_sheet_104) (aa_go (aa_mmin iX12_sheet_106 (by omega) lk_X12_72 (Nat.le_of_ble_eq_true rfl)) (aa_go (aa_mmax iX12_sheet_109 (by omega) lk_X12_129 (Nat.le_of_ble_eq_true rfl)) ?_))))
                refine aa_go (aa_top (y := nI (shV k ent f st i)) (by rw [cl_eq, shV, if_pos g5, shE, hw])) ?_
                exact sto _ _ rfl g3
              · skip
                refine aa_go (aa_iconst iX12_sheet_97 ki_0) (aa_go (aa_goto iX12_sheet_98) ?_)
                exact sto 0 _ (by rw [shV, if_neg (by omega)]) g3
        refine aa_go (aa_iload1 iX12_sheet_55) ?_
        refine aa_if_neN iX12_sheet_56 (by omega) (fun g4 => ?_) (fun g4 => ?_)
        · skip
          refine aa_go (aa_iload1 iX12_sheet_65) (aa_go (aa_iconst iX12_sheet_66 ki_1) ?_)
          refine aa_ic_neN iX12_sheet_67 (by omega) (by omega) (fun g5 => ?_) (fun g5 => ?_)
          · skip
            refine aa_go (aa_iload6 iX12_sheet_76) (aa_go (aa_istore8 iX12_sheet_78 rfl (by decide)) ?_)
            exact sel _ (by rw [if_neg g4, if_neg g5])
          · skip
            refine aa_go (aa_iload6 iX12_sheet_70) (aa_go (aa_i2s iX12_sheet_72) (aa_go (aa_goto iX12_sheet_73) (aa_go (aa_istore8 iX12_sheet_78 rfl (by decide)) ?_)))
            exact sel _ (by rw [if_neg g4, if_pos g5])
        · skip
          refine aa_go (aa_iload6 iX12_sheet_59) (aa_go (aa_i2b iX12_sheet_61) (aa_go (aa_goto iX12_sheet_62) (aa_go (aa_istore8 iX12_sheet_78 rfl (by decide)) ?_)))
          exact sel _ (by rw [if_pos g4])
  have key : aa_V mX12_sheet 100 0 [some (.ref 63), some (.int (nI k)), some (.int x), some (.int f), some (.int st), none, none, none, none] [] σ (fun ra σ' => ra = some (.int (if k = 3 then -3 else nI (pl_wo (shP P k ent f st) (2 ^ pl_n P - 1)))) ∧ MJ (shP P k ent f st) tx n g kp lk tl rw Q r dy σ σ') := by
    have lp := loop (pl_n P + 1) 0 (aa_sI σ 63 0 (nI 0)) none (by omega) (by omega) FrA.rf (fun j hj => by omega)
    rw [show nI 0 * st = 0 from Int32.zero_mul, Int32.add_zero] at lp
    refine aa_go (aa_aload0 iX12_sheet_0) (aa_go (aa_iconst iX12_sheet_1 ki_0) (aa_go (aa_putI iX12_sheet_2 fl_X12_3 (fun h => nomatch h) (sh_63 h.W) rfl ⟨rfl, rfl⟩) ?_))
    refine aa_go (aa_iload1 iX12_sheet_5) (aa_go (aa_i2lN iX12_sheet_6 (by omega)) (aa_go (aa_lconst iX12_sheet_7 kl_0) (aa_go (aa_ldc2 iX12_sheet_8 ld_X12_127) (aa_go (aa_cSi iX12_sheet_11 (m_inN (hi := 3) (by omega) (by omega)) (by decide) lc_X12_in lk_X12_21 rfl (Nat.le_of_ble_eq_true rfl)) ?_))))
    refine aa_if_eqB iX12_sheet_14 (fun g1 => ?_) (fun g1 => ?_)
    · skip
      exact absurd hk (of_decide_eq_false g1)
    · skip
      refine aa_go (aa_iload2 iX12_sheet_17) (aa_go (aa_bipush iX12_sheet_18 kb_14) ?_)
      refine aa_ic_le iX12_sheet_20 (fun g2 => ?_) (fun g2 => ?_)
      · skip
        refine aa_go (aa_iload1 iX12_sheet_25) (aa_go (aa_iconst iX12_sheet_26 ki_3) ?_)
        refine aa_ic_eqN iX12_sheet_27 (by omega) (by omega) (fun g3 => ?_) (fun g3 => ?_)
        · skip
          refine aa_go (aa_iconst iX12_sheet_37 ki_0) (aa_go (aa_istore5 iX12_sheet_38 rfl (by decide)) (aa_go (aa_iload3 iX12_sheet_40) (aa_go (aa_istore6 iX12_sheet_41 rfl (by decide)) (aa_go (aa_iconst iX12_sheet_43 ki_0) (aa_go (aa_istore7 iX12_sheet_44 rfl (by decide)) ?_)))))
          exact lp
        · skip
          refine aa_go (aa_iload2 iX12_sheet_30) ?_
          refine aa_if_ge iX12_sheet_31 (fun g4 => ?_) (fun g4 => ?_)
          · skip
            refine aa_go (aa_iconst iX12_sheet_37 ki_0) (aa_go (aa_istore5 iX12_sheet_38 rfl (by decide)) (aa_go (aa_iload3 iX12_sheet_40) (aa_go (aa_istore6 iX12_sheet_41 rfl (by decide)) (aa_go (aa_iconst iX12_sheet_43 ki_0) (aa_go (aa_istore7 iX12_sheet_44 rfl (by decide)) ?_)))))
            exact lp
          · skip
            rcases hx0 with ⟨k3, e0⟩ | ⟨k3, hxe, e14⟩
            · omega
            · subst hxe
              exact absurd (nI_ge0 (by omega)) g4
      · skip
        exact absurd hx g2
  obtain ⟨ra, σ', ⟨rfl, h9⟩, hS9⟩ := aa_S_of (avs := [.ref 63, .int (nI k), .int x, .int f, .int st]) (by decide) 4 [some (.ref 63), some (.int (nI k)), some (.int x), some (.int f), some (.int st), none, none, none, none] rfl rfl key
  exact ⟨σ', h9, hS9⟩
end
