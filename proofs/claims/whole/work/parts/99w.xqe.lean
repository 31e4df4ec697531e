/-! THE REFERENCE, PUBLIC METHODS: walls -/
theorem wlR_s (i c : Nat) : wlR (some (i, c)) = rw2 (i : Int) (c : Int) := rfl
theorem wp_ext {s i c : Nat} {q : Nat × Nat → Bool} {x : Nat × Nat} (h : (wp s i c).find? q = some x) : ∀ e, (wp s i (c + e)).find? q = some x
  | 0 => h
  | e + 1 => by rw [show c + (e + 1) = c + e + 1 by omega, wp_c, List.find?_append, wp_ext h e]; rfl
theorem wp_rows {s i : Nat} {q : Nat × Nat → Bool} {x : Nat × Nat} (h : (wp s i 0).find? q = some x) : ∀ d, (wp s (i + d) 0).find? q = some x
  | 0 => h
  | d + 1 => by
    rw [show i + (d + 1) = i + d + 1 by omega, wp_i]
    have := wp_ext (wp_rows h d) (wr s (i + d))
    rw [Nat.zero_add] at this
    exact this
theorem wp_all {s i p : Nat} {x : Nat × Nat} (hi : i < 4) (hp : p + 1 ≤ wr s i) (h : (wp s i (p + 1)).find? (fun x => !wv (cut s x.1 x.2)) = some x) : wst s = some x := by
  have h1 := wp_ext h (wr s i - (p + 1))
  rw [show p + 1 + (wr s i - (p + 1)) = wr s i by omega, ← wp_i] at h1
  have h2 := wp_rows h1 (4 - (i + 1))
  rw [show i + 1 + (4 - (i + 1)) = 4 by omega] at h2
  exact h2
section
variable {P P' : pl_T} {tx tx' : Nat → Nat} {n n' : Nat} {g g' : gm_T} {kp kp' : Nat → Option gm_T} {lk lk' tl tl' : Nat} {rw rw' : Nat → Int} {Q Q' : Nat} {r : Nat → Nat} {dy : List aa_Shp} {σ σ' : aa_St}
theorem q_wall (h : MI P tx n g kp lk tl rw Q r dy σ) (hQ : Q + 2000 < 500000) {a b c d : Nat} (ha : a ≤ 7) (hb : b ≤ a) (hc : c ≤ b) (hd : d ≤ c) : ∃ σ', MJ P tx n g kp lk 2 (wlR (wst (wpk a b c d))) Q r dy σ σ' ∧ aa_SX mX12_wall 100 [.ref 63, .int (nI a), .int (nI b), .int (nI c), .int (nI d)] σ (some (.int (nI (wv (wpk a b c d)).toNat))) σ' := by
  have h1 := h.thr (nI 0)
  have hs := wpk_lt ha (by omega : b ≤ 7) (by omega : c ≤ 7) (by omega : d ≤ 7)
  obtain ⟨h2, k2, hA⟩ := h1.ask (by omega) vL
  have ws28 : ∀ s, ws s ≤ 28 := ws_le
  generalize hw9 : wpk a b c d = s at hs ⊢
  obtain ⟨σ3, ⟨hF3, hK3⟩, hS3⟩ := m_winWall 28 s _ (ws28 s) hs h2.W k2
  have s3 : SQ (aa_sI (aa_sI σ 63 0 (nI 0)) 63 24 (nI (Q + 1))) σ3 := SQ.rf.A hF3
  have h3 := h2.sq s3 hK3.Q
  have F3 : MF σ σ3 := ((MF.rf.s (by decide) _ _).s (by decide) _ _).tr s3.F
  -- the end: 159
  have fin : ∀ (σ1 : aa_St) (x y : Int) (y9 y10 : Option Value), MI P tx n g kp lk tl rw (Q + 1) r dy σ1 → MF σ σ1 → -1 ≤ x → x ≤ 10 → -1 ≤ y → y ≤ 10 → wlR (wst s) = rw2 x y → aa_V mX12_wall 100 159 [some (.ref 63), some (.int (nI a)), some (.int (nI b)), some (.int (nI c)), some (.int (nI d)), some (.int (nI s)), some (.int (nI (wv s).toNat)), some (.int (iZ x)), some (.int (iZ y)), y9, y10] [] σ1 (fun ra σ' => ra = some (.int (nI (wv s).toNat)) ∧ MJ P tx n g kp lk 2 (wlR (wst s)) Q r dy σ σ') := by
    intro σ1 x y y9 y10 hI hF x1 x2 y1 y2 hr
    rw [hr]
    have a1 := hI.t1 x
    have a2 := hI.t2 x y
    refine aa_go (aa_aload0 iX12_wall_159) (aa_go (aa_iconst iX12_wall_160 ki_0) (aa_go (aa_putI iX12_wall_161 fl_X12_11 (fun h => nomatch h) (sh_63 hI.W) rfl ⟨rfl, rfl⟩) (aa_go (aa_aload0 iX12_wall_164) (aa_go (aa_iload7 iX12_wall_165) (aa_go (aa_i2l iX12_wall_167) ?_)))))
    refine aa_go (aa_topl (y := lZ x) (iZ_l (by omega) (by omega))) ?_
    refine aa_go (aa_cVv iX12_wall_168 (hI.e0 _) (by decide) lc_X12_enters lk_X12_163 (sh_63 hI.W) rfl rfl (Nat.le_of_ble_eq_true rfl)) ?_
    refine aa_go (aa_aload0 iX12_wall_171) (aa_go (aa_iload8 iX12_wall_172) (aa_go (aa_i2l iX12_wall_174) ?_))
    refine aa_go (aa_topl (y := lZ y) (iZ_l (by omega) (by omega))) ?_
    refine aa_go (aa_cVv iX12_wall_175 (hI.e1 _ _) (by decide) lc_X12_enters lk_X12_163 (sh_63 a1.W) rfl rfl (Nat.le_of_ble_eq_true rfl)) (aa_go (aa_iload6 iX12_wall_178) ?_)
    refine aa_iret iX12_wall_180 rfl ?_
    exact ⟨rfl, a2.J (by omega) (hF.t2 _ _)⟩
  -- a stone is found: from 147
  have found : ∀ (σ1 : aa_St) (i p : Nat), i < 4 → p ≤ 7 → MI P tx n g kp lk tl rw (Q + 1) r dy σ1 → MF σ σ1 → wst s = some (i, p) → aa_V mX12_wall 100 147 [some (.ref 63), some (.int (nI a)), some (.int (nI b)), some (.int (nI c)), some (.int (nI d)), some (.int (nI s)), some (.int (nI (wv s).toNat)), some (.int (nI i)), some (.int (nI p)), some (.int (nI i)), some (.int (nI p))] [] σ1 (fun ra σ' => ra = some (.int (nI (wv s).toNat)) ∧ MJ P tx n g kp lk 2 (wlR (wst s)) Q r dy σ σ') := by
    intro σ1 i p hi hp hI hF hst
    have wl := wr_le s i
    have fn : ∀ y9 y10, aa_V mX12_wall 100 159 [some (.ref 63), some (.int (nI a)), some (.int (nI b)), some (.int (nI c)), some (.int (nI d)), some (.int (nI s)), some (.int (nI (wv s).toNat)), some (.int (nI i)), some (.int (nI p)), y9, y10] [] σ1 (fun ra σ' => ra = some (.int (nI (wv s).toNat)) ∧ MJ P tx n g kp lk 2 (wlR (wst s)) Q r dy σ σ') := fun y9 y10 => fin σ1 i p y9 y10 hI hF (by omega) (by omega) (by omega) (by omega) (by rw [hst, wlR_s])
    have nx : aa_V mX12_wall 100 153 [some (.ref 63), some (.int (nI a)), some (.int (nI b)), some (.int (nI c)), some (.int (nI d)), some (.int (nI s)), some (.int (nI (wv s).toNat)), some (.int (nI i)), some (.int (nI p)), some (.int (nI i)), some (.int (nI (p + 1)))] [] σ1 (fun ra σ' => ra = some (.int (nI (wv s).toNat)) ∧ MJ P tx n g kp lk 2 (wlR (wst s)) Q r dy σ σ') := by
      refine aa_go (aa_iincN9 (k := 1) iX12_wall_153 rfl (by decide)) (aa_go (aa_goto iX12_wall_156) (aa_go (aa_iload9 iX12_wall_92) (aa_go (aa_iconst iX12_wall_94 ki_4) ?_)))
      refine aa_ic_geN iX12_wall_95 (by omega) (by omega) (fun g1 => ?_) (fun g1 => ?_)
      · skip
        exact fn _ _
      · skip
        refine aa_go (aa_iload7 iX12_wall_98) ?_
        refine aa_go (aa_if_geN iX12_wall_100 (by omega)) ?_
        exact fn _ _
    refine aa_go (aa_iincN10 (k := 1) iX12_wall_147 rfl (by decide)) (aa_go (aa_goto iX12_wall_150) (aa_go (aa_iload10 iX12_wall_106) (aa_go (aa_iload5 iX12_wall_108) (aa_go (aa_iload9 iX12_wall_110) (aa_go (aa_cSi iX12_wall_112 (m_rowOf hs hi) (by decide) lc_X12_rowOf lk_X12_251 rfl (Nat.le_of_ble_eq_true rfl)) ?_)))))
    refine aa_ic_geN iX12_wall_115 (by omega) (by omega) (fun g1 => ?_) (fun g1 => ?_)
    · skip
      exact nx
    · skip
      refine aa_go (aa_iload7 iX12_wall_118) ?_
      refine aa_go (aa_if_geN iX12_wall_120 (by omega)) ?_
      exact nx
  have outer : ∀ f i (σ1 : aa_St) y10, 4 - i < f → i ≤ 4 → FrA [74, 75] σ3 σ1 → MMK (Q + 1) vL σ1.1 → (wp s i 0).find? (fun x => !wv (cut s x.1 x.2)) = none → aa_V mX12_wall 100 92 [some (.ref 63), some (.int (nI a)), some (.int (nI b)), some (.int (nI c)), some (.int (nI d)), some (.int (nI s)), some (.int (nI (wv s).toNat)), some (.int (-1)), some (.int (-1)), some (.int (nI i)), y10] [] σ1 (fun ra σ' => ra = some (.int (nI (wv s).toNat)) ∧ MJ P tx n g kp lk 2 (wlR (wst s)) Q r dy σ σ') := by
    intro f
    induction f with
    | zero => intro i σ1 y10 g1; omega
    | succ f ihf =>
      intro i σ1 y10 g1 g2 hF hK hno
      have sI : SQ σ3 σ1 := SQ.rf.A hF
      have hI := h3.sq sI hK.Q
      have hFF := F3.tr sI.F
      refine aa_go (aa_iload9 iX12_wall_92) (aa_go (aa_iconst iX12_wall_94 ki_4) ?_)
      refine aa_ic_geN iX12_wall_95 (by omega) (by omega) (fun g3 => ?_) (fun g3 => ?_)
      · skip
        have e : i = 4 := by omega
        subst e
        refine fin σ1 (-1) (-1) _ _ hI hFF (by omega) (by omega) (by omega) (by omega) ?_
        have : wst s = none := hno
        rw [this]; rfl
      · skip
        refine aa_go (aa_iload7 iX12_wall_98) ?_
        refine aa_if_ge iX12_wall_100 (fun g4 => ?_) (fun g4 => ?_)
        · skip
          exact absurd g4 (by decide)
        · skip
          have wl := wr_le s i
          have inner : ∀ f2 p (σ2 : aa_St), wr s i - p < f2 → p ≤ wr s i → FrA [74, 75] σ3 σ2 → MMK (Q + 1) vL σ2.1 → (wp s i p).find? (fun x => !wv (cut s x.1 x.2)) = none → aa_V mX12_wall 100 106 [some (.ref 63), some (.int (nI a)), some (.int (nI b)), some (.int (nI c)), some (.int (nI d)), some (.int (nI s)), some (.int (nI (wv s).toNat)), some (.int (-1)), some (.int (-1)), some (.int (nI i)), some (.int (nI p))] [] σ2 (fun ra σ' => ra = some (.int (nI (wv s).toNat)) ∧ MJ P tx n g kp lk 2 (wlR (wst s)) Q r dy σ σ') := by
            intro f2
            induction f2 with
            | zero => intro p σ2 g1; omega
            | succ f2 ih2 =>
              intro p σ2 q1 q2 hF2 hK2 hno2
              have sI2 : SQ σ3 σ2 := SQ.rf.A hF2
              have hI2 := h3.sq sI2 hK2.Q
              refine aa_go (aa_iload10 iX12_wall_106) (aa_go (aa_iload5 iX12_wall_108) (aa_go (aa_iload9 iX12_wall_110) (aa_go (aa_cSi iX12_wall_112 (m_rowOf hs g3) (by decide) lc_X12_rowOf lk_X12_251 rfl (Nat.le_of_ble_eq_true rfl)) ?_)))
              refine aa_ic_geN iX12_wall_115 (by omega) (by omega) (fun g5 => ?_) (fun g5 => ?_)
              · skip
                have e : p = wr s i := by omega
                subst e
                refine aa_go (aa_iincN9 (k := 1) iX12_wall_153 rfl (by decide)) (aa_go (aa_goto iX12_wall_156) ?_)
                exact ihf (i + 1) σ2 _ (by omega) (by omega) hF2 hK2 (by rw [wp_i]; exact hno2)
              · skip
                refine aa_go (aa_iload7 iX12_wall_118) ?_
                refine aa_if_ge iX12_wall_120 (fun g6 => ?_) (fun g6 => ?_)
                · skip
                  exact absurd g6 (by decide)
                · skip
                  have cl := cut_lt s i p
                  obtain ⟨σ4, ⟨hF4, hK4⟩, hS4⟩ := m_winWall 28 (cut s i p) σ2 (ws28 _) cl hI2.W hK2
                  have sI4 : SQ σ3 σ4 := sI2.A hF4
                  have hI4 := h3.sq sI4 hK4.Q
                  have nf : (wp s i (p + 1)).find? (fun x => !wv (cut s x.1 x.2)) = if wv (cut s i p) then none else some (i, p) := by
                    rw [wp_c, List.find?_append, hno2]
                    cases q9 : wv (cut s i p) with
                    | true => simp [q9]
                    | false => simp [q9]
                  refine aa_go (aa_aload0 iX12_wall_123) (aa_go (aa_iload5 iX12_wall_124) (aa_go (aa_iload9 iX12_wall_126) (aa_go (aa_iload10 iX12_wall_128) (aa_go (aa_cSi iX12_wall_130 (m_bites hs g3 (by omega)) (by decide) lc_X12_bites lk_X12_254 rfl (Nat.le_of_ble_eq_true rfl)) (aa_go (aa_cVi iX12_wall_133 (hS4) (by decide) lc_X12_winWall lk_X12_257 (sh_63 hI2.W) rfl rfl (Nat.le_of_ble_eq_true rfl)) ?_)))))
                  refine aa_if_neB iX12_wall_136 (fun g7 => ?_) (fun g7 => ?_)
                  · skip
                    rw [g7] at nf
                    refine aa_go (aa_iincN10 (k := 1) iX12_wall_147 rfl (by decide)) (aa_go (aa_goto iX12_wall_150) ?_)
                    exact ih2 (p + 1) σ4 (by omega) (by omega) (hF2.tr hF4) hK4 nf
                  · skip
                    rw [g7, if_neg (by decide)] at nf
                    have hst : wst s = some (i, p) := wp_all g3 (by omega) nf
                    refine aa_go (aa_iload9 iX12_wall_139) (aa_go (aa_istore7 iX12_wall_141 rfl (by decide)) (aa_go (aa_iload10 iX12_wall_143) (aa_go (aa_istore8 iX12_wall_145 rfl (by decide)) ?_)))
                    exact found σ4 i p g3 (by omega) hI4 (F3.tr sI4.F) hst
          refine aa_go (aa_iconst iX12_wall_103 ki_0) (aa_go (aa_istore10 iX12_wall_104 rfl (by decide)) ?_)
          exact inner (wr s i + 1) 0 σ1 (by omega) (by omega) hF hK hno
  have key : aa_V mX12_wall 100 0 [some (.ref 63), some (.int (nI a)), some (.int (nI b)), some (.int (nI c)), some (.int (nI d)), none, none, none, none, none, none] [] σ (fun ra σ' => ra = some (.int (nI (wv s).toNat)) ∧ MJ P tx n g kp lk 2 (wlR (wst s)) Q r dy σ σ') := by
    refine aa_go (aa_aload0 iX12_wall_0) (aa_go (aa_iconst iX12_wall_1 ki_0) (aa_go (aa_putI iX12_wall_2 fl_X12_3 (fun h => nomatch h) (sh_63 h.W) rfl ⟨rfl, rfl⟩) ?_))
    refine aa_go (aa_iload1 iX12_wall_5) (aa_go (aa_i2lN iX12_wall_6 (by omega)) (aa_go (aa_lconst iX12_wall_7 kl_0) (aa_go (aa_ldc2 iX12_wall_8 ld_X12_260) (aa_go (aa_cSi iX12_wall_11 (m_inN (hi := 7) (by omega) (by omega)) (by decide) lc_X12_in lk_X12_21 rfl (Nat.le_of_ble_eq_true rfl)) ?_))))
    refine aa_if_eqB iX12_wall_14 (fun g1 => ?_) (fun g1 => ?_)
    · skip
      exact absurd ha (of_decide_eq_false g1)
    · skip
      refine aa_go (aa_iload2 iX12_wall_17) (aa_go (aa_i2lN iX12_wall_18 (by omega)) (aa_go (aa_lconst iX12_wall_19 kl_0) (aa_go (aa_iload1 iX12_wall_20) (aa_go (aa_i2lN iX12_wall_21 (by omega)) (aa_go (aa_cSi iX12_wall_22 (m_inN (by omega) (by omega)) (by decide) lc_X12_in lk_X12_21 rfl (Nat.le_of_ble_eq_true rfl)) ?_)))))
      refine aa_if_eqB iX12_wall_25 (fun g2 => ?_) (fun g2 => ?_)
      · skip
        exact absurd hb (of_decide_eq_false g2)
      · skip
        refine aa_go (aa_iload3 iX12_wall_28) (aa_go (aa_i2lN iX12_wall_29 (by omega)) (aa_go (aa_lconst iX12_wall_30 kl_0) (aa_go (aa_iload2 iX12_wall_31) (aa_go (aa_i2lN iX12_wall_32 (by omega)) (aa_go (aa_cSi iX12_wall_33 (m_inN (by omega) (by omega)) (by decide) lc_X12_in lk_X12_21 rfl (Nat.le_of_ble_eq_true rfl)) ?_)))))
        refine aa_if_eqB iX12_wall_36 (fun g3 => ?_) (fun g3 => ?_)
        · skip
          exact absurd hc (of_decide_eq_false g3)
        · skip
          refine aa_go (aa_iload4 iX12_wall_39) (aa_go (aa_i2lN iX12_wall_41 (by omega)) (aa_go (aa_lconst iX12_wall_42 kl_0) (aa_go (aa_iload3 iX12_wall_43) (aa_go (aa_i2lN iX12_wall_44 (by omega)) (aa_go (aa_cSi iX12_wall_45 (m_inN (by omega) (by omega)) (by decide) lc_X12_in lk_X12_21 rfl (Nat.le_of_ble_eq_true rfl)) ?_)))))
          refine aa_if_neB iX12_wall_48 (fun g4 => ?_) (fun g4 => ?_)
          · skip
            refine aa_go (aa_iload1 iX12_wall_53) (aa_go (aa_iload2 iX12_wall_54) (aa_go (aa_iconst iX12_wall_55 ki_3) (aa_go (aa_ishlN iX12_wall_56 (by omega)) (aa_go (aa_iorN iX12_wall_57 ) (aa_go (aa_iload3 iX12_wall_58) (aa_go (aa_bipush iX12_wall_59 kb_6) (aa_go (aa_ishlN iX12_wall_61 (by omega)) ?_)))))))
            refine aa_go (aa_iorN iX12_wall_62 ) (aa_go (aa_iload4 iX12_wall_63) (aa_go (aa_bipush iX12_wall_65 kb_9) (aa_go (aa_ishlN iX12_wall_67 (by omega)) (aa_go (aa_iorN iX12_wall_68 ) ?_))))
            refine aa_go (aa_top (y := nI s) (by rw [← hw9]; rfl)) ?_
            refine aa_go (aa_istore5 iX12_wall_69 rfl (by decide)) (aa_go (aa_aload0 iX12_wall_71) (aa_go (aa_cVv iX12_wall_72 (hA) (by decide) lc_X12_asks lk_X12_189 (sh_63 h1.W) rfl rfl (Nat.le_of_ble_eq_true rfl)) ?_))
            refine aa_go (aa_aload0 iX12_wall_75) (aa_go (aa_iload5 iX12_wall_76) (aa_go (aa_cVi iX12_wall_78 (hS3) (by decide) lc_X12_winWall lk_X12_257 (sh_63 h2.W) rfl rfl (Nat.le_of_ble_eq_true rfl)) ?_))
            refine aa_go (aa_istore6 iX12_wall_81 rfl (by decide)) (aa_go (aa_iconst iX12_wall_83 ki_m1) (aa_go (aa_istore7 iX12_wall_84 rfl (by decide)) (aa_go (aa_iconst iX12_wall_86 ki_m1) (aa_go (aa_istore8 iX12_wall_87 rfl (by decide)) (aa_go (aa_iconst iX12_wall_89 ki_0) (aa_go (aa_istore9 iX12_wall_90 rfl (by decide)) ?_))))))
            exact outer 5 0 σ3 _ (by omega) (by omega) FrA.rf hK3 rfl
          · skip
            exact absurd hd (of_decide_eq_false g4)
  obtain ⟨ra, σ', ⟨rfl, h9⟩, hS9⟩ := aa_S_of (avs := [.ref 63, .int (nI a), .int (nI b), .int (nI c), .int (nI d)]) (by decide) 6 [some (.ref 63), some (.int (nI a)), some (.int (nI b)), some (.int (nI c)), some (.int (nI d)), none, none, none, none, none, none] rfl rfl key
  exact ⟨σ', h9, hS9⟩
theorem m_inJ (x y : Int32) : aa_SX mX12_in 1 [.long x.toInt64, .long (lN 0), .long y.toInt64] σ (some (.int (nI (decide (0 ≤ x.toInt ∧ x.toInt ≤ y.toInt)).toNat))) σ := by
  have b1 := Int32.toInt_lt x
  have b2 := Int32.le_toInt x
  have b3 := Int32.toInt_lt y
  have b4 := Int32.le_toInt y
  have := m_in (σ := σ) (v := x.toInt) (lo := 0) (hi := y.toInt) (by omega) (by omega) (by omega)
  rw [i2lZ, i2lZ]; exact this
theorem q_wallB (h : MI P tx n g kp lk tl rw Q r dy σ) {a b c d : Int32} (hB : ¬ (0 ≤ a ∧ a ≤ nI 7 ∧ 0 ≤ b ∧ b ≤ a ∧ 0 ≤ c ∧ c ≤ b ∧ 0 ≤ d ∧ d ≤ c)) : ∃ σ', MJ P tx n g kp lk tl rw Q r dy σ σ' ∧ aa_SX mX12_wall 100 [.ref 63, .int a, .int b, .int c, .int d] σ (some (.int (-1))) σ' := by
  have h1 := h.thr (nI 0)
  refine ⟨_, h.JB, ?_⟩
  have e7 : (nI 7).toInt64 = lN 7 := by decide
  have e7' : (nI 7).toInt = 7 := by decide
  have i7 := m_inJ (σ := aa_sI σ 63 0 (nI 0)) a (nI 7)
  rw [e7] at i7
  simp only [Int32.le_iff_toInt_le, Int32.toInt_zero, e7'] at hB i7
  refine aa_E_of (by decide) 6 [some (.ref 63), some (.int (a)), some (.int (b)), some (.int (c)), some (.int (d)), none, none, none, none, none, none] rfl rfl ?_
  refine aa_go (aa_aload0 iX12_wall_0) (aa_go (aa_iconst iX12_wall_1 ki_0) (aa_go (aa_putI iX12_wall_2 fl_X12_3 (fun h => nomatch h) (sh_63 h.W) rfl ⟨rfl, rfl⟩) ?_))
  refine aa_go (aa_iload1 iX12_wall_5) (aa_go (aa_i2l iX12_wall_6) (aa_go (aa_lconst iX12_wall_7 kl_0) (aa_go (aa_ldc2 iX12_wall_8 ld_X12_260) (aa_go (aa_cSi iX12_wall_11 (i7) (by decide) lc_X12_in lk_X12_21 rfl (Nat.le_of_ble_eq_true rfl)) ?_))))
  refine aa_if_eqB iX12_wall_14 (fun g1 => ?_) (fun g1 => ?_)
  · skip
    refine aa_go (aa_iconst iX12_wall_51 ki_m1) ?_
    refine aa_iret iX12_wall_52 rfl ?_
    exact ⟨rfl, rfl⟩
  · skip
    refine aa_go (aa_iload2 iX12_wall_17) (aa_go (aa_i2l iX12_wall_18) (aa_go (aa_lconst iX12_wall_19 kl_0) (aa_go (aa_iload1 iX12_wall_20) (aa_go (aa_i2l iX12_wall_21) (aa_go (aa_cSi iX12_wall_22 (m_inJ b a) (by decide) lc_X12_in lk_X12_21 rfl (Nat.le_of_ble_eq_true rfl)) ?_)))))
    refine aa_if_eqB iX12_wall_25 (fun g2 => ?_) (fun g2 => ?_)
    · skip
      refine aa_go (aa_iconst iX12_wall_51 ki_m1) ?_
      refine aa_iret iX12_wall_52 rfl ?_
      exact ⟨rfl, rfl⟩
    · skip
      refine aa_go (aa_iload3 iX12_wall_28) (aa_go (aa_i2l iX12_wall_29) (aa_go (aa_lconst iX12_wall_30 kl_0) (aa_go (aa_iload2 iX12_wall_31) (aa_go (aa_i2l iX12_wall_32) (aa_go (aa_cSi iX12_wall_33 (m_inJ c b) (by decide) lc_X12_in lk_X12_21 rfl (Nat.le_of_ble_eq_true rfl)) ?_)))))
      refine aa_if_eqB iX12_wall_36 (fun g3 => ?_) (fun g3 => ?_)
      · skip
        refine aa_go (aa_iconst iX12_wall_51 ki_m1) ?_
        refine aa_iret iX12_wall_52 rfl ?_
        exact ⟨rfl, rfl⟩
      · skip
        refine aa_go (aa_iload4 iX12_wall_39) (aa_go (aa_i2l iX12_wall_41) (aa_go (aa_lconst iX12_wall_42 kl_0) (aa_go (aa_iload3 iX12_wall_43) (aa_go (aa_i2l iX12_wall_44) (aa_go (aa_cSi iX12_wall_45 (m_inJ d c) (by decide) lc_X12_in lk_X12_21 rfl (Nat.le_of_ble_eq_true rfl)) ?_)))))
        refine aa_if_neB iX12_wall_48 (fun g4 => ?_) (fun g4 => ?_)
        · skip
          have g1 := of_decide_eq_true g1
          have g2 := of_decide_eq_true g2
          have g3 := of_decide_eq_true g3
          have g4 := of_decide_eq_true g4
          exact absurd ⟨g1.1, g1.2, g2.1, g2.2, g3.1, g3.2, g4.1, g4.2⟩ hB
        · skip
          refine aa_go (aa_iconst iX12_wall_51 ki_m1) ?_
          refine aa_iret iX12_wall_52 rfl ?_
          exact ⟨rfl, rfl⟩
end
