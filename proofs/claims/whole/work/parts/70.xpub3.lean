/-! PUBLIC METHODS, third part: walls, fractions, parrots, changes -/
theorem oS_some (i c : Nat) : oS (some (i, c)) = nI (i * 7 + c) := rfl
def wpk (a b c d : Nat) : Nat := a ||| b <<< 3 ||| c <<< 6 ||| d <<< 9
theorem wpk_lt {a b c d : Nat} (ha : a ≤ 7) (hb : b ≤ 7) (hc : c ≤ 7) (hd : d ≤ 7) : wpk a b c d < 4096 :=
  bb_or (k := 12) (bb_or (bb_or (Nat.lt_of_le_of_lt ha (by decide)) (shl_lt (wc := 3) (by omega) (by omega))) (shl_lt (wc := 3) (by omega) (by omega))) (shl_lt (wc := 3) (by omega) (by omega))
def wlR (o : Option (Nat × Nat)) : Nat → Int := match o with
  | none => rw2 (-1) (-1)
  | some x => rw2 x.1 x.2
def gcN (a b : Nat) : Nat := max 1 (Nat.gcd a b)
theorem gc_step {x y : Nat} (hy : 0 < y) (hr : 0 < x % y) : 2 * (y % (x % y)) < y := by
  have h1 : x % y < y := Nat.mod_lt _ hy
  have h2 : y % (x % y) < x % y := Nat.mod_lt _ hr
  have h3 := Nat.div_add_mod y (x % y)
  have h4 : 1 ≤ y / (x % y) := (Nat.one_le_div_iff hr).mpr (by omega)
  have h5 : x % y ≤ x % y * (y / (x % y)) := Nat.le_mul_of_pos_right _ h4
  omega
theorem lZ_abs {z : Int} (h1 : -4611686018427387904 ≤ z) (h2 : z ≤ 4611686018427387904) : (if 0 < lZ z then lZ z else - lZ z) = lN z.natAbs := by
  have e : (0 < lZ z) = (0 < z) := by rw [Int64.lt_iff_toInt_lt, lZ, Int64.toInt_ofInt_of_le (by omega) (by omega)]; rfl
  by_cases c : 0 < z
  · rw [if_pos (by rw [e]; exact c), lZ_N, Int.natAbs_of_nonneg (by omega)]
  · rw [if_neg (by rw [e]; exact c), lZ_neg, lZ_N]
    congr 1; omega
section
variable {v W S R : Nat} {r : Nat → Nat} {dy : List aa_Shp} {σ : aa_St} {P : pl_T} {tx : Nat → Nat} {n : Nat} {g : gm_T} {kp : Nat → Option gm_T} {lk tl : Nat} {rw : Nat → Int} {N : Nat}
theorem p_wall (h : XIv P tx n g kp lk tl rw N v W S R r dy σ) {a b c d : Nat} (ha : a ≤ 7) (hb : b ≤ a) (hc : c ≤ b) (hd : d ≤ c) : ∃ r' dy' σ', (XI P tx n g kp lk 2 (wlR (wst (wpk a b c d))) N r' dy' σ' ∧ CF r σ r' σ') ∧ aa_SX mX11_wall 100 [.ref 0, .int (nI a), .int (nI b), .int (nI c), .int (nI d)] σ (some (.int (nI (wv (wpk a b c d)).toNat))) σ' := by
  have hs := wpk_lt ha (by omega : b ≤ 7) (by omega : c ≤ 7) (by omega : d ≤ 7)
  obtain ⟨r1, dy1, σ1, ⟨hG1, hR1⟩, hS1⟩ := c_X8_winningStone (v := v) h.1 h.M.2.2.2.1 hs
  obtain ⟨h1, f1⟩ := h.M3 hG1 (fun _ => hR1)
  have fin : ∀ (σ2 : aa_St) y6, XIv P tx n g kp lk 2 (wlR (wst (wpk a b c d))) N v W S R r1 dy1 σ2 → CF r1 σ1 r1 σ2 → aa_V mX11_wall 100 97 [some (.ref 0), some (.int (nI a)), some (.int (nI b)), some (.int (nI c)), some (.int (nI d)), some (.int (nI (wpk a b c d))), y6] [] σ2 (fun ra σ' => ra = some (.int (nI (wv (wpk a b c d)).toNat)) ∧ ∃ r' dy', XI P tx n g kp lk 2 (wlR (wst (wpk a b c d))) N r' dy' σ' ∧ CF r σ r' σ') := by
    intro σ2 y6 h2 f2
    obtain ⟨r3, dy3, σ3, ⟨hG3, hR3⟩, hS3⟩ := c_X8_victoryG (v := v) h2.1 h2.M.2.2.2.1 hs
    obtain ⟨h3, f3⟩ := h2.M3 hG3 (fun _ => hR3)
    refine aa_go (aa_aload0 iX11_wall_97) (aa_go (aa_getR iX11_wall_98 fl_X11_57 (sh_0 h2.1) rfl) (aa_go (aa_iload5 iX11_wall_101) (aa_go (aa_cVi iX11_wall_103 (hS3) (by decide) lc_X8_victory lk_X11_305 (sh_36 h2.1) rfl rfl (Nat.le_of_ble_eq_true rfl)) ?_)))
    refine aa_if_eqB iX11_wall_106 (fun g1 => ?_) (fun g1 => ?_)
    · skip
      refine aa_go (aa_iconst iX11_wall_113 ki_0) ?_
      refine aa_iret iX11_wall_114 rfl ?_
      exact ⟨by rw [g1]; rfl, r3, dy3, h3.to, (f1.tr f2).tr f3⟩
    · skip
      refine aa_go (aa_iconst iX11_wall_109 ki_1) (aa_go (aa_goto iX11_wall_110) ?_)
      refine aa_iret iX11_wall_114 rfl ?_
      exact ⟨by rw [g1]; rfl, r3, dy3, h3.to, (f1.tr f2).tr f3⟩
  have tail : aa_V mX11_wall 100 60 [some (.ref 0), some (.int (nI a)), some (.int (nI b)), some (.int (nI c)), some (.int (nI d)), some (.int (nI (wpk a b c d))), none] [.int (oS (wst (wpk a b c d)))] σ1 (fun ra σ' => ra = some (.int (nI (wv (wpk a b c d)).toNat)) ∧ ∃ r' dy', XI P tx n g kp lk 2 (wlR (wst (wpk a b c d))) N r' dy' σ' ∧ CF r σ r' σ') := by
    cases q : wst (wpk a b c d) with
    | none =>
      rw [q] at fin
      obtain ⟨h2, f2⟩ := h1.tell2 (-1) (-1)
      show aa_V mX11_wall 100 60 _ [.int (-1)] σ1 _
      refine aa_go (aa_istore6 iX11_wall_60 rfl (by decide)) (aa_go (aa_iload6 iX11_wall_62) (aa_go (aa_iconst iX11_wall_64 ki_m1) ?_))
      refine aa_ic_ne iX11_wall_65 (fun g1 => ?_) (fun g1 => ?_)
      · skip
        exact absurd rfl g1
      · skip
        refine aa_go (aa_aload0 iX11_wall_68) (aa_go (aa_ldc2 iX11_wall_69 ld_X11_303) (aa_go (aa_ldc2 iX11_wall_72 ld_X11_303) (aa_go (aa_cVv iX11_wall_75 (c_tell2 h1.1 _ _) (by decide) lc_X11_tell_ lk_X11_207 (sh_0 h1.1) rfl rfl (Nat.le_of_ble_eq_true rfl)) (aa_go (aa_goto iX11_wall_78) ?_))))
        exact fin _ _ h2 f2
    | some x =>
      obtain ⟨i, c'⟩ := x
      have wo := wst_ok _ _ q
      dsimp only at wo
      have wo2 : c' < 7 := by
        have := wml_mem (List.mem_of_find?_eq_some q)
        have h2 := wr_le (wpk a b c d) i
        dsimp only at this
        omega
      rw [q] at fin
      obtain ⟨h2, f2⟩ := h1.tell2 i c'
      rw [oS_some]
      refine aa_go (aa_istore6 iX11_wall_60 rfl (by decide)) (aa_go (aa_iload6 iX11_wall_62) (aa_go (aa_iconst iX11_wall_64 ki_m1) ?_))
      refine aa_ic_ne iX11_wall_65 (fun g1 => ?_) (fun g1 => ?_)
      · skip
        refine aa_go (aa_aload0 iX11_wall_81) (aa_go (aa_iload6 iX11_wall_82) (aa_go (aa_bipush iX11_wall_84 kb_7) (aa_go (aa_idivN iX11_wall_86 (by omega) (by omega) (by omega)) ?_)))
        refine aa_go (aa_top (y := nI i) (by rw [show (i * 7 + c') / 7 = i by omega])) ?_
        refine aa_go (aa_i2lN iX11_wall_87 (by omega)) (aa_go (aa_iload6 iX11_wall_88) (aa_go (aa_bipush iX11_wall_90 kb_7) (aa_go (aa_iremN iX11_wall_92 (by omega) (by omega) (by omega)) ?_)))
        refine aa_go (aa_top (y := nI c') (by rw [show (i * 7 + c') % 7 = c' by omega])) ?_
        refine aa_go (aa_i2lN iX11_wall_93 (by omega)) (aa_go (aa_cVv iX11_wall_94 (c_tell2 h1.1 _ _) (by decide) lc_X11_tell_ lk_X11_207 (sh_0 h1.1) rfl rfl (Nat.le_of_ble_eq_true rfl)) ?_)
        exact fin _ _ h2 f2
      · skip
        exact absurd g1 (nI_m1ne (by omega))
  have key : aa_V mX11_wall 100 0 [some (.ref 0), some (.int (nI a)), some (.int (nI b)), some (.int (nI c)), some (.int (nI d)), none, none] [] σ (fun ra σ' => ra = some (.int (nI (wv (wpk a b c d)).toNat)) ∧ ∃ r' dy', XI P tx n g kp lk 2 (wlR (wst (wpk a b c d))) N r' dy' σ' ∧ CF r σ r' σ') := by
    refine aa_go (aa_iload1 iX11_wall_0) ?_
    refine aa_go (aa_if_ltN iX11_wall_1 (by omega)) ?_
    refine aa_go (aa_iload1 iX11_wall_4) (aa_go (aa_bipush iX11_wall_5 kb_7) ?_)
    refine aa_ic_gtN iX11_wall_7 (by omega) (by omega) (fun g1 => ?_) (fun g1 => ?_)
    · skip
      omega
    · skip
      refine aa_go (aa_iload2 iX11_wall_10) ?_
      refine aa_go (aa_if_ltN iX11_wall_11 (by omega)) ?_
      refine aa_go (aa_iload2 iX11_wall_14) (aa_go (aa_iload1 iX11_wall_15) ?_)
      refine aa_ic_gtN iX11_wall_16 (by omega) (by omega) (fun g2 => ?_) (fun g2 => ?_)
      · skip
        omega
      · skip
        refine aa_go (aa_iload3 iX11_wall_19) ?_
        refine aa_go (aa_if_ltN iX11_wall_20 (by omega)) ?_
        refine aa_go (aa_iload3 iX11_wall_23) (aa_go (aa_iload2 iX11_wall_24) ?_)
        refine aa_ic_gtN iX11_wall_25 (by omega) (by omega) (fun g3 => ?_) (fun g3 => ?_)
        · skip
          omega
        · skip
          refine aa_go (aa_iload4 iX11_wall_28) ?_
          refine aa_go (aa_if_ltN iX11_wall_30 (by omega)) ?_
          refine aa_go (aa_iload4 iX11_wall_33) (aa_go (aa_iload3 iX11_wall_35) ?_)
          refine aa_ic_leN iX11_wall_36 (by omega) (by omega) (fun g4 => ?_) (fun g4 => ?_)
          · skip
            refine aa_go (aa_iload1 iX11_wall_41) (aa_go (aa_iload2 iX11_wall_42) (aa_go (aa_iload3 iX11_wall_43) (aa_go (aa_iload4 iX11_wall_44) (aa_go (aa_cSi iX11_wall_46 (c_X8_packed) (by decide) lc_X8_packed lk_X11_296 rfl (Nat.le_of_ble_eq_true rfl)) (aa_go (aa_istore5 iX11_wall_49 rfl (by decide)) (aa_go (aa_aload0 iX11_wall_51) (aa_go (aa_getR iX11_wall_52 fl_X11_57 (sh_0 h.1) rfl) ?_)))))))
            refine aa_go (aa_iload5 iX11_wall_55) (aa_go (aa_cVi iX11_wall_57 (hS1) (by decide) lc_X8_winningStone lk_X11_300 (sh_36 h.1) rfl rfl (Nat.le_of_ble_eq_true rfl)) ?_)
            exact tail
          · skip
            omega
  obtain ⟨ra, σ', ⟨rfl, r', dy', h1⟩, hS9⟩ := aa_S_of (avs := [.ref 0, .int (nI a), .int (nI b), .int (nI c), .int (nI d)]) (by decide) 2 [some (.ref 0), some (.int (nI a)), some (.int (nI b)), some (.int (nI c)), some (.int (nI d)), none, none] rfl rfl key
  exact ⟨r', dy', σ', h1, hS9⟩
theorem p_wallB (hW : aa_W r dy σ) {a b c d : Int32} (hB : ¬ (0 ≤ a ∧ a ≤ nI 7 ∧ 0 ≤ b ∧ b ≤ a ∧ 0 ≤ c ∧ c ≤ b ∧ 0 ≤ d ∧ d ≤ c)) : aa_SX mX11_wall 100 [.ref 0, .int a, .int b, .int c, .int d] σ (some (.int (-1))) σ := by
  refine aa_E_of (by decide) 2 [some (.ref 0), some (.int (a)), some (.int (b)), some (.int (c)), some (.int (d)), none, none] rfl rfl ?_
  refine aa_go (aa_iload1 iX11_wall_0) ?_
  refine aa_if_lt iX11_wall_1 (fun g1 => ?_) (fun g1 => ?_)
  · skip
    refine aa_go (aa_iconst iX11_wall_39 ki_m1) ?_
    refine aa_iret iX11_wall_40 rfl ?_
    exact ⟨rfl, rfl⟩
  · skip
    refine aa_go (aa_iload1 iX11_wall_4) (aa_go (aa_bipush iX11_wall_5 kb_7) ?_)
    refine aa_ic_gt iX11_wall_7 (fun g2 => ?_) (fun g2 => ?_)
    · skip
      refine aa_go (aa_iconst iX11_wall_39 ki_m1) ?_
      refine aa_iret iX11_wall_40 rfl ?_
      exact ⟨rfl, rfl⟩
    · skip
      refine aa_go (aa_iload2 iX11_wall_10) ?_
      refine aa_if_lt iX11_wall_11 (fun g3 => ?_) (fun g3 => ?_)
      · skip
        refine aa_go (aa_iconst iX11_wall_39 ki_m1) ?_
        refine aa_iret iX11_wall_40 rfl ?_
        exact ⟨rfl, rfl⟩
      · skip
        refine aa_go (aa_iload2 iX11_wall_14) (aa_go (aa_iload1 iX11_wall_15) ?_)
        refine aa_ic_gt iX11_wall_16 (fun g4 => ?_) (fun g4 => ?_)
        · skip
          refine aa_go (aa_iconst iX11_wall_39 ki_m1) ?_
          refine aa_iret iX11_wall_40 rfl ?_
          exact ⟨rfl, rfl⟩
        · skip
          refine aa_go (aa_iload3 iX11_wall_19) ?_
          refine aa_if_lt iX11_wall_20 (fun g5 => ?_) (fun g5 => ?_)
          · skip
            refine aa_go (aa_iconst iX11_wall_39 ki_m1) ?_
            refine aa_iret iX11_wall_40 rfl ?_
            exact ⟨rfl, rfl⟩
          · skip
            refine aa_go (aa_iload3 iX11_wall_23) (aa_go (aa_iload2 iX11_wall_24) ?_)
            refine aa_ic_gt iX11_wall_25 (fun g6 => ?_) (fun g6 => ?_)
            · skip
              refine aa_go (aa_iconst iX11_wall_39 ki_m1) ?_
              refine aa_iret iX11_wall_40 rfl ?_
              exact ⟨rfl, rfl⟩
            · skip
              refine aa_go (aa_iload4 iX11_wall_28) ?_
              refine aa_if_lt iX11_wall_30 (fun g7 => ?_) (fun g7 => ?_)
              · skip
                refine aa_go (aa_iconst iX11_wall_39 ki_m1) ?_
                refine aa_iret iX11_wall_40 rfl ?_
                exact ⟨rfl, rfl⟩
              · skip
                refine aa_go (aa_iload4 iX11_wall_33) (aa_go (aa_iload3 iX11_wall_35) ?_)
                refine aa_ic_le iX11_wall_36 (fun g8 => ?_) (fun g8 => ?_)
                · skip
                  exact absurd ⟨Int32.not_lt.mp g1, Int32.not_lt.mp g2, Int32.not_lt.mp g3, Int32.not_lt.mp g4, Int32.not_lt.mp g5, Int32.not_lt.mp g6, Int32.not_lt.mp g7, g8⟩ hB
                · skip
                  refine aa_go (aa_iconst iX11_wall_39 ki_m1) ?_
                  refine aa_iret iX11_wall_40 rfl ?_
                  exact ⟨rfl, rfl⟩
theorem c_gcd {a b : Nat} (ha : a < 9223372036854775808) (hb : b < 9223372036854775808) : aa_SX mX11_commonDivisor 2 [.long (lN a), .long (lN b)] σ (some (.long (lN (gcN a b)))) σ := by
  have fin : ∀ x y z k, x < 9223372036854775808 → Nat.gcd a b = x → aa_V mX11_commonDivisor 2 45 [some (.long (lN a)), none, some (.long (lN b)), none, some (.long (lN x)), none, some (.long (lN y)), none, some (.int (nI k)), z, none] [] σ (fun ra σ' => ra = some (.long (lN (gcN a b))) ∧ σ' = σ) := by
    intro x y z k hx e
    refine aa_go (aa_lconst iX11_commonDivisor_45 kl_1) (aa_go (aa_lload4 iX11_commonDivisor_46) (aa_go (aa_mmaxL iX11_commonDivisor_48 (by omega) lk_X11_389 (Nat.le_of_ble_eq_true rfl)) ?_))
    refine aa_go (aa_topl (y := lN (max 1 x)) (lN_max (by omega) hx)) ?_
    refine aa_lret iX11_commonDivisor_51 rfl ?_
    exact ⟨by rw [gcN, e], rfl⟩
  have loop : ∀ f x y z k, x < 9223372036854775808 → y < 9223372036854775808 → y < 2 ^ f → k + 2 * f ≤ 198 → Nat.gcd x y = Nat.gcd a b → aa_V mX11_commonDivisor 2 9 [some (.long (lN a)), none, some (.long (lN b)), none, some (.long (lN x)), none, some (.long (lN y)), none, some (.int (nI k)), z, none] [] σ (fun ra σ' => ra = some (.long (lN (gcN a b))) ∧ σ' = σ) := by
    intro f
    induction f with
    | zero =>
      intro x y z k hx hy hf hk e
      have y0 : y = 0 := by omega
      subst y0
      refine aa_go (aa_iload8 iX11_commonDivisor_9) (aa_go (aa_sipush iX11_commonDivisor_11 ks_200) ?_)
      refine aa_ic_geN iX11_commonDivisor_14 (by omega) (by omega) (fun g1 => ?_) (fun g1 => ?_)
      · skip
        omega
      · skip
        refine aa_go (aa_lload6 iX11_commonDivisor_17) (aa_go (aa_lconst iX11_commonDivisor_19 kl_0) (aa_go (aa_lcmp iX11_commonDivisor_20) ?_))
        refine aa_if_eqC iX11_commonDivisor_21 (by omega) (by omega) (fun g2 => ?_) (fun g2 => ?_)
        · skip
          exact fin x 0 z k hx (by rw [← e, Nat.gcd_zero_right])
        · skip
          exact absurd rfl g2
    | succ f ih =>
      intro x y z k hx hy hf hk e
      refine aa_go (aa_iload8 iX11_commonDivisor_9) (aa_go (aa_sipush iX11_commonDivisor_11 ks_200) ?_)
      refine aa_ic_geN iX11_commonDivisor_14 (by omega) (by omega) (fun g1 => ?_) (fun g1 => ?_)
      · skip
        omega
      · skip
        refine aa_go (aa_lload6 iX11_commonDivisor_17) (aa_go (aa_lconst iX11_commonDivisor_19 kl_0) (aa_go (aa_lcmp iX11_commonDivisor_20) ?_))
        refine aa_if_eqC iX11_commonDivisor_21 (by omega) (by omega) (fun g2 => ?_) (fun g2 => ?_)
        · skip
          subst g2
          exact fin x 0 z k hx (by rw [← e, Nat.gcd_zero_right])
        · skip
          have hyp : 0 < y := by omega
          have rl : x % y < y := Nat.mod_lt _ hyp
          have e1 : Nat.gcd y (x % y) = Nat.gcd a b := by rw [← e, Nat.gcd_comm x y, Nat.gcd_rec y x, Nat.gcd_comm]
          refine aa_go (aa_lload4 iX11_commonDivisor_24) (aa_go (aa_lload6 iX11_commonDivisor_26) (aa_go (aa_lremN iX11_commonDivisor_28 (by omega) (by omega) (by omega)) (aa_go (aa_lstore9 iX11_commonDivisor_29 rfl (by decide)) (aa_go (aa_lload6 iX11_commonDivisor_31) (aa_go (aa_lstore4 iX11_commonDivisor_33 rfl (by decide)) (aa_go (aa_lload9 iX11_commonDivisor_35) (aa_go (aa_lstore6 iX11_commonDivisor_37 rfl (by decide)) ?_)))))))
          refine aa_go (aa_iincN8 (k := 1) iX11_commonDivisor_39 rfl (by decide)) (aa_go (aa_goto iX11_commonDivisor_42) (aa_go (aa_iload8 iX11_commonDivisor_9) (aa_go (aa_sipush iX11_commonDivisor_11 ks_200) ?_)))
          refine aa_ic_geN iX11_commonDivisor_14 (by omega) (by omega) (fun g3 => ?_) (fun g3 => ?_)
          · skip
            omega
          · skip
            refine aa_go (aa_lload6 iX11_commonDivisor_17) (aa_go (aa_lconst iX11_commonDivisor_19 kl_0) (aa_go (aa_lcmp iX11_commonDivisor_20) ?_))
            refine aa_if_eqC iX11_commonDivisor_21 (by omega) (by omega) (fun g4 => ?_) (fun g4 => ?_)
            · skip
              rw [g4] at e1 ⊢
              exact fin y 0 _ _ hy (by rw [← e1, Nat.gcd_zero_right])
            · skip
              have hrp : 0 < x % y := by omega
              have st := gc_step hyp hrp
              have rl2 : y % (x % y) < x % y := Nat.mod_lt _ hrp
              have e2 : Nat.gcd (x % y) (y % (x % y)) = Nat.gcd a b := by rw [← e1, Nat.gcd_comm y (x % y), Nat.gcd_rec (x % y) y, Nat.gcd_comm]
              refine aa_go (aa_lload4 iX11_commonDivisor_24) (aa_go (aa_lload6 iX11_commonDivisor_26) (aa_go (aa_lremN iX11_commonDivisor_28 (by omega) (by omega) (by omega)) (aa_go (aa_lstore9 iX11_commonDivisor_29 rfl (by decide)) (aa_go (aa_lload6 iX11_commonDivisor_31) (aa_go (aa_lstore4 iX11_commonDivisor_33 rfl (by decide)) (aa_go (aa_lload9 iX11_commonDivisor_35) (aa_go (aa_lstore6 iX11_commonDivisor_37 rfl (by decide)) ?_)))))))
              refine aa_go (aa_iincN8 (k := 1) iX11_commonDivisor_39 rfl (by decide)) (aa_go (aa_goto iX11_commonDivisor_42) ?_)
              exact ih (x % y) (y % (x % y)) _ (k + 1 + 1) (by omega) (by omega) (by rw [Nat.pow_succ] at hf; omega) (by omega) e2
  have key : aa_V mX11_commonDivisor 2 0 [some (.long (lN a)), none, some (.long (lN b)), none, none, none, none, none, none, none, none] [] σ (fun ra σ' => ra = some (.long (lN (gcN a b))) ∧ σ' = σ) := by
    refine aa_go (aa_lload0 iX11_commonDivisor_0) (aa_go (aa_lstore4 iX11_commonDivisor_1 rfl (by decide)) (aa_go (aa_lload2 iX11_commonDivisor_3) (aa_go (aa_lstore6 iX11_commonDivisor_4 rfl (by decide)) (aa_go (aa_iconst iX11_commonDivisor_6 ki_0) (aa_go (aa_istore8 iX11_commonDivisor_7 rfl (by decide)) ?_)))))
    exact loop 63 a b none 0 ha hb (by omega) (by omega) rfl
  obtain ⟨ra, σ', ⟨rfl, rfl⟩, hS9⟩ := aa_S_of (avs := [.long (lN a), .long (lN b)]) (by decide) 7 [some (.long (lN a)), none, some (.long (lN b)), none, none, none, none, none, none, none, none] rfl rfl key
  exact hS9
theorem c_tellFraction (h : XIv P tx n g kp lk tl rw N v W S R r dy σ) {z : Int} {b : Nat} (h1 : -4611686018427387904 ≤ z) (h2 : z ≤ 4611686018427387904) (hb : b < 4611686018427387904) : ∃ σ', (XIv P tx n g kp lk 2 (rw2 (z.tdiv (gcN z.natAbs b)) ((b / gcN z.natAbs b : Nat))) N v W S R r dy σ' ∧ CF r σ r σ') ∧ aa_SX mX11_tellFraction 4 [.ref 0, .long (lZ z), .long (lN b)] σ none σ' := by
  have gp : 0 < gcN z.natAbs b := by unfold gcN; omega
  have gl : gcN z.natAbs b < 9223372036854775808 := by
    unfold gcN
    by_cases c : z.natAbs = 0
    · rw [c, Nat.gcd_zero_left]; omega
    · have := Nat.gcd_le_left b (show 0 < z.natAbs by omega)
      omega
  obtain ⟨h3, f3⟩ := h.tell2 (z.tdiv (gcN z.natAbs b)) ((b / gcN z.natAbs b : Nat))
  refine ⟨_, ⟨h3, f3⟩, ?_⟩
  refine aa_E_of (by decide) 2 [some (.ref 0), some (.long (lZ z)), none, some (.long (lN b)), none, none, none] rfl rfl ?_
  refine aa_go (aa_lload1 iX11_tellFraction_0) (aa_go (aa_mabsL (y := 0) iX11_tellFraction_1 (by omega) lk_X11_381 (Nat.le_of_ble_eq_true rfl)) ?_)
  refine aa_go (aa_topl (y := lN z.natAbs) (lZ_abs h1 h2)) ?_
  refine aa_go (aa_lload3 iX11_tellFraction_4) (aa_go (aa_cSl iX11_tellFraction_5 (c_gcd (by omega) (by omega)) (by decide) lc_X11_commonDivisor lk_X11_385 rfl (Nat.le_of_ble_eq_true rfl)) (aa_go (aa_lstore5 iX11_tellFraction_8 rfl (by decide)) (aa_go (aa_aload0 iX11_tellFraction_10) (aa_go (aa_lload1 iX11_tellFraction_11) (aa_go (aa_lload5 iX11_tellFraction_12) (aa_go (aa_ldiv iX11_tellFraction_14 (lN_nz gp gl)) ?_))))))
  refine aa_go (aa_topl (y := lZ (z.tdiv (gcN z.natAbs b))) (by rw [lZ_N, lZ_div (by omega) (by omega) (by omega) (by omega)])) ?_
  refine aa_go (aa_lload3 iX11_tellFraction_15) (aa_go (aa_lload5 iX11_tellFraction_16) (aa_go (aa_ldivN iX11_tellFraction_18 (by omega) (by omega) (by omega)) (aa_go (aa_cVv iX11_tellFraction_19 (c_tell2 h.1 _ _) (by decide) lc_X11_tell_ lk_X11_207 (sh_0 h.1) rfl rfl (Nat.le_of_ble_eq_true rfl)) ?_)))
  refine aa_vret iX11_tellFraction_22 rfl ?_
  exact ⟨rfl, rfl⟩
theorem c_isTooMuch (h : XIv P tx n g kp lk tl rw N v W S R r dy σ) {k : Nat} (hk : k < 100) : aa_SX mX11_isTooMuch 3 [.ref 0, .int (nI k)] σ (some (.int (nI (decide (k < pl_cn (gth P g) 14 ∨ 0 < pl_b P)).toNat))) σ := by
  have hn := h.X.n14
  have hb := h.X.b2
  have p14 := pw14 hn
  have gl := gth_lt P g
  have g14 : gth P g < 2 ^ 14 := Nat.lt_of_lt_of_le gl (pw_lt hn)
  have ce : pl_cn (gth P g) 32 = pl_cn (gth P g) 14 := cn_up g14 (by omega)
  have c14 := cn_le (gth P g) 14
  refine aa_E_of (by decide) 0 [some (.ref 0), some (.int (nI k))] rfl rfl ?_
  refine aa_go (aa_aload0 iX11_isTooMuch_0) (aa_go (aa_getR iX11_isTooMuch_1 fl_X11_28 (sh_0 h.1) rfl) (aa_go (aa_cVi iX11_isTooMuch_4 (c_X2_there h.1 h.X h.G) (by decide) lc_X2_there lk_X11_278 (sh_20 h.1) rfl rfl (Nat.le_of_ble_eq_true rfl)) (aa_go (aa_cSi iX11_isTooMuch_7 (c_bitCount (a := gth P g) (by omega)) (by decide) lc_J6_bitCount_0f7a4 lk_X11_252 rfl (Nat.le_of_ble_eq_true rfl)) ?_)))
  refine aa_go (aa_top (y := nI (pl_cn (gth P g) 14)) (by rw [ce])) ?_
  refine aa_go (aa_iload1 iX11_isTooMuch_10) ?_
  refine aa_ic_gtN iX11_isTooMuch_11 (by omega) (by omega) (fun g1 => ?_) (fun g1 => ?_)
  · skip
    refine aa_go (aa_iconst iX11_isTooMuch_24 ki_1) (aa_go (aa_goto iX11_isTooMuch_25) ?_)
    refine aa_zretT iX11_isTooMuch_29 rfl ?_
    exact ⟨by rw [decide_eq_true (Or.inl g1)]; rfl, rfl⟩
  · skip
    refine aa_go (aa_aload0 iX11_isTooMuch_14) (aa_go (aa_getR iX11_isTooMuch_15 fl_X11_19 (sh_0 h.1) rfl) (aa_go (aa_cVi iX11_isTooMuch_18 (c_X6_backs h.1 h.X) (by decide) lc_X6_backs lk_X11_287 (sh_7 h.1) rfl rfl (Nat.le_of_ble_eq_true rfl)) ?_))
    refine aa_if_leN iX11_isTooMuch_21 (by omega) (fun g2 => ?_) (fun g2 => ?_)
    · skip
      refine aa_go (aa_iconst iX11_isTooMuch_28 ki_0) ?_
      refine aa_zretF iX11_isTooMuch_29 rfl ?_
      exact ⟨by rw [decide_eq_false (by omega)]; rfl, rfl⟩
    · skip
      refine aa_go (aa_iconst iX11_isTooMuch_24 ki_1) (aa_go (aa_goto iX11_isTooMuch_25) ?_)
      refine aa_zretT iX11_isTooMuch_29 rfl ?_
      exact ⟨by rw [decide_eq_true (Or.inr (by omega))]; rfl, rfl⟩
theorem p_mean (h : XIv P tx n g kp lk tl rw N v W S R r dy σ) (hc : ¬ (6 < pl_cn (gth P g) 14 ∨ 0 < pl_b P)) : ∃ σ', (XI P tx n g kp lk 2 (rw2 ((mn P (gtn g) (gth P g)).tdiv (gcN (mn P (gtn g) (gth P g)).natAbs 518400)) ((518400 / gcN (mn P (gtn g) (gth P g)).natAbs 518400 : Nat))) N r dy σ' ∧ CF r σ r σ') ∧ aa_SX mX11_mean 100 [.ref 0] σ (some (.int (nI 0))) σ' := by
  have t1 : gtn g ≤ 1 := by unfold gtn; omega
  have mb := mn_le h.ok (gtn g) (gth P g)
  obtain ⟨σ1, hF1, hS1⟩ := c_X1_meanMore h.1 h.X (by omega) (gth_lt P g) (by omega) t1
  obtain ⟨h1, f1⟩ := h.few hF1
  obtain ⟨σ2, ⟨h2, f2⟩, hS2⟩ := c_tellFraction h1 (z := mn P (gtn g) (gth P g)) (b := 518400) (by omega) (by omega) (by omega)
  refine ⟨σ2, ⟨h2.to, f1.tr f2⟩, ?_⟩
  refine aa_E_of (by decide) 0 [some (.ref 0)] rfl rfl ?_
  refine aa_go (aa_aload0 iX11_mean_0) (aa_go (aa_bipush iX11_mean_1 kb_6) (aa_go (aa_cVi iX11_mean_3 (c_isTooMuch h (by omega)) (by decide) lc_X11_isTooMuch lk_X11_319 (sh_0 h.1) rfl rfl (Nat.le_of_ble_eq_true rfl)) ?_))
  refine aa_if_eqB iX11_mean_6 (fun g1 => ?_) (fun g1 => ?_)
  · skip
    refine aa_go (aa_aload0 iX11_mean_12) (aa_go (aa_aload0 iX11_mean_13) (aa_go (aa_getR iX11_mean_14 fl_X11_71 (sh_0 h.1) rfl) (aa_go (aa_aload0 iX11_mean_17) (aa_go (aa_getR iX11_mean_18 fl_X11_28 (sh_0 h.1) rfl) (aa_go (aa_cVi iX11_mean_21 (c_X2_there h.1 h.X h.G) (by decide) lc_X2_there lk_X11_278 (sh_20 h.1) rfl rfl (Nat.le_of_ble_eq_true rfl)) (aa_go (aa_aload0 iX11_mean_24) (aa_go (aa_getR iX11_mean_25 fl_X11_28 (sh_0 h.1) rfl) ?_)))))))
    refine aa_go (aa_cVi iX11_mean_28 (c_X2_turn h.1 h.G) (by decide) lc_X2_turn lk_X11_191 (sh_20 h.1) rfl rfl (Nat.le_of_ble_eq_true rfl)) (aa_go (aa_cVl iX11_mean_31 (hS1) (by decide) lc_X1_meanMore lk_X11_322 (sh_41 h.1) rfl rfl (Nat.le_of_ble_eq_true rfl)) ?_)
    refine aa_go (aa_ldc2 iX11_mean_34 ld_X11_326) (aa_go (aa_cVv iX11_mean_37 (hS2) (by decide) lc_X11_tellFraction lk_X11_328 (sh_0 h1.1) rfl rfl (Nat.le_of_ble_eq_true rfl)) (aa_go (aa_iconst iX11_mean_40 ki_0) ?_))
    refine aa_iret iX11_mean_41 rfl ?_
    exact ⟨rfl, rfl⟩
  · skip
    exact absurd (of_decide_eq_true g1) hc
theorem p_meanB (h : XIv P tx n g kp lk tl rw N v W S R r dy σ) (hc : 6 < pl_cn (gth P g) 14 ∨ 0 < pl_b P) : aa_SX mX11_mean 100 [.ref 0] σ (some (.int (-3))) σ := by
  refine aa_E_of (by decide) 0 [some (.ref 0)] rfl rfl ?_
  refine aa_go (aa_aload0 iX11_mean_0) (aa_go (aa_bipush iX11_mean_1 kb_6) (aa_go (aa_cVi iX11_mean_3 (c_isTooMuch h (by omega)) (by decide) lc_X11_isTooMuch lk_X11_319 (sh_0 h.1) rfl rfl (Nat.le_of_ble_eq_true rfl)) ?_))
  refine aa_if_eqB iX11_mean_6 (fun g1 => ?_) (fun g1 => ?_)
  · skip
    exact absurd hc (of_decide_eq_false g1)
  · skip
    refine aa_go (aa_bipush iX11_mean_9 kb_m3) ?_
    refine aa_iret iX11_mean_11 rfl ?_
    exact ⟨rfl, rfl⟩
theorem p_notary (h : XIv P tx n g kp lk tl rw N v W S R r dy σ) (hc : ¬ (6 < pl_cn (gth P g) 14 ∨ 0 < pl_b P)) {a c : Nat} (ha : a ≤ 1) (hc10 : c ≤ 10) : ∃ σ', (XI P tx n g kp lk 2 (rw2 ((ch P a c (gen g) (gtn g) (gth P g) : Int).tdiv (gcN (ch P a c (gen g) (gtn g) (gth P g)) CH)) ((CH / gcN (ch P a c (gen g) (gtn g) (gth P g)) CH : Nat))) N r dy σ' ∧ CF r σ r σ') ∧ aa_SX mX11_notary 100 [.ref 0, .int (nI a), .int (nI c)] σ (some (.int (nI 0))) σ' := by
  have t1 : gtn g ≤ 1 := by unfold gtn; omega
  have cb := ch_CH (cl := a) (c := c) (e := gen g) h.ok hc10 (gtn g) (gth P g)
  have CHe := CH_eq
  have hF0 : FrW [41, 42, 43, 44] 45 σ (aa_sI (aa_sI (aa_sI σ 41 6 (nI a)) 41 7 (nI c)) 41 8 (nI (gen g))) := ((((FrA.rf (A := [41, 42, 43, 44])).s (by decide) _ _).s (by decide) _ _).s (by decide) _ _).FrW
  obtain ⟨h0, f0⟩ := h.few hF0
  obtain ⟨σ1, hF1, hS1⟩ := c_X1_chance h0.1 h0.X (by omega) (gth_lt P g) (by omega) (cl := a) (c := c) (e := gen g) (by rw [sI_nk (by decide), sI_nk (by decide), sI_eq]) ha (by rw [sI_nk (by decide), sI_eq]) hc10 sI_eq h.e1 t1
  obtain ⟨h1, f1⟩ := h0.few hF1
  obtain ⟨σ2, ⟨h2, f2⟩, hS2⟩ := c_tellFraction h1 (z := (ch P a c (gen g) (gtn g) (gth P g) : Int)) (b := CH) (by omega) (by omega) (by omega)
  rw [Int.natAbs_natCast] at h2
  refine ⟨σ2, ⟨h2.to, (f0.tr f1).tr f2⟩, ?_⟩
  refine aa_E_of (by decide) 0 [some (.ref 0), some (.int (nI a)), some (.int (nI c))] rfl rfl ?_
  refine aa_go (aa_iload1 iX11_notary_0) ?_
  refine aa_go (aa_if_ltN iX11_notary_1 (by omega)) ?_
  refine aa_go (aa_iload1 iX11_notary_4) (aa_go (aa_iconst iX11_notary_5 ki_1) ?_)
  refine aa_ic_gtN iX11_notary_6 (by omega) (by omega) (fun g1 => ?_) (fun g1 => ?_)
  · skip
    omega
  · skip
    refine aa_go (aa_iload2 iX11_notary_9) ?_
    refine aa_go (aa_if_ltN iX11_notary_10 (by omega)) ?_
    refine aa_go (aa_iload2 iX11_notary_13) (aa_go (aa_bipush iX11_notary_14 kb_10) ?_)
    refine aa_ic_leN iX11_notary_16 (by omega) (by omega) (fun g2 => ?_) (fun g2 => ?_)
    · skip
      refine aa_go (aa_aload0 iX11_notary_21) (aa_go (aa_bipush iX11_notary_22 kb_6) (aa_go (aa_cVi iX11_notary_24 (c_isTooMuch h (by omega)) (by decide) lc_X11_isTooMuch lk_X11_319 (sh_0 h.1) rfl rfl (Nat.le_of_ble_eq_true rfl)) ?_))
      refine aa_if_eqB iX11_notary_27 (fun g3 => ?_) (fun g3 => ?_)
      · skip
        refine aa_go (aa_aload0 iX11_notary_33) (aa_go (aa_getR iX11_notary_34 fl_X11_71 (sh_0 h.1) rfl) (aa_go (aa_iload1 iX11_notary_37) (aa_go (aa_iload2 iX11_notary_38) (aa_go (aa_aload0 iX11_notary_39) (aa_go (aa_getR iX11_notary_40 fl_X11_28 (sh_0 h.1) rfl) (aa_go (aa_cVi iX11_notary_43 (c_X2_ending h.1 h.G) (by decide) lc_X2_ending lk_X11_144 (sh_20 h.1) rfl rfl (Nat.le_of_ble_eq_true rfl)) (aa_go (aa_cVv iX11_notary_46 (c_X1_hire h.1 _ _ _) (by decide) lc_X1_hire lk_X11_343 (sh_41 h.1) rfl rfl (Nat.le_of_ble_eq_true rfl)) ?_)))))))
        refine aa_go (aa_aload0 iX11_notary_49) (aa_go (aa_aload0 iX11_notary_50) (aa_go (aa_getR iX11_notary_51 fl_X11_71 (sh_0 h0.1) rfl) (aa_go (aa_aload0 iX11_notary_54) (aa_go (aa_getR iX11_notary_55 fl_X11_28 (sh_0 h0.1) rfl) (aa_go (aa_cVi iX11_notary_58 (c_X2_there h0.1 h0.X h0.G) (by decide) lc_X2_there lk_X11_278 (sh_20 h0.1) rfl rfl (Nat.le_of_ble_eq_true rfl)) (aa_go (aa_aload0 iX11_notary_61) (aa_go (aa_getR iX11_notary_62 fl_X11_28 (sh_0 h0.1) rfl) ?_)))))))
        refine aa_go (aa_cVi iX11_notary_65 (c_X2_turn h0.1 h0.G) (by decide) lc_X2_turn lk_X11_191 (sh_20 h0.1) rfl rfl (Nat.le_of_ble_eq_true rfl)) (aa_go (aa_cVl iX11_notary_68 (hS1) (by decide) lc_X1_chance lk_X11_347 (sh_41 h0.1) rfl rfl (Nat.le_of_ble_eq_true rfl)) ?_)
        refine aa_go (aa_ldc2 iX11_notary_71 ld_X11_350) (aa_go (aa_cVv iX11_notary_74 (hS2) (by decide) lc_X11_tellFraction lk_X11_328 (sh_0 h1.1) rfl rfl (Nat.le_of_ble_eq_true rfl)) (aa_go (aa_iconst iX11_notary_77 ki_0) ?_))
        refine aa_iret iX11_notary_78 rfl ?_
        exact ⟨rfl, rfl⟩
      · skip
        exact absurd (of_decide_eq_true g3) hc
    · skip
      omega
theorem p_notaryT (h : XIv P tx n g kp lk tl rw N v W S R r dy σ) (hc : 6 < pl_cn (gth P g) 14 ∨ 0 < pl_b P) {a c : Nat} (ha : a ≤ 1) (hc10 : c ≤ 10) : aa_SX mX11_notary 100 [.ref 0, .int (nI a), .int (nI c)] σ (some (.int (-3))) σ := by
  refine aa_E_of (by decide) 0 [some (.ref 0), some (.int (nI a)), some (.int (nI c))] rfl rfl ?_
  refine aa_go (aa_iload1 iX11_notary_0) ?_
  refine aa_go (aa_if_ltN iX11_notary_1 (by omega)) ?_
  refine aa_go (aa_iload1 iX11_notary_4) (aa_go (aa_iconst iX11_notary_5 ki_1) ?_)
  refine aa_ic_gtN iX11_notary_6 (by omega) (by omega) (fun g1 => ?_) (fun g1 => ?_)
  · skip
    omega
  · skip
    refine aa_go (aa_iload2 iX11_notary_9) ?_
    refine aa_go (aa_if_ltN iX11_notary_10 (by omega)) ?_
    refine aa_go (aa_iload2 iX11_notary_13) (aa_go (aa_bipush iX11_notary_14 kb_10) ?_)
    refine aa_ic_leN iX11_notary_16 (by omega) (by omega) (fun g2 => ?_) (fun g2 => ?_)
    · skip
      refine aa_go (aa_aload0 iX11_notary_21) (aa_go (aa_bipush iX11_notary_22 kb_6) (aa_go (aa_cVi iX11_notary_24 (c_isTooMuch h (by omega)) (by decide) lc_X11_isTooMuch lk_X11_319 (sh_0 h.1) rfl rfl (Nat.le_of_ble_eq_true rfl)) ?_))
      refine aa_if_eqB iX11_notary_27 (fun g3 => ?_) (fun g3 => ?_)
      · skip
        exact absurd hc (of_decide_eq_false g3)
      · skip
        refine aa_go (aa_bipush iX11_notary_30 kb_m3) ?_
        refine aa_iret iX11_notary_32 rfl ?_
        exact ⟨rfl, rfl⟩
    · skip
      omega
theorem p_notaryB (hW : aa_W r dy σ) {a c : Int32} (h : (a < 0 ∨ nI 1 < a) ∨ (c < 0 ∨ nI 10 < c)) : aa_SX mX11_notary 100 [.ref 0, .int a, .int c] σ (some (.int (-1))) σ := by
  refine aa_E_of (by decide) 0 [some (.ref 0), some (.int (a)), some (.int (c))] rfl rfl ?_
  refine aa_go (aa_iload1 iX11_notary_0) ?_
  refine aa_if_lt iX11_notary_1 (fun g1 => ?_) (fun g1 => ?_)
  · skip
    refine aa_go (aa_iconst iX11_notary_19 ki_m1) ?_
    refine aa_iret iX11_notary_20 rfl ?_
    exact ⟨rfl, rfl⟩
  · skip
    refine aa_go (aa_iload1 iX11_notary_4) (aa_go (aa_iconst iX11_notary_5 ki_1) ?_)
    refine aa_ic_gt iX11_notary_6 (fun g2 => ?_) (fun g2 => ?_)
    · skip
      refine aa_go (aa_iconst iX11_notary_19 ki_m1) ?_
      refine aa_iret iX11_notary_20 rfl ?_
      exact ⟨rfl, rfl⟩
    · skip
      refine aa_go (aa_iload2 iX11_notary_9) ?_
      refine aa_if_lt iX11_notary_10 (fun g3 => ?_) (fun g3 => ?_)
      · skip
        refine aa_go (aa_iconst iX11_notary_19 ki_m1) ?_
        refine aa_iret iX11_notary_20 rfl ?_
        exact ⟨rfl, rfl⟩
      · skip
        refine aa_go (aa_iload2 iX11_notary_13) (aa_go (aa_bipush iX11_notary_14 kb_10) ?_)
        refine aa_ic_le iX11_notary_16 (fun g4 => ?_) (fun g4 => ?_)
        · skip
          rcases h with (h | h) | (h | h)
          · exact absurd h g1
          · exact absurd h g2
          · exact absurd h g3
          · exact absurd h (Int32.not_lt.mpr g4)
        · skip
          refine aa_go (aa_iconst iX11_notary_19 ki_m1) ?_
          refine aa_iret iX11_notary_20 rfl ?_
          exact ⟨rfl, rfl⟩
end
