/-! THE REFERENCE, PUBLIC METHODS: joining, alike, walls -/
section
variable {P P' : pl_T} {tx tx' : Nat → Nat} {n n' : Nat} {g g' : gm_T} {kp kp' : Nat → Option gm_T} {lk lk' tl tl' : Nat} {rw rw' : Nat → Int} {Q Q' : Nat} {r : Nat → Nat} {dy : List aa_Shp} {σ σ' : aa_St}
def jbk (P : pl_T) (t k : Nat) : Bool := (List.range k).any (fun j => t.testBit j && decide (1 < pl_cn (pl_u P j &&& t) 32))
theorem jbk_s (t k : Nat) : jbk P t (k + 1) = (jbk P t k || (t.testBit k && decide (1 < pl_cn (pl_u P k &&& t) 32))) := by
  rw [jbk, jbk, List.range_succ, List.any_append]; simp
def jO (P : pl_T) (T : Nat) : Int32 := if T = 0 then nI 0 else if 0 < pl_b P then -2 else if jb P T then -2 else nI (jd P T)
theorem q_joined (h : MI P tx n g kp lk tl rw Q r dy σ) : ∃ σ', MJ P tx n g kp lk tl rw Q r dy σ σ' ∧ aa_SX mX12_joined 100 [.ref 63] σ (some (.int (if gth P g = 0 then nI 0 else if 0 < pl_b P then -2 else if jb P (gth P g) then -2 else nI (jd P (gth P g))))) σ' := by
  have h1 := h.thr (nI 0)
  have ok := h.ok
  have n14 := h.n14
  have b2 := h.b2
  have gl := gth_lt P g
  have p14 : 2 ^ pl_n P ≤ 16384 := Nat.pow_le_pow_right (by decide : 0 < 2) n14
  obtain ⟨-, a1, a2, a3, -⟩ := id h1.M
  have uL : ∀ i, i < pl_n P → pl_u P i < 2 ^ pl_n P := fun i hi => Nat.lt_trans (ok.2.2.1 i hi).2.2.2 (bb_p2 hi)
  have aL : ∀ i, i < pl_n P → pl_u P i &&& gth P g < 16384 := fun i hi => Nat.lt_of_le_of_lt Nat.and_le_right (by omega)
  refine ⟨_, h.JB, ?_⟩
  show aa_SX mX12_joined 100 [.ref 63] σ (some (.int (jO P (gth P g)))) (aa_sI σ 63 0 (nI 0))
  have loop2 : ∀ d m (y2 : Int32), pl_n P - m < d → m ≤ pl_n P → gth P g ≠ 0 → pl_b P = 0 → jb P (gth P g) = false → aa_V mX12_joined 100 98 [some (.ref 63), some (.int (nI (gth P g))), some (.int y2), some (.int (nI (xs ((List.range m).filter (jr P (gth P g))) (jn P (gth P g))))), some (.int (nI m))] [] (aa_sI σ 63 0 (nI 0)) (fun ra σ' => ra = some (.int (jO P (gth P g))) ∧ σ' = aa_sI σ 63 0 (nI 0)) := by
    intro d
    induction d with
    | zero => intro m y2 g1; omega
    | succ d ihd =>
      intro m y2 g1 g2 c0 cb cj
      refine aa_go (aa_iload4 iX12_joined_98) (aa_go (aa_aload0 iX12_joined_100) (aa_go (aa_getE iX12_joined_101 fl_X12_78 (sh_63 h1.W) rfl a1) ?_))
      refine aa_ic_geN iX12_joined_104 (by omega) (by omega) (fun g3 => ?_) (fun g3 => ?_)
      · skip
        have e : m = pl_n P := by omega
        subst e
        refine aa_go (aa_iload3 iX12_joined_147) ?_
        refine aa_iret iX12_joined_148 rfl ?_
        exact ⟨by rw [jO, if_neg c0, if_neg (by omega), cj]; rfl, rfl⟩
      · skip
        have nxt := ihd (m + 1) y2 (by omega) (by omega) c0 cb cj
        have al := aL m g3
        have ul := uL m g3
        refine aa_go (aa_iload3 iX12_joined_107) (aa_go (aa_aload0 iX12_joined_108) (aa_go (aa_iload4 iX12_joined_109) (aa_go (aa_cVi iX12_joined_111 (m_isThere h1.W (cv_lt _) (by omega) h1.G.1) (by decide) lc_X12_isThere lk_X12_121 (sh_63 h1.W) rfl rfl (Nat.le_of_ble_eq_true rfl)) ?_)))
        rw [← gth_cv ok g3]
        refine aa_if_eqB iX12_joined_114 (fun g4 => ?_) (fun g4 => ?_)
        · skip
          rw [flt_f (by rw [jr, g4]; rfl)] at nxt
          refine aa_go (aa_iconst iX12_joined_138 ki_0) (aa_go (aa_ixorN iX12_joined_139 ) ?_)
          refine aa_go (aa_top (y := nI (xs ((List.range m).filter (jr P (gth P g))) (jn P (gth P g)))) (by rw [Nat.xor_zero])) ?_
          refine aa_go (aa_istore3 iX12_joined_140 rfl (by decide)) (aa_go (aa_iincN4 (k := 1) iX12_joined_141 rfl (by decide)) (aa_go (aa_goto iX12_joined_144) ?_))
          exact nxt
        · skip
          refine aa_go (aa_aload0 iX12_joined_117) (aa_go (aa_getR iX12_joined_118 fl_X12_47 (sh_63 h1.W) rfl) (aa_go (aa_iload4 iX12_joined_121) (aa_go (aa_ialE iX12_joined_123 (sh_67 h1.W) (by omega) (by omega) ((a3 m g3).2.2.1)) (aa_go (aa_iload1 iX12_joined_124) (aa_go (aa_iandN iX12_joined_125 ) ?_)))))
          refine aa_if_neN iX12_joined_126 (by omega) (fun g5 => ?_) (fun g5 => ?_)
          · skip
            rw [flt_f (by rw [jr, decide_eq_false g5, Bool.and_false])] at nxt
            refine aa_go (aa_iconst iX12_joined_138 ki_0) (aa_go (aa_ixorN iX12_joined_139 ) ?_)
            refine aa_go (aa_top (y := nI (xs ((List.range m).filter (jr P (gth P g))) (jn P (gth P g)))) (by rw [Nat.xor_zero])) ?_
            refine aa_go (aa_istore3 iX12_joined_140 rfl (by decide)) (aa_go (aa_iincN4 (k := 1) iX12_joined_141 rfl (by decide)) (aa_go (aa_goto iX12_joined_144) ?_))
            exact nxt
          · skip
            rw [flt_t (by rw [jr, g4, decide_eq_true g5]; rfl), xs_a] at nxt
            refine aa_go (aa_aload0 iX12_joined_129) (aa_go (aa_iload4 iX12_joined_130) (aa_go (aa_cVi iX12_joined_132 (m_joins h1.W h1.M (cv_lt _) h1.G.1 (fun i hi => gth_cv ok hi) 14 m (by omega) g3) (by decide) lc_X12_joins lk_X12_242 (sh_63 h1.W) rfl rfl (Nat.le_of_ble_eq_true rfl)) (aa_go (aa_goto iX12_joined_135) (aa_go (aa_ixorN iX12_joined_139 ) (aa_go (aa_istore3 iX12_joined_140 rfl (by decide)) (aa_go (aa_iincN4 (k := 1) iX12_joined_141 rfl (by decide)) (aa_go (aa_goto iX12_joined_144) ?_)))))))
            exact nxt
  have loop1 : ∀ d m (b : Bool), pl_n P - m < d → m ≤ pl_n P → gth P g ≠ 0 → b = (decide (pl_b P = 0) && !jbk P (gth P g) m) → aa_V mX12_joined 100 38 [some (.ref 63), some (.int (nI (gth P g))), some (.int (nI b.toNat)), some (.int (nI 0)), some (.int (nI m))] [] (aa_sI σ 63 0 (nI 0)) (fun ra σ' => ra = some (.int (jO P (gth P g))) ∧ σ' = aa_sI σ 63 0 (nI 0)) := by
    intro d
    induction d with
    | zero => intro m b g1; omega
    | succ d ihd =>
      intro m b g1 g2 c0 hb
      refine aa_go (aa_iload4 iX12_joined_38) (aa_go (aa_aload0 iX12_joined_40) (aa_go (aa_getE iX12_joined_41 fl_X12_78 (sh_63 h1.W) rfl a1) ?_))
      refine aa_ic_geN iX12_joined_44 (by omega) (by omega) (fun g3 => ?_) (fun g3 => ?_)
      · skip
        have e : m = pl_n P := by omega
        subst e
        refine aa_go (aa_iload2 iX12_joined_88) ?_
        refine aa_if_neB iX12_joined_89 (fun g4 => ?_) (fun g4 => ?_)
        · skip
          rw [g4] at hb
          have hb := hb.symm
          rw [Bool.and_eq_true, decide_eq_true_eq] at hb
          have cj : jb P (gth P g) = false := by
            have := hb.2
            cases q : jb P (gth P g) with
            | false => rfl
            | true =>
              have q2 : jbk P (gth P g) (pl_n P) = true := q
              rw [q2] at this; exact absurd this (by decide)
          refine aa_go (aa_iconst iX12_joined_95 ki_0) (aa_go (aa_istore4 iX12_joined_96 rfl (by decide)) ?_)
          exact loop2 (pl_n P + 1) 0 _ (by omega) (by omega) c0 hb.1 cj
        · skip
          rw [g4] at hb
          refine aa_go (aa_bipush iX12_joined_92 kb_m2) ?_
          refine aa_iret iX12_joined_94 rfl ?_
          refine ⟨?_, rfl⟩
          rw [jO, if_neg c0]
          by_cases cb : 0 < pl_b P
          · rw [if_pos cb]
          · rw [if_neg cb]
            rw [decide_eq_true (show pl_b P = 0 by omega), Bool.true_and] at hb
            have cj : jb P (gth P g) = true := by
              show jbk P (gth P g) (pl_n P) = true
              cases q : jbk P (gth P g) (pl_n P) with
              | true => rfl
              | false => rw [q] at hb; exact absurd hb (by decide)
            rw [cj]; rfl
      · skip
        have al := aL m g3
        have ul := uL m g3
        refine aa_go (aa_iload2 iX12_joined_47) ?_
        refine aa_if_eqB iX12_joined_48 (fun g4 => ?_) (fun g4 => ?_)
        · skip
          refine aa_go (aa_iconst iX12_joined_80 ki_0) (aa_go (aa_istore2 iX12_joined_81 rfl (by decide)) (aa_go (aa_iincN4 (k := 1) iX12_joined_82 rfl (by decide)) (aa_go (aa_goto iX12_joined_85) ?_)))
          refine ihd (m + 1) false (by omega) (by omega) c0 ?_
          rw [g4] at hb
          rw [jbk_s]
          cases q : jbk P (gth P g) m with
          | true => simp
          | false => rw [q] at hb; simp at hb; simp [hb]
        · skip
          rw [g4] at hb
          have hb := hb.symm
          rw [Bool.and_eq_true] at hb
          have q : jbk P (gth P g) m = false := by
            cases q : jbk P (gth P g) m with
            | false => rfl
            | true => rw [q] at hb; exact absurd hb.2 (by decide)
          refine aa_go (aa_aload0 iX12_joined_51) (aa_go (aa_iload4 iX12_joined_52) (aa_go (aa_cVi iX12_joined_54 (m_isThere h1.W (cv_lt _) (by omega) h1.G.1) (by decide) lc_X12_isThere lk_X12_121 (sh_63 h1.W) rfl rfl (Nat.le_of_ble_eq_true rfl)) ?_))
          rw [← gth_cv ok g3]
          refine aa_if_eqB iX12_joined_57 (fun g5 => ?_) (fun g5 => ?_)
          · skip
            refine aa_go (aa_iconst iX12_joined_76 ki_1) (aa_go (aa_goto iX12_joined_77) (aa_go (aa_istore2 iX12_joined_81 rfl (by decide)) (aa_go (aa_iincN4 (k := 1) iX12_joined_82 rfl (by decide)) (aa_go (aa_goto iX12_joined_85) ?_))))
            exact ihd (m + 1) true (by omega) (by omega) c0 (by rw [jbk_s, q, g5, hb.1]; rfl)
          · skip
            have c32 := cn_le (pl_u P m &&& gth P g) 32
            refine aa_go (aa_aload0 iX12_joined_60) (aa_go (aa_getR iX12_joined_61 fl_X12_47 (sh_63 h1.W) rfl) (aa_go (aa_iload4 iX12_joined_64) (aa_go (aa_ialE iX12_joined_66 (sh_67 h1.W) (by omega) (by omega) ((a3 m g3).2.2.1)) (aa_go (aa_iload1 iX12_joined_67) (aa_go (aa_iandN iX12_joined_68 ) (aa_go (aa_cSi iX12_joined_69 (c_bitCount (by omega)) (by decide) lc_J6_bitCount_0f7a4 lk_X12_212 rfl (Nat.le_of_ble_eq_true rfl)) (aa_go (aa_iconst iX12_joined_72 ki_2) ?_)))))))
            refine aa_ic_geN iX12_joined_73 (by omega) (by omega) (fun g6 => ?_) (fun g6 => ?_)
            · skip
              refine aa_go (aa_iconst iX12_joined_80 ki_0) (aa_go (aa_istore2 iX12_joined_81 rfl (by decide)) (aa_go (aa_iincN4 (k := 1) iX12_joined_82 rfl (by decide)) (aa_go (aa_goto iX12_joined_85) ?_)))
              exact ihd (m + 1) false (by omega) (by omega) c0 (by rw [jbk_s, q, g5, hb.1, decide_eq_true (show 1 < pl_cn (pl_u P m &&& gth P g) 32 by omega)]; rfl)
            · skip
              refine aa_go (aa_iconst iX12_joined_76 ki_1) (aa_go (aa_goto iX12_joined_77) (aa_go (aa_istore2 iX12_joined_81 rfl (by decide)) (aa_go (aa_iincN4 (k := 1) iX12_joined_82 rfl (by decide)) (aa_go (aa_goto iX12_joined_85) ?_))))
              exact ihd (m + 1) true (by omega) (by omega) c0 (by rw [jbk_s, q, g5, hb.1, decide_eq_false (show ¬ 1 < pl_cn (pl_u P m &&& gth P g) 32 by omega)]; rfl)
  have key : aa_V mX12_joined 100 0 [some (.ref 63), none, none, none, none] [] σ (fun ra σ' => ra = some (.int (jO P (gth P g))) ∧ σ' = aa_sI σ 63 0 (nI 0)) := by
    refine aa_go (aa_aload0 iX12_joined_0) (aa_go (aa_iconst iX12_joined_1 ki_0) (aa_go (aa_putI iX12_joined_2 fl_X12_3 (fun h => nomatch h) (sh_63 h.W) rfl ⟨rfl, rfl⟩) ?_))
    refine aa_go (aa_aload0 iX12_joined_5) (aa_go (aa_getE iX12_joined_6 fl_X12_99 (sh_63 h1.W) rfl h1.G.1) (aa_go (aa_sipush iX12_joined_9 ks_16383) (aa_go (aa_iandN iX12_joined_12 ) ?_)))
    refine aa_go (aa_top (y := nI (gth P g)) (by rw [gth_and ok])) ?_
    refine aa_go (aa_istore1 iX12_joined_13 rfl (by decide)) (aa_go (aa_iload1 iX12_joined_14) ?_)
    refine aa_if_neN iX12_joined_15 (by omega) (fun g1 => ?_) (fun g1 => ?_)
    · skip
      refine aa_go (aa_aload0 iX12_joined_20) (aa_go (aa_getE iX12_joined_21 fl_X12_63 (sh_63 h1.W) rfl a2) ?_)
      refine aa_if_neN iX12_joined_24 (by omega) (fun g2 => ?_) (fun g2 => ?_)
      · skip
        refine aa_go (aa_iconst iX12_joined_31 ki_0) (aa_go (aa_istore2 iX12_joined_32 rfl (by decide)) (aa_go (aa_iconst iX12_joined_33 ki_0) (aa_go (aa_istore3 iX12_joined_34 rfl (by decide)) (aa_go (aa_iconst iX12_joined_35 ki_0) (aa_go (aa_istore4 iX12_joined_36 rfl (by decide)) ?_)))))
        exact loop1 (pl_n P + 1) 0 false (by omega) (by omega) g1 (by rw [decide_eq_false g2]; rfl)
      · skip
        refine aa_go (aa_iconst iX12_joined_27 ki_1) (aa_go (aa_goto iX12_joined_28) (aa_go (aa_istore2 iX12_joined_32 rfl (by decide)) (aa_go (aa_iconst iX12_joined_33 ki_0) (aa_go (aa_istore3 iX12_joined_34 rfl (by decide)) (aa_go (aa_iconst iX12_joined_35 ki_0) (aa_go (aa_istore4 iX12_joined_36 rfl (by decide)) ?_))))))
        exact loop1 (pl_n P + 1) 0 true (by omega) (by omega) g1 (by rw [decide_eq_true g2]; rfl)
    · skip
      refine aa_go (aa_iconst iX12_joined_18 ki_0) ?_
      refine aa_iret iX12_joined_19 rfl ?_
      exact ⟨by rw [jO, if_pos g1], rfl⟩
  obtain ⟨ra, σ', ⟨rfl, rfl⟩, hS9⟩ := aa_S_of (avs := [.ref 63]) (by decide) 4 [some (.ref 63), none, none, none, none] rfl rfl key
  exact hS9
theorem q_alikeB (h : MI P tx n g kp lk tl rw Q r dy σ) {x y : Int32} (hx : ¬ (0 ≤ x ∧ x < nI (pl_n P)) ∨ ¬ (0 ≤ y ∧ y < nI (pl_n P))) : ∃ σ', MJ P tx n g kp lk tl rw Q r dy σ σ' ∧ aa_SX mX12_alike 100 [.ref 63, .int x, .int y] σ (some (.int (-1))) σ' := by
  have h1 := h.thr (nI 0)
  refine ⟨_, h.JB, ?_⟩
  refine aa_E_of (by decide) 3 [some (.ref 63), some (.int (x)), some (.int (y)), none, none, none] rfl rfl ?_
  refine aa_go (aa_aload0 iX12_alike_0) (aa_go (aa_iconst iX12_alike_1 ki_0) (aa_go (aa_putI iX12_alike_2 fl_X12_3 (fun h => nomatch h) (sh_63 h.W) rfl ⟨rfl, rfl⟩) ?_))
  refine aa_go (aa_aload0 iX12_alike_5) (aa_go (aa_iload1 iX12_alike_6) (aa_go (aa_cVi iX12_alike_7 (m_isThing h1.W h1.M x) (by decide) lc_X12_isThing lk_X12_108 (sh_63 h1.W) rfl rfl (Nat.le_of_ble_eq_true rfl)) ?_))
  refine aa_if_eqB iX12_alike_10 (fun g1 => ?_) (fun g1 => ?_)
  · skip
    refine aa_go (aa_iconst iX12_alike_21 ki_m1) ?_
    refine aa_iret iX12_alike_22 rfl ?_
    exact ⟨rfl, rfl⟩
  · skip
    refine aa_go (aa_aload0 iX12_alike_13) (aa_go (aa_iload2 iX12_alike_14) (aa_go (aa_cVi iX12_alike_15 (m_isThing h1.W h1.M y) (by decide) lc_X12_isThing lk_X12_108 (sh_63 h1.W) rfl rfl (Nat.le_of_ble_eq_true rfl)) ?_))
    refine aa_if_neB iX12_alike_18 (fun g2 => ?_) (fun g2 => ?_)
    · skip
      rcases hx with q | q
      · exact absurd (of_decide_eq_true g1) (m_isF h q)
      · exact absurd (of_decide_eq_true g2) (m_isF h q)
    · skip
      refine aa_go (aa_iconst iX12_alike_21 ki_m1) ?_
      refine aa_iret iX12_alike_22 rfl ?_
      exact ⟨rfl, rfl⟩
theorem q_alike (h : MI P tx n g kp lk tl rw Q r dy σ) {i j : Nat} (hi : i < pl_n P) (hj : j < pl_n P) : ∃ σ', MJ P tx n g kp lk tl rw Q r dy σ σ' ∧ aa_SX mX12_alike 100 [.ref 63, .int (nI i), .int (nI j)] σ (some (.int (if (gth P g).testBit i && (gth P g).testBit j then cpA P (pl_hp P (gth P g) i) (pl_hp P (gth P g) j) else -2))) σ' := by
  have h1 := h.thr (nI 0)
  have ok := h.ok
  have n14 := h.n14
  have gl := gth_lt P g
  have p14 : 2 ^ pl_n P ≤ 16384 := Nat.pow_le_pow_right (by decide : 0 < 2) n14
  have hpi := pl_hp_lt (P := P) (i := i) gl
  have hpj := pl_hp_lt (P := P) (i := j) gl
  have cu : ∀ a, a < 2 ^ pl_n P → pl_cn a 32 = (blk a 14).length := fun a ha => by rw [blk_len, cn_up ha (show pl_n P ≤ 32 by omega), cn_up ha n14]
  have ci := cu _ hpi
  have cj := cu _ hpj
  have ci32 := cn_le (pl_hp P (gth P g) i) 32
  have cj32 := cn_le (pl_hp P (gth P g) j) 32
  have key : aa_V mX12_alike 100 0 [some (.ref 63), some (.int (nI i)), some (.int (nI j)), none, none, none] [] σ (fun ra σ' => ra = some (.int (if (gth P g).testBit i && (gth P g).testBit j then cpA P (pl_hp P (gth P g) i) (pl_hp P (gth P g) j) else -2)) ∧ MJ P tx n g kp lk tl rw Q r dy σ σ') := by
    have fill : ∀ f k (σ1 : aa_St), 14 - k < f → k ≤ 14 → FrA [79] (aa_sI σ 63 0 (nI 0)) σ1 → (∀ z, z < k → σ1.1 79 z = -1) → (gth P g).testBit i = true → (gth P g).testBit j = true → ¬ (6 < pl_cn (pl_hp P (gth P g) i) 32 ∨ 6 < pl_cn (pl_hp P (gth P g) j) 32) → aa_V mX12_alike 100 80 [some (.ref 63), some (.int (nI i)), some (.int (nI j)), some (.int (nI (pl_hp P (gth P g) i))), some (.int (nI (pl_hp P (gth P g) j))), some (.int (nI k))] [] σ1 (fun ra σ' => ra = some (.int (if (gth P g).testBit i && (gth P g).testBit j then cpA P (pl_hp P (gth P g) i) (pl_hp P (gth P g) j) else -2)) ∧ MJ P tx n g kp lk tl rw Q r dy σ σ') := by
      intro f
      induction f with
      | zero => intro k σ1 g1; omega
      | succ f ih =>
        intro k σ1 g1 g2 hF hz ti tj hc
        obtain ⟨h2, s2⟩ := h1.fA (by decide) hF
        refine aa_go (aa_iload5 iX12_alike_80) (aa_go (aa_bipush iX12_alike_82 kb_14) ?_)
        refine aa_ic_geN iX12_alike_84 (by omega) (by omega) (fun g3 => ?_) (fun g3 => ?_)
        · skip
          have e : k = 14 := by omega
          subst e
          have hc6 : ¬ (6 < (blk (pl_hp P (gth P g) i) 14).length ∨ 6 < (blk (pl_hp P (gth P g) j) 14).length) := by rw [← ci, ← cj]; exact hc
          have ra9 : (if (gth P g).testBit i && (gth P g).testBit j then cpA P (pl_hp P (gth P g) i) (pl_hp P (gth P g) j) else -2) = nI (decide ((blk (pl_hp P (gth P g) i) 14).length = (blk (pl_hp P (gth P g) j) 14).length) && prB P (fun p => (blk (pl_hp P (gth P g) i) 14)[p]?.getD 0) (fun p => (blk (pl_hp P (gth P g) j) 14)[p]?.getD 0) (blk (pl_hp P (gth P g) i) 14).length (blk (pl_hp P (gth P g) i) 14).length 0 0 (fun _ => 0)).toNat := by
            rw [ti, tj]
            show cpA P _ _ = _
            rw [cpA, if_neg hc6]
          have fJ : ∀ σ2, MF σ1 σ2 → MI P tx n g kp lk tl rw Q r dy σ2 → MJ P tx n g kp lk tl rw Q r dy σ σ2 := fun σ2 q1 q2 => q2.J (by omega) (((MF.rf.s (by decide) _ _).tr s2.F).tr q1)
          refine aa_go (aa_iload3 iX12_alike_101) (aa_go (aa_cSi iX12_alike_102 (c_bitCount (by omega)) (by decide) lc_J6_bitCount_0f7a4 lk_X12_212 rfl (Nat.le_of_ble_eq_true rfl)) (aa_go (aa_iload4 iX12_alike_105) (aa_go (aa_cSi iX12_alike_107 (c_bitCount (by omega)) (by decide) lc_J6_bitCount_0f7a4 lk_X12_212 rfl (Nat.le_of_ble_eq_true rfl)) ?_)))
          refine aa_ic_neN iX12_alike_110 (by omega) (by omega) (fun g4 => ?_) (fun g4 => ?_)
          · skip
            refine aa_go (aa_iconst iX12_alike_127 ki_0) (aa_go (aa_cSi iX12_alike_128 (m_flag false) (by decide) lc_X12_flag lk_X12_31 rfl (Nat.le_of_ble_eq_true rfl)) ?_)
            refine aa_iret iX12_alike_131 rfl ?_
            refine ⟨?_, fJ σ1 MF.rf h2⟩
            rw [ra9, decide_eq_false (by rw [← ci, ← cj]; exact g4)]; rfl
          · skip
            rw [ci, cj] at g4
            obtain ⟨σ3, ⟨hF3, -⟩, hS3⟩ := m_pairs (blk (pl_hp P (gth P g) i) 14).length (pl_hp P (gth P g) i) (pl_hp P (gth P g) j) (fun _ => none) σ1 (by rw [blk_len]; exact Nat.le_refl _) hpi hpj h2.W h2.M (fun z hz2 => hz z hz2) (fun z q hq => by simp at hq) (fun z _ => rfl)
            rw [prM_all n14 hpi hpj g4] at hS3
            obtain ⟨h4, s4⟩ := h2.fA (A := [79]) (by decide) (hF3.A (by decide))
            have lb : (blk (pl_hp P (gth P g) i) 14).length ≤ 6 := by omega
            refine aa_go (aa_aload0 iX12_alike_113) (aa_go (aa_iload3 iX12_alike_114) (aa_go (aa_iload4 iX12_alike_115) (aa_go (aa_cVi iX12_alike_117 (hS3) (by omega) lc_X12_pairs lk_X12_248 (sh_63 h2.W) rfl rfl (Nat.le_of_ble_eq_true rfl)) ?_)))
            refine aa_if_eqB iX12_alike_120 (fun g5 => ?_) (fun g5 => ?_)
            · skip
              refine aa_go (aa_iconst iX12_alike_127 ki_0) (aa_go (aa_cSi iX12_alike_128 (m_flag false) (by decide) lc_X12_flag lk_X12_31 rfl (Nat.le_of_ble_eq_true rfl)) ?_)
              refine aa_iret iX12_alike_131 rfl ?_
              refine ⟨?_, fJ σ3 s4.F h4⟩
              rw [ra9, g5, Bool.and_false]
            · skip
              refine aa_go (aa_iconst iX12_alike_123 ki_1) (aa_go (aa_goto iX12_alike_124) (aa_go (aa_cSi iX12_alike_128 (m_flag true) (by decide) lc_X12_flag lk_X12_31 rfl (Nat.le_of_ble_eq_true rfl)) ?_))
              refine aa_iret iX12_alike_131 rfl ?_
              refine ⟨?_, fJ σ3 s4.F h4⟩
              rw [ra9, g5, decide_eq_true g4]; rfl
        · skip
          refine aa_go (aa_aload0 iX12_alike_87) (aa_go (aa_getR iX12_alike_88 fl_X12_245 (sh_63 h2.W) rfl) (aa_go (aa_iload5 iX12_alike_91) (aa_go (aa_iconst iX12_alike_93 ki_m1) (aa_go (aa_iasN iX12_alike_94 (sh_79 h2.W) (by omega) (by omega)) (aa_go (aa_iincN5 (k := 1) iX12_alike_95 rfl (by decide)) (aa_go (aa_goto iX12_alike_98) ?_))))))
          refine ih (k + 1) _ (by omega) (by omega) (hF.s (by decide) _ _) (fun z hz2 => ?_) ti tj hc
          rw [sI_at]
          by_cases c : z = k
          · rw [if_pos c]
          · rw [if_neg c]; exact hz z (by omega)
    refine aa_go (aa_aload0 iX12_alike_0) (aa_go (aa_iconst iX12_alike_1 ki_0) (aa_go (aa_putI iX12_alike_2 fl_X12_3 (fun h => nomatch h) (sh_63 h.W) rfl ⟨rfl, rfl⟩) ?_))
    refine aa_go (aa_aload0 iX12_alike_5) (aa_go (aa_iload1 iX12_alike_6) (aa_go (aa_cVi iX12_alike_7 (m_isThing h1.W h1.M (nI i)) (by decide) lc_X12_isThing lk_X12_108 (sh_63 h1.W) rfl rfl (Nat.le_of_ble_eq_true rfl)) ?_))
    refine aa_if_eqB iX12_alike_10 (fun g1 => ?_) (fun g1 => ?_)
    · skip
      exact absurd (m_isT h hi) (of_decide_eq_false g1)
    · skip
      refine aa_go (aa_aload0 iX12_alike_13) (aa_go (aa_iload2 iX12_alike_14) (aa_go (aa_cVi iX12_alike_15 (m_isThing h1.W h1.M (nI j)) (by decide) lc_X12_isThing lk_X12_108 (sh_63 h1.W) rfl rfl (Nat.le_of_ble_eq_true rfl)) ?_))
      refine aa_if_neB iX12_alike_18 (fun g2 => ?_) (fun g2 => ?_)
      · skip
        refine aa_go (aa_aload0 iX12_alike_23) (aa_go (aa_iload1 iX12_alike_24) (aa_go (aa_cVi iX12_alike_25 (m_isThere h1.W (cv_lt _) (by omega) h1.G.1) (by decide) lc_X12_isThere lk_X12_121 (sh_63 h1.W) rfl rfl (Nat.le_of_ble_eq_true rfl)) ?_))
        rw [← gth_cv ok hi]
        refine aa_if_eqB iX12_alike_28 (fun g3 => ?_) (fun g3 => ?_)
        · skip
          refine aa_go (aa_bipush iX12_alike_39 kb_m2) ?_
          refine aa_iret iX12_alike_41 rfl ?_
          exact ⟨by rw [g3]; rfl, h.JB⟩
        · skip
          refine aa_go (aa_aload0 iX12_alike_31) (aa_go (aa_iload2 iX12_alike_32) (aa_go (aa_cVi iX12_alike_33 (m_isThere h1.W (cv_lt _) (by omega) h1.G.1) (by decide) lc_X12_isThere lk_X12_121 (sh_63 h1.W) rfl rfl (Nat.le_of_ble_eq_true rfl)) ?_))
          rw [← gth_cv ok hj]
          refine aa_if_neB iX12_alike_36 (fun g4 => ?_) (fun g4 => ?_)
          · skip
            refine aa_go (aa_aload0 iX12_alike_42) (aa_go (aa_iload1 iX12_alike_43) (aa_go (aa_cVi iX12_alike_44 (m_heapOf h1.W h1.M (cv_lt _) h1.G.1 gl (fun i hi => gth_cv ok hi) hi g3) (by decide) lc_X12_heapOf lk_X12_237 (sh_63 h1.W) rfl rfl (Nat.le_of_ble_eq_true rfl)) (aa_go (aa_istore3 iX12_alike_47 rfl (by decide)) (aa_go (aa_aload0 iX12_alike_48) (aa_go (aa_iload2 iX12_alike_49) (aa_go (aa_cVi iX12_alike_50 (m_heapOf h1.W h1.M (cv_lt _) h1.G.1 gl (fun i hi => gth_cv ok hi) hj g4) (by decide) lc_X12_heapOf lk_X12_237 (sh_63 h1.W) rfl rfl (Nat.le_of_ble_eq_true rfl)) (aa_go (aa_istore4 iX12_alike_53 rfl (by decide)) ?_)))))))
            refine aa_go (aa_iload3 iX12_alike_55) (aa_go (aa_cSi iX12_alike_56 (c_bitCount (by omega)) (by decide) lc_J6_bitCount_0f7a4 lk_X12_212 rfl (Nat.le_of_ble_eq_true rfl)) (aa_go (aa_bipush iX12_alike_59 kb_6) ?_))
            refine aa_ic_gtN iX12_alike_61 (by omega) (by omega) (fun g5 => ?_) (fun g5 => ?_)
            · skip
              refine aa_go (aa_bipush iX12_alike_74 kb_m3) ?_
              refine aa_iret iX12_alike_76 rfl ?_
              refine ⟨?_, h.JB⟩
              rw [g3, g4]
              show _ = some (Value.int (cpA P _ _))
              rw [cpA, if_pos (Or.inl (by rw [← ci]; exact g5))]
            · skip
              refine aa_go (aa_iload4 iX12_alike_64) (aa_go (aa_cSi iX12_alike_66 (c_bitCount (by omega)) (by decide) lc_J6_bitCount_0f7a4 lk_X12_212 rfl (Nat.le_of_ble_eq_true rfl)) (aa_go (aa_bipush iX12_alike_69 kb_6) ?_))
              refine aa_ic_leN iX12_alike_71 (by omega) (by omega) (fun g6 => ?_) (fun g6 => ?_)
              · skip
                refine aa_go (aa_iconst iX12_alike_77 ki_0) (aa_go (aa_istore5 iX12_alike_78 rfl (by decide)) ?_)
                exact fill 15 0 _ (by omega) (by omega) FrA.rf (fun z hz => by omega) g3 g4 (by omega)
              · skip
                refine aa_go (aa_bipush iX12_alike_74 kb_m3) ?_
                refine aa_iret iX12_alike_76 rfl ?_
                refine ⟨?_, h.JB⟩
                rw [g3, g4]
                show _ = some (Value.int (cpA P _ _))
                rw [cpA, if_pos (Or.inr (by rw [← cj]; omega))]
          · skip
            refine aa_go (aa_bipush iX12_alike_39 kb_m2) ?_
            refine aa_iret iX12_alike_41 rfl ?_
            exact ⟨by rw [g3, g4]; rfl, h.JB⟩
      · skip
        exact absurd (m_isT h hj) (of_decide_eq_false g2)
  obtain ⟨ra, σ', ⟨rfl, h9⟩, hS9⟩ := aa_S_of (avs := [.ref 63, .int (nI i), .int (nI j)]) (by decide) 3 [some (.ref 63), some (.int (nI i)), some (.int (nI j)), none, none, none] rfl rfl key
  exact ⟨σ', h9, hS9⟩
end
