/-! THE REFERENCE, PUBLIC METHODS: values, heaps, making, best, gets, tempo, limits -/
section
variable {P P' : pl_T} {tx tx' : Nat → Nat} {n n' : Nat} {g g' : gm_T} {kp kp' : Nat → Option gm_T} {lk lk' tl tl' : Nat} {rw rw' : Nat → Int} {Q Q' : Nat} {r : Nat → Nat} {dy : List aa_Shp} {σ σ' : aa_St}
theorem mlk_find {q : Nat → Bool} {h s k j : Nat} : ∀ d, (mlk P h s k).find? q = some j → (mlk P h s (k + d)).find? q = some j
  | 0, hf => hf
  | d + 1, hf => by
    have ih := mlk_find d hf
    rw [show k + (d + 1) = k + d + 1 by omega]
    cases hl : pl_lg P h s (k + d) with
    | false => rw [mlk_f hl]; exact ih
    | true => rw [mlk_t hl, List.find?_append, ih]; rfl
theorem q_value (h : MI P tx n g kp lk tl rw Q r dy σ) (hG : GG P g) (hQ : Q + 2000 < 500000) : ∃ σ', MJ P tx n g kp lk 1 (rw1 (vlb P (gst g) (pl_n P + pl_b P))) Q r dy σ σ' ∧ aa_SX mX12_value 100 [.ref 63] σ (some (.int (nI (vl P (gst g))))) σ' := by
  have h1 := h.thr (nI 0)
  have ok := h.ok
  have dc := hG.dv ok
  obtain ⟨h2, k2, hA⟩ := h1.ask (by omega) (vV P)
  have cl := cv_lt (P := P) (gst g)
  obtain ⟨σ3, ⟨hF3, hK3⟩, hS3⟩ := m_valueOf 18 (cv P (gst g)) _ (by rw [dc]; exact h.mu _) cl h2.W h2.M k2
  rw [dc] at hS3
  have s3 : SQ (aa_sI (aa_sI σ 63 0 (nI 0)) 63 24 (nI (Q + 1))) σ3 := SQ.rf.A hF3
  have h3 := h2.sq s3 hK3.Q
  have h3' : MI P tx n g kp lk 0 rw (Q + 1) r dy (aa_sI σ3 63 1 (nI 0)) := h3.row0
  have hK3' : MMK (Q + 1) (vV P) (aa_sI σ3 63 1 (nI 0)).1 := ⟨h3'.q.1, hK3.2.1, fun p hp => by
    rw [sI_ne (by decide), sI_ne (by decide)]; exact hK3.2.2 p hp⟩
  obtain ⟨σ4, ⟨hF4, hK4⟩, hS4⟩ := m_leadsTo (D := 6 + 2 * 18) cl h3'.W h3'.M hK3' (by omega) (fun t2 σ0 a1 a2 a3 a4 a5 => m_valueOf 18 t2 σ0 (h.mu _) a2 a3 a4 a5)
  rw [dc] at hS4
  have s4 : SQ (aa_sI σ3 63 1 (nI 0)) σ4 := SQ.rf.A hF4
  have h4 := h3'.sq s4 hK4.Q
  have h5 : MI P tx n g kp lk 1 (rw1 (vlb P (gst g) (pl_n P + pl_b P))) (Q + 1) r dy (aa_sI (aa_sL σ4 64 0 (lZ (vlb P (gst g) (pl_n P + pl_b P)))) 63 1 (nI 1)) := h4.row1 (by decide) _ (fun i hi => by omega) rfl
  have hE := h4.ent (by decide) (lZ (vlb P (gst g) (pl_n P + pl_b P)))
  have vb := vlb_lt ok (gst g) (pl_n P + pl_b P)
  refine ⟨_, h5.J (by omega) (((((((MF.rf.s (by decide) _ _).s (by decide) _ _).tr s3.F).s (by decide) _ _).tr s4.F).l (by decide) _ _).s (by decide) _ _), ?_⟩
  refine aa_E_of (by decide) 1 [some (.ref 63), none] rfl rfl ?_
  refine aa_go (aa_aload0 iX12_value_0) (aa_go (aa_iconst iX12_value_1 ki_0) (aa_go (aa_putI iX12_value_2 fl_X12_3 (fun h => nomatch h) (sh_63 h.W) rfl ⟨rfl, rfl⟩) ?_))
  refine aa_go (aa_aload0 iX12_value_5) (aa_go (aa_cVv iX12_value_6 (hA) (by decide) lc_X12_asks lk_X12_189 (sh_63 h1.W) rfl rfl (Nat.le_of_ble_eq_true rfl)) ?_)
  refine aa_go (aa_aload0 iX12_value_9) (aa_go (aa_aload0 iX12_value_10) (aa_go (aa_getE iX12_value_11 fl_X12_99 (sh_63 h2.W) rfl h2.G.1) (aa_go (aa_cVi iX12_value_14 (hS3) (by decide) lc_X12_valueOf lk_X12_224 (sh_63 h2.W) rfl rfl (Nat.le_of_ble_eq_true rfl)) (aa_go (aa_istore1 iX12_value_17 rfl (by decide)) ?_))))
  refine aa_go (aa_aload0 iX12_value_18) (aa_go (aa_iconst iX12_value_19 ki_0) (aa_go (aa_putI iX12_value_20 fl_X12_11 (fun h => nomatch h) (sh_63 h3.W) rfl ⟨rfl, rfl⟩) ?_))
  refine aa_go (aa_aload0 iX12_value_23) (aa_go (aa_aload0 iX12_value_24) (aa_go (aa_aload0 iX12_value_25) (aa_go (aa_getE iX12_value_26 fl_X12_99 (sh_63 h3'.W) rfl h3'.G.1) (aa_go (aa_cVi iX12_value_29 (hS4) (by decide) lc_X12_leadsTo lk_X12_227 (sh_63 h3'.W) rfl rfl (Nat.le_of_ble_eq_true rfl)) (aa_go (aa_i2lN iX12_value_32 (by omega)) ?_)))))
  refine aa_go (aa_topl (y := lZ (vlb P (gst g) (pl_n P + pl_b P))) (by rw [lZ_N])) ?_
  refine aa_go (aa_cVv iX12_value_33 (hE) (by decide) lc_X12_enters lk_X12_163 (sh_63 h4.W) rfl rfl (Nat.le_of_ble_eq_true rfl)) (aa_go (aa_iload1 iX12_value_36) ?_)
  refine aa_iret iX12_value_37 rfl ?_
  exact ⟨rfl, rfl⟩
theorem m_things_t (h : MI P tx n g kp lk tl rw Q r dy σ) {a : Nat} (ha : a < 2 ^ pl_n P) : 0 ≤ (nI a).toInt ∧ (nI a).toInt ≤ ((2 ^ pl_n P : Nat) : Int) - 1 := by
  have p14 : 2 ^ pl_n P ≤ 16384 := Nat.pow_le_pow_right (by decide : 0 < 2) h.n14
  rw [nI_toInt (by omega)]
  omega
theorem m_things_f (h : MI P tx n g kp lk tl rw Q r dy σ) {a : Nat} (h32 : a < 4294967296) (ha : ¬ a < 2 ^ pl_n P) : ¬ (0 ≤ (nI a).toInt ∧ (nI a).toInt ≤ ((2 ^ pl_n P : Nat) : Int) - 1) := by
  have p14 : 2 ^ pl_n P ≤ 16384 := Nat.pow_le_pow_right (by decide : 0 < 2) h.n14
  by_cases c : a < 2147483648
  · rw [nI_toInt c]; omega
  · have e : (nI a).toInt = (a : Int) - 4294967296 := by
      show (BitVec.ofNat 32 a).toInt = _
      rw [BitVec.toInt_eq_toNat_cond, BitVec.toNat_ofNat, Nat.mod_eq_of_lt (by omega), if_neg (by omega)]
      omega
    rw [e]; omega
theorem q_alone (h : MI P tx n g kp lk tl rw Q r dy σ) (hQ : Q + 2000 < 500000) {a : Nat} (ha : a < 2 ^ pl_n P) : ∃ σ', MJ P tx n g kp lk tl rw Q r dy σ σ' ∧ aa_SX mX12_alone 100 [.ref 63, .int (nI a)] σ (some (.int (nI (vl P (jtP P a))))) σ' := by
  have h1 := h.thr (nI 0)
  have p14 : 2 ^ pl_n P ≤ 16384 := Nat.pow_le_pow_right (by decide : 0 < 2) h.n14
  obtain ⟨σ2, ⟨hF2, hQ2⟩, hS2⟩ := m_aloneOf h1.W h1.M (a := a) (by omega) h1.q (by omega)
  rw [dv_done h.ok (by omega)] at hS2
  have s2 : SQ (aa_sI σ 63 0 (nI 0)) σ2 := (SQ.rf.f (by decide) _).A hF2
  refine ⟨σ2, (h1.sq s2 hQ2).J (by omega) ((MF.rf.s (by decide) _ _).tr s2.F), ?_⟩
  refine aa_E_of (by decide) 0 [some (.ref 63), some (.int (nI a))] rfl rfl ?_
  refine aa_go (aa_aload0 iX12_alone_0) (aa_go (aa_iconst iX12_alone_1 ki_0) (aa_go (aa_putI iX12_alone_2 fl_X12_3 (fun h => nomatch h) (sh_63 h.W) rfl ⟨rfl, rfl⟩) ?_))
  refine aa_go (aa_aload0 iX12_alone_5) (aa_go (aa_iload1 iX12_alone_6) (aa_go (aa_cVi iX12_alone_7 (m_areThings h1.W h1.M (nI a)) (by decide) lc_X12_areThings lk_X12_231 (sh_63 h1.W) rfl rfl (Nat.le_of_ble_eq_true rfl)) ?_))
  refine aa_if_eqB iX12_alone_10 (fun g1 => ?_) (fun g1 => ?_)
  · skip
    exact absurd (m_things_t h ha) (of_decide_eq_false g1)
  · skip
    refine aa_go (aa_aload0 iX12_alone_13) (aa_go (aa_iload1 iX12_alone_14) (aa_go (aa_cVi iX12_alone_15 (hS2) (by decide) lc_X12_aloneOf lk_X12_234 (sh_63 h1.W) rfl rfl (Nat.le_of_ble_eq_true rfl)) (aa_go (aa_goto iX12_alone_18) ?_)))
    refine aa_iret iX12_alone_22 rfl ?_
    exact ⟨rfl, rfl⟩
theorem q_aloneB (h : MI P tx n g kp lk tl rw Q r dy σ) {a : Nat} (h32 : a < 4294967296) (ha : ¬ a < 2 ^ pl_n P) : ∃ σ', MJ P tx n g kp lk tl rw Q r dy σ σ' ∧ aa_SX mX12_alone 100 [.ref 63, .int (nI a)] σ (some (.int (-1))) σ' := by
  have h1 := h.thr (nI 0)
  refine ⟨_, h.JB, ?_⟩
  refine aa_E_of (by decide) 0 [some (.ref 63), some (.int (nI a))] rfl rfl ?_
  refine aa_go (aa_aload0 iX12_alone_0) (aa_go (aa_iconst iX12_alone_1 ki_0) (aa_go (aa_putI iX12_alone_2 fl_X12_3 (fun h => nomatch h) (sh_63 h.W) rfl ⟨rfl, rfl⟩) ?_))
  refine aa_go (aa_aload0 iX12_alone_5) (aa_go (aa_iload1 iX12_alone_6) (aa_go (aa_cVi iX12_alone_7 (m_areThings h1.W h1.M (nI a)) (by decide) lc_X12_areThings lk_X12_231 (sh_63 h1.W) rfl rfl (Nat.le_of_ble_eq_true rfl)) ?_))
  refine aa_if_eqB iX12_alone_10 (fun g1 => ?_) (fun g1 => ?_)
  · skip
    refine aa_go (aa_iconst iX12_alone_21 ki_m1) ?_
    refine aa_iret iX12_alone_22 rfl ?_
    exact ⟨rfl, rfl⟩
  · skip
    exact absurd (of_decide_eq_true g1) (m_things_f h h32 ha)
theorem m_isT (h : MI P tx n g kp lk tl rw Q r dy σ) {i : Nat} (hi : i < pl_n P) : 0 ≤ (nI i).toInt ∧ (nI i).toInt ≤ (pl_n P : Int) - 1 := by
  have := h.n14
  rw [nI_toInt (by omega)]
  omega
theorem m_isF (h : MI P tx n g kp lk tl rw Q r dy σ) {x : Int32} (hx : ¬ (0 ≤ x ∧ x < nI (pl_n P))) : ¬ (0 ≤ x.toInt ∧ x.toInt ≤ (pl_n P : Int) - 1) := by
  have := h.n14
  rw [Int32.le_iff_toInt_le, Int32.lt_iff_toInt_lt, nI_toInt (by omega), Int32.toInt_zero] at hx
  omega
theorem gth_bit (ok : pl_ok P) {i : Nat} (hi : i < pl_n P) : (gth P g).testBit i = (gst g).testBit i := by
  unfold gth
  rw [Nat.testBit_and, Nat.testBit_two_pow_sub_one, decide_eq_true hi, Bool.and_true]
theorem gth_cv (ok : pl_ok P) {i : Nat} (hi : i < pl_n P) : (gth P g).testBit i = (cv P (gst g)).testBit i := by rw [gth_bit ok hi, cv_lo ok hi]
theorem q_heap (h : MI P tx n g kp lk tl rw Q r dy σ) {k : Nat} (hk : k < pl_n P) : ∃ σ', MJ P tx n g kp lk tl rw Q r dy σ σ' ∧ aa_SX mX12_heap 100 [.ref 63, .int (nI k)] σ (some (.int (if (gth P g).testBit k then nI (pl_hp P (gth P g) k) else -2))) σ' := by
  have h1 := h.thr (nI 0)
  have n14 := h.n14
  have gl := gth_lt P g
  refine ⟨_, h.JB, ?_⟩
  refine aa_E_of (by decide) 0 [some (.ref 63), some (.int (nI k))] rfl rfl ?_
  refine aa_go (aa_aload0 iX12_heap_0) (aa_go (aa_iconst iX12_heap_1 ki_0) (aa_go (aa_putI iX12_heap_2 fl_X12_3 (fun h => nomatch h) (sh_63 h.W) rfl ⟨rfl, rfl⟩) ?_))
  refine aa_go (aa_aload0 iX12_heap_5) (aa_go (aa_iload1 iX12_heap_6) (aa_go (aa_cVi iX12_heap_7 (m_isThing h1.W h1.M (nI k)) (by decide) lc_X12_isThing lk_X12_108 (sh_63 h1.W) rfl rfl (Nat.le_of_ble_eq_true rfl)) ?_))
  refine aa_if_neB iX12_heap_10 (fun g1 => ?_) (fun g1 => ?_)
  · skip
    refine aa_go (aa_aload0 iX12_heap_15) (aa_go (aa_iload1 iX12_heap_16) (aa_go (aa_cVi iX12_heap_17 (m_isThere h1.W (cv_lt _) (by omega) h1.G.1) (by decide) lc_X12_isThere lk_X12_121 (sh_63 h1.W) rfl rfl (Nat.le_of_ble_eq_true rfl)) ?_))
    rw [gth_cv h.ok hk]
    refine aa_if_eqB iX12_heap_20 (fun g2 => ?_) (fun g2 => ?_)
    · skip
      refine aa_go (aa_bipush iX12_heap_31 kb_m2) ?_
      refine aa_iret iX12_heap_33 rfl ?_
      exact ⟨by rw [g2]; rfl, rfl⟩
    · skip
      refine aa_go (aa_aload0 iX12_heap_23) (aa_go (aa_iload1 iX12_heap_24) (aa_go (aa_cVi iX12_heap_25 (m_heapOf h1.W h1.M (cv_lt _) h1.G.1 gl (fun i hi => gth_cv h.ok hi) hk (by rw [gth_cv h.ok hk]; exact g2)) (by decide) lc_X12_heapOf lk_X12_237 (sh_63 h1.W) rfl rfl (Nat.le_of_ble_eq_true rfl)) (aa_go (aa_goto iX12_heap_28) ?_)))
      refine aa_iret iX12_heap_33 rfl ?_
      exact ⟨by rw [g2]; rfl, rfl⟩
  · skip
    exact absurd (m_isT h hk) (of_decide_eq_false g1)
theorem q_heapB (h : MI P tx n g kp lk tl rw Q r dy σ) {x : Int32} (hx : ¬ (0 ≤ x ∧ x < nI (pl_n P))) : ∃ σ', MJ P tx n g kp lk tl rw Q r dy σ σ' ∧ aa_SX mX12_heap 100 [.ref 63, .int x] σ (some (.int (-1))) σ' := by
  have h1 := h.thr (nI 0)
  refine ⟨_, h.JB, ?_⟩
  refine aa_E_of (by decide) 0 [some (.ref 63), some (.int (x))] rfl rfl ?_
  refine aa_go (aa_aload0 iX12_heap_0) (aa_go (aa_iconst iX12_heap_1 ki_0) (aa_go (aa_putI iX12_heap_2 fl_X12_3 (fun h => nomatch h) (sh_63 h.W) rfl ⟨rfl, rfl⟩) ?_))
  refine aa_go (aa_aload0 iX12_heap_5) (aa_go (aa_iload1 iX12_heap_6) (aa_go (aa_cVi iX12_heap_7 (m_isThing h1.W h1.M x) (by decide) lc_X12_isThing lk_X12_108 (sh_63 h1.W) rfl rfl (Nat.le_of_ble_eq_true rfl)) ?_))
  refine aa_if_neB iX12_heap_10 (fun g1 => ?_) (fun g1 => ?_)
  · skip
    exact absurd (of_decide_eq_true g1) (m_isF h hx)
  · skip
    refine aa_go (aa_iconst iX12_heap_13 ki_m1) ?_
    refine aa_iret iX12_heap_14 rfl ?_
    exact ⟨rfl, rfl⟩
theorem q_make (h : MI P tx n g kp lk tl rw Q r dy σ) (hG : GG P g) (hQ : Q + 2000 < 500000) {t : Nat} (ht : t ≤ 31) : ∃ σ', MJ P tx n g kp lk tl rw Q r dy σ σ' ∧ aa_SX mX12_make 100 [.ref 63, .int (nI t)] σ (some (.int (match ftk P (gst g) t (pl_n P + pl_b P) with
    | none => -2
    | some j => nI (pl_mo P j)))) σ' := by
  have h1 := h.thr (nI 0)
  have ok := h.ok
  have dc := hG.dv ok
  obtain ⟨h2, k2, hA⟩ := h1.ask (by omega) (vV P)
  have cl := cv_lt (P := P) (gst g)
  have loop : ∀ f m (σ3 : aa_St), 28 - m < f → m ≤ 28 → FrA [74, 75] (aa_sI (aa_sI σ 63 0 (nI 0)) 63 24 (nI (Q + 1))) σ3 → MMK (Q + 1) (vV P) σ3.1 → ftk P (gst g) t (msT P m) = none → aa_V mX12_make 100 25 [some (.ref 63), some (.int (nI t)), some (.int (nI m))] [] σ3 (fun ra σ' => ra = some (.int (match ftk P (gst g) t (pl_n P + pl_b P) with
    | none => -2
    | some j => nI (pl_mo P j))) ∧ MJ P tx n g kp lk tl rw Q r dy σ σ') := by
    intro f
    induction f with
    | zero => intro m σ3 g1; omega
    | succ f ih =>
      intro m σ3 g1 g2 hF hK hno
      have hsq : SQ (aa_sI (aa_sI σ 63 0 (nI 0)) 63 24 (nI (Q + 1))) σ3 := SQ.rf.A hF
      have h3 := h2.sq hsq hK.Q
      refine aa_go (aa_iload2 iX12_make_25) (aa_go (aa_bipush iX12_make_26 kb_28) ?_)
      refine aa_ic_geN iX12_make_28 (by omega) (by omega) (fun g3 => ?_) (fun g3 => ?_)
      · skip
        have e : m = 28 := by omega
        subst e
        rw [ms_28 ok] at hno
        refine aa_go (aa_bipush iX12_make_69 kb_m2) ?_
        refine aa_iret iX12_make_71 rfl ?_
        exact ⟨by rw [hno], h3.J (by omega) (((MF.rf.s (by decide) _ _).s (by decide) _ _).tr hsq.F)⟩
      · skip
        refine aa_go (aa_aload0 iX12_make_31) (aa_go (aa_aload0 iX12_make_32) (aa_go (aa_getE iX12_make_33 fl_X12_99 (sh_63 h3.W) rfl h3.G.1) (aa_go (aa_iconst iX12_make_36 ki_3) (aa_go (aa_iload2 iX12_make_37) (aa_go (aa_cVi iX12_make_38 (m_can h3.W h3.M cl (by omega) (by omega)) (by decide) lc_X12_can lk_X12_140 (sh_63 h3.W) rfl rfl (Nat.le_of_ble_eq_true rfl)) ?_)))))
        refine aa_if_eqB iX12_make_41 (fun g4 => ?_) (fun g4 => ?_)
        · skip
          have e1 := mlk_cn_f ok g3 g4
          rw [dc] at e1
          refine aa_go (aa_iincN2 (k := 1) iX12_make_63 rfl (by decide)) (aa_go (aa_goto iX12_make_66) ?_)
          exact ih (m + 1) σ3 (by omega) (by omega) hF hK (by rw [ftk, e1]; exact hno)
        · skip
          obtain ⟨j, hj, jl, -, lg, m1, m2⟩ := cn_t ok g4
          have e1 := mlk_cn_t ok g4 hj
          rw [dc] at lg e1
          have ea := cv_af (s := gst g) ok hj
          have hA := m_after h3.W h3.M (t := cv P (gst g)) g3 hj
          rw [ea] at hA
          have nl := pl_nx_lt ok hG.st jl
          have dn := dv_cv ok nl
          obtain ⟨σ4, ⟨hF4, hK4⟩, hS4⟩ := m_valueOf 18 (cv P (pl_nx P (gst g) j)) σ3 (by rw [dn]; exact h.mu _) (cv_lt _) h3.W h3.M hK
          rw [dn] at hS4
          have vl16 := vl_le ok (pl_nx P (gst g) j)
          have ef : ftk P (gst g) t (msT P (m + 1)) = if vl P (pl_nx P (gst g) j) == t then some j else none := by
            have hno' : (mlk P 3 (gst g) (msT P m)).find? (fun j => vl P (pl_nx P (gst g) j) == t) = none := hno
            rw [ftk, e1, List.find?_append, hno']
            by_cases c : vl P (pl_nx P (gst g) j) = t
            · simp [c]
            · simp [c]
          refine aa_go (aa_aload0 iX12_make_44) (aa_go (aa_aload0 iX12_make_45) (aa_go (aa_aload0 iX12_make_46) (aa_go (aa_getE iX12_make_47 fl_X12_99 (sh_63 h3.W) rfl h3.G.1) (aa_go (aa_iload2 iX12_make_50) (aa_go (aa_cVi iX12_make_51 (hA) (by decide) lc_X12_after lk_X12_137 (sh_63 h3.W) rfl rfl (Nat.le_of_ble_eq_true rfl)) (aa_go (aa_cVi iX12_make_54 (hS4) (by decide) lc_X12_valueOf lk_X12_224 (sh_63 h3.W) rfl rfl (Nat.le_of_ble_eq_true rfl)) (aa_go (aa_iload1 iX12_make_57) ?_)))))))
          refine aa_ic_neN iX12_make_58 (by omega) (by omega) (fun g5 => ?_) (fun g5 => ?_)
          · skip
            refine aa_go (aa_iincN2 (k := 1) iX12_make_63 rfl (by decide)) (aa_go (aa_goto iX12_make_66) ?_)
            exact ih (m + 1) σ4 (by omega) (by omega) (hF.tr hF4) hK4 (by rw [ef, if_neg (by simpa using g5)])
          · skip
            have h4 := h2.sq (hsq.A hF4) hK4.Q
            have et : ftk P (gst g) t (pl_n P + pl_b P) = some j := by
              have hsub := ms_le ok (m := m + 1) (by omega)
              have := mlk_find (pl_n P + pl_b P - msT P (m + 1)) (show (mlk P 3 (gst g) (msT P (m + 1))).find? (fun j => vl P (pl_nx P (gst g) j) == t) = some j by
                have e9 := ef
                rw [if_pos (by simpa using g5)] at e9
                exact e9)
              rw [show msT P (m + 1) + (pl_n P + pl_b P - msT P (m + 1)) = pl_n P + pl_b P by omega] at this
              exact this
            refine aa_go (aa_iload2 iX12_make_61) ?_
            refine aa_iret iX12_make_62 rfl ?_
            refine ⟨?_, h4.J (by omega) ((((MF.rf.s (by decide) _ _).s (by decide) _ _).tr hsq.F).tr (SQ.rf.A hF4).F)⟩
            rw [et]
            show _ = some (Value.int (nI (pl_mo P j)))
            rw [mo_sp ok hj]
  have key : aa_V mX12_make 100 0 [some (.ref 63), some (.int (nI t)), none] [] σ (fun ra σ' => ra = some (.int (match ftk P (gst g) t (pl_n P + pl_b P) with
    | none => -2
    | some j => nI (pl_mo P j))) ∧ MJ P tx n g kp lk tl rw Q r dy σ σ') := by
    refine aa_go (aa_aload0 iX12_make_0) (aa_go (aa_iconst iX12_make_1 ki_0) (aa_go (aa_putI iX12_make_2 fl_X12_3 (fun h => nomatch h) (sh_63 h.W) rfl ⟨rfl, rfl⟩) ?_))
    refine aa_go (aa_iload1 iX12_make_5) (aa_go (aa_i2lN iX12_make_6 (by omega)) (aa_go (aa_lconst iX12_make_7 kl_0) (aa_go (aa_ldc2 iX12_make_8 ld_X12_240) (aa_go (aa_cSi iX12_make_11 (m_inN (hi := 31) (by omega) (by omega)) (by decide) lc_X12_in lk_X12_21 rfl (Nat.le_of_ble_eq_true rfl)) ?_))))
    refine aa_if_neB iX12_make_14 (fun g1 => ?_) (fun g1 => ?_)
    · skip
      refine aa_go (aa_aload0 iX12_make_19) (aa_go (aa_cVv iX12_make_20 (hA) (by decide) lc_X12_asks lk_X12_189 (sh_63 h1.W) rfl rfl (Nat.le_of_ble_eq_true rfl)) (aa_go (aa_iconst iX12_make_23 ki_0) (aa_go (aa_istore2 iX12_make_24 rfl (by decide)) ?_)))
      exact loop 29 0 _ (by omega) (by omega) FrA.rf k2 (by rw [ms_0]; rfl)
    · skip
      exact absurd ht (of_decide_eq_false g1)
  obtain ⟨ra, σ', ⟨rfl, h9⟩, hS9⟩ := aa_S_of (avs := [.ref 63, .int (nI t)]) (by decide) 1 [some (.ref 63), some (.int (nI t)), none] rfl rfl key
  exact ⟨σ', h9, hS9⟩
theorem q_makeB (h : MI P tx n g kp lk tl rw Q r dy σ) {x : Int32} (hx : x < 0 ∨ nI 31 < x) : ∃ σ', MJ P tx n g kp lk tl rw Q r dy σ σ' ∧ aa_SX mX12_make 100 [.ref 63, .int x] σ (some (.int (-1))) σ' := by
  have h1 := h.thr (nI 0)
  refine ⟨_, h.JB, ?_⟩
  refine aa_E_of (by decide) 1 [some (.ref 63), some (.int (x)), none] rfl rfl ?_
  refine aa_go (aa_aload0 iX12_make_0) (aa_go (aa_iconst iX12_make_1 ki_0) (aa_go (aa_putI iX12_make_2 fl_X12_3 (fun h => nomatch h) (sh_63 h.W) rfl ⟨rfl, rfl⟩) ?_))
  refine aa_go (aa_iload1 iX12_make_5) (aa_go (aa_i2l iX12_make_6) (aa_go (aa_lconst iX12_make_7 kl_0) (aa_go (aa_ldc2 iX12_make_8 ld_X12_240) (aa_go (aa_cSi iX12_make_11 (m_inB (c := 31) (by omega) hx) (by decide) lc_X12_in lk_X12_21 rfl (Nat.le_of_ble_eq_true rfl)) ?_))))
  refine aa_if_neB iX12_make_14 (fun g1 => ?_) (fun g1 => ?_)
  · skip
    exact absurd g1 (by decide)
  · skip
    refine aa_go (aa_iconst iX12_make_17 ki_m1) ?_
    refine aa_iret iX12_make_18 rfl ?_
    exact ⟨rfl, rfl⟩
end
