/-! THE REFERENCE: the keeper of the parrot, of three and of two -/
section
variable {r : Nat → Nat} {dy : List aa_Shp} {P : pl_T} {Q lk : Nat}
theorem MMK.setQ {p : Nat} {val : Nat → Int32} {σ : aa_St} (h : MMK Q val σ.1) (x : Int32) : MMQ Q (aa_sI (aa_sI σ 74 p (nI Q)) 75 p x).1 := by
  obtain ⟨h1, h2, h3⟩ := h
  refine ⟨by rw [sI_ne (by decide), sI_ne (by decide)]; exact h1, h2, fun p' hp' => ?_⟩
  by_cases c : p' = p
  · subst c
    exact ⟨Q, Nat.le_refl _, by rw [sI_ne (by decide), sI_eq]⟩
  · obtain ⟨q, a, b, d⟩ := h3 p' hp'
    exact ⟨q, a, by rw [sI_ne (by decide), sI_nk c]; exact b⟩
theorem m_keeper : ∀ f t w (σ : aa_St), pl_mu P (dv P t) ≤ f → t < 65536 → w ≤ 2 → aa_W r dy σ → MP P σ.1 → MMK Q (vP P lk) σ.1 → ML3 lk σ.1 →
    ∃ σ' : aa_St, (FrQ σ σ' ∧ MMK Q (vP P lk) σ'.1) ∧ aa_SX mX12_keeper (6 + f) [.ref 63, .int (nI t), .int (nI w), .int (nI (nx3 (nx3 w)))] σ (some (.int (nI (kp P lk w (dv P t))))) σ' := by
  intro f
  induction f using Nat.strongRecOn with
  | ind f ih =>
    intro t w σ hf ht hw hW hM hK hL
    have ok := hM.1
    have pl : w * 65536 + t < 196608 := by omega
    have va := vP_at P (lk := lk) (w := w) ht
    have n4 := nx3_le (nx3_le hw)
    have B := m_keeperB (f := f) (L := nx3 (nx3 w)) ht hw (by omega) hW hM hK hL (fun t2 w2 σ2 g1 g2 g3 g4 g5 g6 g7 => by
      have := ih (f - 1) (by omega) t2 w2 σ2 (by omega) g2 g3 g4 g5 g6 g7
      rw [show 6 + (f - 1) = 5 + f by omega] at this
      exact this)
    have eL : kpL P lk w (dv P t) (nx3 (nx3 w)) = kp P lk w (dv P t) := by
      rw [kpL]
      by_cases c : pl_mv P w (dv P t) = 0
      · rw [if_pos c, kp_eq ok, if_pos c]
      · rw [if_neg c]
    rw [eL] at B
    have key : aa_V mX12_keeper (6 + f) 0 [some (.ref 63), some (.int (nI t)), some (.int (nI w)), some (.int (nI (nx3 (nx3 w)))), none, none, none, none, none] [] σ (fun ra σ' => ra = some (.int (nI (kp P lk w (dv P t)))) ∧ FrQ σ σ' ∧ MMK Q (vP P lk) σ'.1) := by
      obtain ⟨q, hq1, hq2, hq3⟩ := hK.2.2 (w * 65536 + t) pl
      have hQ := hK.2.1
      obtain ⟨rb, σb, ⟨h1, σ2, h2, h3, h4⟩, hV⟩ := B
      have hx : MMK Q (vP P lk) σb.1 := by
        rw [h4, ← va]; exact (h3.f _).set
      have hy : FrQ σ σb := by
        rw [h4]; exact ((h2.f _).s (Or.inl rfl) _ _).s (Or.inr rfl) _ _
      refine aa_go (aa_aload0 iX12_keeper_0) (aa_go (aa_iload1 iX12_keeper_1) (aa_go (aa_iload2 iX12_keeper_2) (aa_go (aa_cVi iX12_keeper_3 (m_placeOf hW) (by omega) lc_X12_placeOf lk_X12_177 (sh_63 hW) rfl rfl (Nat.le_of_ble_eq_true rfl)) (aa_go (aa_istore4 iX12_keeper_6 rfl (by decide)) (aa_go (aa_aload0 iX12_keeper_8) (aa_go (aa_iload4 iX12_keeper_9) (aa_go (aa_cVi iX12_keeper_11 (m_isKnown hW pl hq2 hK.1 (by omega) (by omega)) (by omega) lc_X12_isKnown lk_X12_180 (sh_63 hW) rfl rfl (Nat.le_of_ble_eq_true rfl)) ?_)))))))
      refine aa_if_eqB iX12_keeper_14 (fun g1 => ?_) (fun g1 => ?_)
      · skip
        refine aa_go (aa_iload3 iX12_keeper_25) (aa_go (aa_istore5 iX12_keeper_26 rfl (by decide)) (aa_go (aa_iconst iX12_keeper_28 ki_m1) (aa_go (aa_istore6 iX12_keeper_29 rfl (by decide)) (aa_go (aa_iconst iX12_keeper_31 ki_0) (aa_go (aa_istore7 iX12_keeper_32 rfl (by decide)) ?_)))))
        exact ⟨rb, σb, ⟨h1, hy, hx⟩, hV⟩
      · skip
        have hq5 := of_decide_eq_true g1
        have hq4 := hq3 hq5
        rw [va] at hq4
        refine aa_go (aa_aload0 iX12_keeper_17) (aa_go (aa_getR iX12_keeper_18 fl_X12_174 (sh_63 hW) rfl) (aa_go (aa_iload4 iX12_keeper_21) (aa_go (aa_ialE iX12_keeper_23 (sh_75 hW) (by omega) (by omega) (hq4)) ?_)))
        refine aa_iret iX12_keeper_24 rfl ?_
        exact ⟨rfl, FrQ.rf, hK⟩
    obtain ⟨ra, σ', ⟨rfl, h1⟩, hS9⟩ := aa_S_of (avs := [.ref 63, .int (nI t), .int (nI w), .int (nI (nx3 (nx3 w)))]) (by decide) 5 [some (.ref 63), some (.int (nI t)), some (.int (nI w)), some (.int (nI (nx3 (nx3 w)))), none, none, none, none, none] rfl rfl key
    exact ⟨σ', h1, hS9⟩
theorem m_keeper0 {f t w : Nat} {σ : aa_St} (hf : pl_mu P (dv P t) ≤ f) (ht : t < 65536) (hw : w ≤ 2) (hW : aa_W r dy σ) (hM : MP P σ.1) (hK : MMK Q (vP P lk) σ.1) (hL : ML3 lk σ.1) (hfr : FRE Q (w * 65536 + t) σ.1) :
    ∃ σ' : aa_St, (FrQ σ σ' ∧ MMQ Q σ'.1 ∧ σ'.1 63 25 = iZ (mvZ P (ffm P lk w (dv P t) (pl_n P + pl_b P)))) ∧ aa_SX mX12_keeper (7 + f) [.ref 63, .int (nI t), .int (nI w), .int (nI 3)] σ (some (.int (nI (kpB P lk w (dv P t))))) σ' := by
  have ok := hM.1
  have pl : w * 65536 + t < 196608 := by omega
  have B := m_keeperB (f := f + 1) (L := 3) ht hw (by omega) hW hM hK hL (fun t2 w2 σ2 g1 g2 g3 g4 g5 g6 g7 => by
    have := m_keeper (r := r) (dy := dy) (P := P) (Q := Q) (lk := lk) f t2 w2 σ2 (by omega) g2 g3 g4 g5 g6 g7
    rw [show 6 + f = 5 + (f + 1) by omega] at this
    exact this)
  rw [show kpL P lk w (dv P t) 3 = kpB P lk w (dv P t) from rfl, show 6 + (f + 1) = 7 + f by omega] at B
  have key : aa_V mX12_keeper (7 + f) 0 [some (.ref 63), some (.int (nI t)), some (.int (nI w)), some (.int (nI 3)), none, none, none, none, none] [] σ (fun ra σ' => ra = some (.int (nI (kpB P lk w (dv P t)))) ∧ FrQ σ σ' ∧ MMQ Q σ'.1 ∧ σ'.1 63 25 = iZ (mvZ P (ffm P lk w (dv P t) (pl_n P + pl_b P)))) := by
    obtain ⟨q, hq1, hq2, hq3⟩ := hK.2.2 (w * 65536 + t) pl
    have hQ := hK.2.1
    obtain ⟨rb, σb, ⟨h1, σ2, h2, h3, h4⟩, hV⟩ := B
    have hx : MMQ Q σb.1 := by
      rw [h4]; exact (h3.f _).setQ _
    have hy : FrQ σ σb := by
      rw [h4]; exact ((h2.f _).s (Or.inl rfl) _ _).s (Or.inr rfl) _ _
    have hz : σb.1 63 25 = iZ (mvZ P (ffm P lk w (dv P t) (pl_n P + pl_b P))) := by
      rw [h4, sI_ne (by decide), sI_ne (by decide), sI_eq]
    refine aa_go (aa_aload0 iX12_keeper_0) (aa_go (aa_iload1 iX12_keeper_1) (aa_go (aa_iload2 iX12_keeper_2) (aa_go (aa_cVi iX12_keeper_3 (m_placeOf hW) (by omega) lc_X12_placeOf lk_X12_177 (sh_63 hW) rfl rfl (Nat.le_of_ble_eq_true rfl)) (aa_go (aa_istore4 iX12_keeper_6 rfl (by decide)) (aa_go (aa_aload0 iX12_keeper_8) (aa_go (aa_iload4 iX12_keeper_9) (aa_go (aa_cVi iX12_keeper_11 (m_isKnown hW pl hq2 hK.1 (by omega) (by omega)) (by omega) lc_X12_isKnown lk_X12_180 (sh_63 hW) rfl rfl (Nat.le_of_ble_eq_true rfl)) ?_)))))))
    refine aa_if_eqB iX12_keeper_14 (fun g1 => ?_) (fun g1 => ?_)
    · skip
      refine aa_go (aa_iload3 iX12_keeper_25) (aa_go (aa_istore5 iX12_keeper_26 rfl (by decide)) (aa_go (aa_iconst iX12_keeper_28 ki_m1) (aa_go (aa_istore6 iX12_keeper_29 rfl (by decide)) (aa_go (aa_iconst iX12_keeper_31 ki_0) (aa_go (aa_istore7 iX12_keeper_32 rfl (by decide)) ?_)))))
      exact ⟨rb, σb, ⟨h1, hy, hx, hz⟩, hV⟩
    · skip
      have hq5 := of_decide_eq_true g1
      exact absurd (by rw [hq2, hq5]) hfr
  obtain ⟨ra, σ', ⟨rfl, h1⟩, hS9⟩ := aa_S_of (avs := [.ref 63, .int (nI t), .int (nI w), .int (nI 3)]) (by decide) 5 [some (.ref 63), some (.int (nI t)), some (.int (nI w)), some (.int (nI 3)), none, none, none, none, none] rfl rfl key
  exact ⟨σ', h1, hS9⟩
/-! two heirs and a parrot -/
def esV (P : pl_T) (w o s : Nat) : Nat := if es P w o s then o else w
def esL (P : pl_T) (w o s L : Nat) : Nat := if pl_mv P w s = 0 then L else esV P w o s
def esB (P : pl_T) (w o s L k : Nat) : Nat := if mlk P w s k = [] then L else if esA P w o s k then o else w
def vE (P : pl_T) (c p : Nat) : Int32 := nI (esV P (p / 65536) (c - p / 65536) (dv P (p % 65536)))
theorem vE_at (P : pl_T) {w o t : Nat} (ht : t < 65536) : vE P (w + o) (w * 65536 + t) = nI (esV P w o (dv P t)) := by
  rw [vE, (pl_div ht).1, (pl_div ht).2, Nat.add_sub_cancel_left]
theorem esV_le {w o s : Nat} (hw : w ≤ 2) (ho : o ≤ 2) : esV P w o s ≤ 2 := by unfold esV; split <;> omega
theorem esB_le {w o s L k : Nat} (hw : w ≤ 2) (ho : o ≤ 2) (hL : L ≤ 3) : esB P w o s L k ≤ 3 := by unfold esB; split <;> (try split) <;> omega
theorem m_twoB {f t w o L : Nat} {σ : aa_St} (ht : t < 65536) (hw : w ≤ 2) (ho : o ≤ 2) (hwo : w ≠ o) (hL3 : L ≤ 3) (hW : aa_W r dy σ) (hM : MP P σ.1) (hK : MMK Q (vE P (w + o)) σ.1)
    (ih : ∀ t2 (σ : aa_St), pl_mu P (dv P t2) < pl_mu P (dv P t) → t2 < 65536 → aa_W r dy σ → MP P σ.1 → MMK Q (vE P (o + w)) σ.1 → ∃ σ' : aa_St, (FrA [74, 75] σ σ' ∧ MMK Q (vE P (o + w)) σ'.1) ∧ aa_SX mX12_keeperOfTwo (5 + f) [.ref 63, .int (nI t2), .int (nI o), .int (nI w), .int (nI w)] σ (some (.int (nI (esV P o w (dv P t2))))) σ') :
    aa_V mX12_keeperOfTwo (6 + f) 35 [some (.ref 63), some (.int (nI t)), some (.int (nI w)), some (.int (nI o)), some (.int (nI L)), some (.int (nI (w * 65536 + t))), some (.int (nI L)), some (.int (nI 0)), some (.int (nI 0)), none] [] σ (fun ra σ' => ra = some (.int (nI (esL P w o (dv P t) L))) ∧ ∃ σ2, FrA [74, 75] σ σ2 ∧ MMK Q (vE P (w + o)) σ2.1 ∧ σ' = aa_sI (aa_sI σ2 74 (w * 65536 + t) (nI Q)) 75 (w * 65536 + t) (nI (esL P w o (dv P t) L))) := by
  have ok := hM.1
  have pl : w * 65536 + t < 196608 := by omega
  rw [Nat.add_comm o w] at ih
  have loop : ∀ d m (σ1 : aa_St) (b : Bool) y9, 28 - m < d → m ≤ 28 → FrA [74, 75] σ σ1 → MMK Q (vE P (w + o)) σ1.1 → b = !decide (mlk P w (dv P t) (msT P m) = []) → aa_V mX12_keeperOfTwo (6 + f) 35 [some (.ref 63), some (.int (nI t)), some (.int (nI w)), some (.int (nI o)), some (.int (nI L)), some (.int (nI (w * 65536 + t))), some (.int (nI (esB P w o (dv P t) L (msT P m)))), some (.int (nI b.toNat)), some (.int (nI m)), y9] [] σ1 (fun ra σ' => ra = some (.int (nI (esL P w o (dv P t) L))) ∧ ∃ σ2, FrA [74, 75] σ σ2 ∧ MMK Q (vE P (w + o)) σ2.1 ∧ σ' = aa_sI (aa_sI σ2 74 (w * 65536 + t) (nI Q)) 75 (w * 65536 + t) (nI (esL P w o (dv P t) L))) := by
    intro d
    induction d with
    | zero => intro m σ1 b y9 g1; omega
    | succ d ihd =>
      intro m σ1 b y9 g1 g2 hF hK1 hb
      have hW1 := hF.W hW
      have hM1 := hM.fm hF
      have a3 : esB P w o (dv P t) L (msT P m) ≤ 3 := esB_le hw ho hL3
      refine aa_go (aa_iload8 iX12_keeperOfTwo_35) (aa_go (aa_bipush iX12_keeperOfTwo_37 kb_28) ?_)
      refine aa_ic_geN iX12_keeperOfTwo_39 (by omega) (by omega) (fun g3 => ?_) (fun g3 => ?_)
      · skip
        have em : m = 28 := by omega
        subst em
        have e2 : esB P w o (dv P t) L (msT P 28) = esL P w o (dv P t) L := by
          rw [ms_28 ok, esB, mlk_all, esL]
          by_cases c : pl_mv P w (dv P t) = 0
          · rw [if_pos c, if_pos (mv_0.mp c)]
          · rw [if_neg c, if_neg (fun q => c (mv_0.mpr q)), esV, es_of ok, if_neg c]
        rw [e2]
        have hS := m_keeps hW1 pl hK1.1 (nI (esL P w o (dv P t) L))
        refine aa_go (aa_aload0 iX12_keeperOfTwo_98) (aa_go (aa_iload5 iX12_keeperOfTwo_99) (aa_go (aa_iload6 iX12_keeperOfTwo_101) (aa_go (aa_cVi iX12_keeperOfTwo_103 (hS) (by omega) lc_X12_keeps lk_X12_186 (sh_63 hW1) rfl rfl (Nat.le_of_ble_eq_true rfl)) ?_)))
        refine aa_iret iX12_keeperOfTwo_106 rfl ?_
        exact ⟨rfl, σ1, hF, hK1, rfl⟩
      · skip
        refine aa_go (aa_aload0 iX12_keeperOfTwo_42) (aa_go (aa_iload1 iX12_keeperOfTwo_43) (aa_go (aa_iload2 iX12_keeperOfTwo_44) (aa_go (aa_iload8 iX12_keeperOfTwo_45) (aa_go (aa_cVi iX12_keeperOfTwo_47 (m_can hW1 hM1 ht (by omega) (by omega)) (by omega) lc_X12_can lk_X12_140 (sh_63 hW1) rfl rfl (Nat.le_of_ble_eq_true rfl)) ?_))))
        refine aa_if_eqB iX12_keeperOfTwo_50 (fun g5 => ?_) (fun g5 => ?_)
        · skip
          have e1 := mlk_cn_f ok g3 g5
          have e2 : esB P w o (dv P t) L (msT P (m + 1)) = esB P w o (dv P t) L (msT P m) := by rw [esB, esB, esA, esA, e1]
          rw [← e2]
          refine aa_go (aa_iincN8 (k := 1) iX12_keeperOfTwo_92 rfl (by decide)) (aa_go (aa_goto iX12_keeperOfTwo_95) ?_)
          exact ihd (m + 1) σ1 b _ (by omega) (by omega) hF hK1 (by rw [e1]; exact hb)
        · skip
          obtain ⟨j, hj, jl, -, lg, m1, m2⟩ := cn_t ok g5
          have mu := pl_mu_lt ok lg
          have al := af_lt ok ht g3
          have da := dv_af (t := t) ok hj
          obtain ⟨σ2, ⟨hF2, hK2⟩, hS2⟩ := ih (af P t m) σ1 (by rw [da]; omega) al hW1 hM1 hK1
          rw [da] at hS2
          have hW2 := hF2.W hW1
          have eA : esA P w o (dv P t) (msT P (m + 1)) = (esA P w o (dv P t) (msT P m) || !es P o w (pl_nx P (dv P t) j)) := by rw [m2, esA_t lg, m1]
          have ne : ¬ mlk P w (dv P t) (msT P (m + 1)) = [] := by rw [m2, mlk_t lg]; simp
          have yes : (mlk P w (dv P t) (msT P m) = [] ∨ esA P w o (dv P t) (msT P m) = false) → esV P o w (pl_nx P (dv P t) j) = esB P w o (dv P t) L (msT P (m + 1)) := by
            intro hy
            have : esA P w o (dv P t) (msT P m) = false := by
              rcases hy with hy | hy
              · rw [esA, hy]; rfl
              · exact hy
            rw [esB, if_neg ne, eA, this, esV]
            cases es P o w (pl_nx P (dv P t) j) <;> rfl
          have nxt := ihd (m + 1) σ2 true (some (.int (nI (esV P o w (pl_nx P (dv P t) j))))) (by omega) (by omega) (hF.tr hF2) hK2 (by rw [decide_eq_false ne]; rfl)
          refine aa_go (aa_aload0 iX12_keeperOfTwo_53) (aa_go (aa_aload0 iX12_keeperOfTwo_54) (aa_go (aa_iload1 iX12_keeperOfTwo_55) (aa_go (aa_iload8 iX12_keeperOfTwo_56) (aa_go (aa_cVi iX12_keeperOfTwo_58 (m_after hW1 hM1 g3 hj) (by omega) lc_X12_after lk_X12_137 (sh_63 hW1) rfl rfl (Nat.le_of_ble_eq_true rfl)) (aa_go (aa_iload3 iX12_keeperOfTwo_61) (aa_go (aa_iload2 iX12_keeperOfTwo_62) (aa_go (aa_iload2 iX12_keeperOfTwo_63) ?_)))))))
          refine aa_go (aa_cVi iX12_keeperOfTwo_64 (hS2) (by omega) lc_X12_keeperOfTwo lk_X12_302 (sh_63 hW1) rfl rfl (Nat.le_of_ble_eq_true rfl)) (aa_go (aa_istore9 iX12_keeperOfTwo_67 rfl (by decide)) (aa_go (aa_iload7 iX12_keeperOfTwo_69) ?_))
          refine aa_if_eqB iX12_keeperOfTwo_71 (fun g6 => ?_) (fun g6 => ?_)
          · skip
            rw [g6] at hb
            have : mlk P w (dv P t) (msT P m) = [] := by simpa using hb.symm
            rw [← yes (Or.inl this)] at nxt
            refine aa_go (aa_iload9 iX12_keeperOfTwo_80) (aa_go (aa_goto iX12_keeperOfTwo_82) (aa_go (aa_istore6 iX12_keeperOfTwo_87 rfl (by decide)) (aa_go (aa_iconst iX12_keeperOfTwo_89 ki_1) (aa_go (aa_istore7 iX12_keeperOfTwo_90 rfl (by decide)) (aa_go (aa_iincN8 (k := 1) iX12_keeperOfTwo_92 rfl (by decide)) (aa_go (aa_goto iX12_keeperOfTwo_95) ?_))))))
            exact nxt
          · skip
            rw [g6] at hb
            have hne : ¬ mlk P w (dv P t) (msT P m) = [] := by simpa using hb.symm
            refine aa_go (aa_iload6 iX12_keeperOfTwo_74) (aa_go (aa_iload2 iX12_keeperOfTwo_76) ?_)
            refine aa_ic_neN iX12_keeperOfTwo_77 (by omega) (by omega) (fun g7 => ?_) (fun g7 => ?_)
            · skip
              have : esA P w o (dv P t) (msT P m) = true := by
                rw [esB, if_neg hne] at g7
                cases q : esA P w o (dv P t) (msT P m) with
                | true => rfl
                | false => rw [q] at g7; simp at g7
              have e3 : esB P w o (dv P t) L (msT P (m + 1)) = esB P w o (dv P t) L (msT P m) := by
                rw [esB, if_neg ne, eA, this, esB, if_neg hne, this]; rfl
              rw [e3] at nxt
              refine aa_go (aa_iload6 iX12_keeperOfTwo_85) (aa_go (aa_istore6 iX12_keeperOfTwo_87 rfl (by decide)) (aa_go (aa_iconst iX12_keeperOfTwo_89 ki_1) (aa_go (aa_istore7 iX12_keeperOfTwo_90 rfl (by decide)) (aa_go (aa_iincN8 (k := 1) iX12_keeperOfTwo_92 rfl (by decide)) (aa_go (aa_goto iX12_keeperOfTwo_95) ?_)))))
              exact nxt
            · skip
              have : esA P w o (dv P t) (msT P m) = false := by
                rw [esB, if_neg hne] at g7
                cases q : esA P w o (dv P t) (msT P m) with
                | false => rfl
                | true => rw [q] at g7; simp at g7; omega
              rw [← yes (Or.inr this)] at nxt
              refine aa_go (aa_iload9 iX12_keeperOfTwo_80) (aa_go (aa_goto iX12_keeperOfTwo_82) (aa_go (aa_istore6 iX12_keeperOfTwo_87 rfl (by decide)) (aa_go (aa_iconst iX12_keeperOfTwo_89 ki_1) (aa_go (aa_istore7 iX12_keeperOfTwo_90 rfl (by decide)) (aa_go (aa_iincN8 (k := 1) iX12_keeperOfTwo_92 rfl (by decide)) (aa_go (aa_goto iX12_keeperOfTwo_95) ?_))))))
              exact nxt
  have e0 : esB P w o (dv P t) L (msT P 0) = L := by rw [ms_0]; rfl
  have := loop 29 0 σ false none (by omega) (by omega) FrA.rf hK (by rw [ms_0]; rfl)
  rw [e0] at this
  exact this
end
