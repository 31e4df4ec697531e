/-! THE REFERENCE: values; how much more one gets -/
section
variable {P : pl_T}
theorem ms_le (ok : pl_ok P) {m : Nat} (hm : m ≤ 28) : msT P m ≤ pl_n P + pl_b P := by
  have : ∀ d, m + d ≤ 28 → msT P m ≤ msT P (m + d) := by
    intro d
    induction d with
    | zero => intro _; exact Nat.le_refl _
    | succ d ih2 =>
      intro hd
      have i1 := ih2 (by omega)
      rw [show m + (d + 1) = m + d + 1 by omega]
      cases q : pl_sp P (m + d) with
      | none => rw [ms_none ok (by omega) q]; exact i1
      | some j => have := ms_some ok (show m + d < 28 by omega) q; omega
  have := this (28 - m) (by omega)
  rw [show m + (28 - m) = 28 by omega, ms_28 ok] at this
  exact this
end
def vV (P : pl_T) (p : Nat) : Int32 := nI (vl P (dv P p))
section
variable {r : Nat → Nat} {dy : List aa_Shp} {P : pl_T} {Q : Nat}
theorem m_leadsTo {D t : Nat} {σ : aa_St} (ht : t < 65536) (hW : aa_W r dy σ) (hM : MP P σ.1) (hK : MMK Q (vV P) σ.1) (hD : 4 ≤ D)
    (ih : ∀ t2 (σ : aa_St), pl_mu P (dv P t2) < pl_mu P (dv P t) → t2 < 65536 → aa_W r dy σ → MP P σ.1 → MMK Q (vV P) σ.1 → ∃ σ' : aa_St, (FrA [74, 75] σ σ' ∧ MMK Q (vV P) σ'.1) ∧ aa_SX mX12_valueOf D [.ref 63, .int (nI t2)] σ (some (.int (nI (vl P (dv P t2))))) σ') :
    ∃ σ' : aa_St, (FrA [74, 75] σ σ' ∧ MMK Q (vV P) σ'.1) ∧ aa_SX mX12_leadsTo (D + 1) [.ref 63, .int (nI t)] σ (some (.int (nI (vlb P (dv P t) (pl_n P + pl_b P))))) σ' := by
  have ok := hM.1
  have loop : ∀ d m (σ1 : aa_St), 28 - m < d → m ≤ 28 → FrA [74, 75] σ σ1 → MMK Q (vV P) σ1.1 → aa_V mX12_leadsTo (D + 1) 4 [some (.ref 63), some (.int (nI t)), some (.int (nI (vlb P (dv P t) (msT P m)))), some (.int (nI m))] [] σ1 (fun ra σ' => ra = some (.int (nI (vlb P (dv P t) (pl_n P + pl_b P)))) ∧ FrA [74, 75] σ σ' ∧ MMK Q (vV P) σ'.1) := by
    intro d
    induction d with
    | zero => intro m σ1 g1; omega
    | succ d ihd =>
      intro m σ1 g1 g2 hF hK1
      have hW1 := hF.W hW
      have hM1 := hM.fm hF
      refine aa_go (aa_iload3 iX12_leadsTo_4) (aa_go (aa_bipush iX12_leadsTo_5 kb_28) ?_)
      refine aa_ic_geN iX12_leadsTo_7 (by omega) (by omega) (fun g3 => ?_) (fun g3 => ?_)
      · skip
        have em : m = 28 := by omega
        subst em
        rw [ms_28 ok]
        refine aa_go (aa_iload2 iX12_leadsTo_45) ?_
        refine aa_iret iX12_leadsTo_46 rfl ?_
        exact ⟨rfl, hF, hK1⟩
      · skip
        refine aa_go (aa_iload2 iX12_leadsTo_10) (aa_go (aa_aload0 iX12_leadsTo_11) (aa_go (aa_iload1 iX12_leadsTo_12) (aa_go (aa_iconst iX12_leadsTo_13 ki_3) (aa_go (aa_iload3 iX12_leadsTo_14) (aa_go (aa_cVi iX12_leadsTo_15 (m_can hW1 hM1 ht (by omega) (by omega)) (by omega) lc_X12_can lk_X12_140 (sh_63 hW1) rfl rfl (Nat.le_of_ble_eq_true rfl)) ?_)))))
        refine aa_if_eqB iX12_leadsTo_18 (fun g5 => ?_) (fun g5 => ?_)
        · skip
          have e1 : vlb P (dv P t) (msT P (m + 1)) = vlb P (dv P t) (msT P m) := by rw [vlb, vlb, mlk_cn_f ok g3 g5]
          have nxt := ihd (m + 1) σ1 (by omega) (by omega) hF hK1
          rw [e1] at nxt
          refine aa_go (aa_iconst iX12_leadsTo_36 ki_0) (aa_go (aa_iorN iX12_leadsTo_37 ) ?_)
          refine aa_go (aa_top (y := nI (vlb P (dv P t) (msT P m))) (by rw [Nat.or_zero])) ?_
          refine aa_go (aa_istore2 iX12_leadsTo_38 rfl (by decide)) (aa_go (aa_iincN3 (k := 1) iX12_leadsTo_39 rfl (by decide)) (aa_go (aa_goto iX12_leadsTo_42) ?_))
          exact nxt
        · skip
          obtain ⟨j, hj, jl, -, lg, m1, m2⟩ := cn_t ok g5
          have mu := pl_mu_lt ok lg
          have al := af_lt ok ht g3
          have da := dv_af (t := t) ok hj
          obtain ⟨σ2, ⟨hF2, hK2⟩, hS2⟩ := ih (af P t m) σ1 (by rw [da]; omega) al hW1 hM1 hK1
          rw [da] at hS2
          have vle := vl_le ok (pl_nx P (dv P t) j)
          have e1 : vlb P (dv P t) (msT P (m + 1)) = vlb P (dv P t) (msT P m) ||| 2 ^ vl P (pl_nx P (dv P t) j) := by rw [m2, vlb_t lg, ← m1]
          have nxt := ihd (m + 1) σ2 (by omega) (by omega) (hF.tr hF2) hK2
          rw [e1] at nxt
          refine aa_go (aa_iconst iX12_leadsTo_21 ki_1) (aa_go (aa_aload0 iX12_leadsTo_22) (aa_go (aa_aload0 iX12_leadsTo_23) (aa_go (aa_iload1 iX12_leadsTo_24) (aa_go (aa_iload3 iX12_leadsTo_25) (aa_go (aa_cVi iX12_leadsTo_26 (m_after hW1 hM1 g3 hj) (by omega) lc_X12_after lk_X12_137 (sh_63 hW1) rfl rfl (Nat.le_of_ble_eq_true rfl)) (aa_go (aa_cVi iX12_leadsTo_29 (hS2) (by omega) lc_X12_valueOf lk_X12_224 (sh_63 hW1) rfl rfl (Nat.le_of_ble_eq_true rfl)) (aa_go (aa_ishlN iX12_leadsTo_32 (by omega)) ?_)))))))
          refine aa_go (aa_goto iX12_leadsTo_33) (aa_go (aa_iorN iX12_leadsTo_37 ) ?_)
          refine aa_go (aa_top (y := nI (vlb P (dv P t) (msT P m) ||| 2 ^ vl P (pl_nx P (dv P t) j))) (by rw [Nat.one_shiftLeft])) ?_
          refine aa_go (aa_istore2 iX12_leadsTo_38 rfl (by decide)) (aa_go (aa_iincN3 (k := 1) iX12_leadsTo_39 rfl (by decide)) (aa_go (aa_goto iX12_leadsTo_42) ?_))
          exact nxt
  have key : aa_V mX12_leadsTo (D + 1) 0 [some (.ref 63), some (.int (nI t)), none, none] [] σ (fun ra σ' => ra = some (.int (nI (vlb P (dv P t) (pl_n P + pl_b P)))) ∧ FrA [74, 75] σ σ' ∧ MMK Q (vV P) σ'.1) := by
    have l0 := loop 29 0 σ (by omega) (by omega) FrA.rf hK
    rw [ms_0] at l0
    refine aa_go (aa_iconst iX12_leadsTo_0 ki_0) (aa_go (aa_istore2 iX12_leadsTo_1 rfl (by decide)) (aa_go (aa_iconst iX12_leadsTo_2 ki_0) (aa_go (aa_istore3 iX12_leadsTo_3 rfl (by decide)) ?_)))
    exact l0
  obtain ⟨ra, σ', ⟨rfl, h1⟩, hS9⟩ := aa_S_of (avs := [.ref 63, .int (nI t)]) (by decide) 2 [some (.ref 63), some (.int (nI t)), none, none] rfl rfl key
  exact ⟨σ', h1, hS9⟩
theorem m_valueOf : ∀ f t (σ : aa_St), pl_mu P (dv P t) ≤ f → t < 65536 → aa_W r dy σ → MP P σ.1 → MMK Q (vV P) σ.1 → ∃ σ' : aa_St, (FrA [74, 75] σ σ' ∧ MMK Q (vV P) σ'.1) ∧ aa_SX mX12_valueOf (6 + 2 * f) [.ref 63, .int (nI t)] σ (some (.int (nI (vl P (dv P t))))) σ' := by
  intro f
  induction f with
  | zero =>
    intro t σ hf ht hW hM hK
    have ok := hM.1
    obtain ⟨σ1, ⟨hF1, hK1⟩, hS1⟩ := m_leadsTo (D := 4) ht hW hM hK (by omega) (fun t2 σ h => by omega)
    have hW1 := hF1.W hW
    have lz1 := lz_spec (vlb P (dv P t) (pl_n P + pl_b P))
    rw [← vl_eq ok] at lz1
    have vle := vl_le ok (dv P t)
    obtain ⟨q, hq1, hq2, hq3⟩ := hK.2.2 t (by omega)
    have hQ := hK.2.1
    have key : aa_V mX12_valueOf (6 + 2 * 0) 0 [some (.ref 63), some (.int (nI t))] [] σ (fun ra σ' => ra = some (.int (nI (vl P (dv P t)))) ∧ FrA [74, 75] σ σ' ∧ MMK Q (vV P) σ'.1) := by
      refine aa_go (aa_aload0 iX12_valueOf_0) (aa_go (aa_iload1 iX12_valueOf_1) (aa_go (aa_cVi iX12_valueOf_2 (m_isKnown hW (by omega) hq2 hK.1 (by omega) (by omega)) (by omega) lc_X12_isKnown lk_X12_180 (sh_63 hW) rfl rfl (Nat.le_of_ble_eq_true rfl)) ?_))
      refine aa_if_eqB iX12_valueOf_5 (fun g1 => ?_) (fun g1 => ?_)
      · skip
        refine aa_go (aa_aload0 iX12_valueOf_15) (aa_go (aa_iload1 iX12_valueOf_16) (aa_go (aa_aload0 iX12_valueOf_17) (aa_go (aa_iload1 iX12_valueOf_18) (aa_go (aa_cVi iX12_valueOf_19 (hS1) (by omega) lc_X12_leadsTo lk_X12_227 (sh_63 hW) rfl rfl (Nat.le_of_ble_eq_true rfl)) ?_))))
        refine aa_go (aa_iconst iX12_valueOf_22 ki_m1) (aa_go (aa_ixor iX12_valueOf_23) (aa_go (aa_cSi iX12_valueOf_24 (c_ntz (lb_not (by omega) lz1.1 lz1.2)) (by omega) lc_J6_numberOfTrailingZeros_0f7a4 lk_X12_217 rfl (Nat.le_of_ble_eq_true rfl)) (aa_go (aa_cVi iX12_valueOf_27 (m_keeps hW1 (by omega) hK1.1 (vV P t)) (by omega) lc_X12_keeps lk_X12_186 (sh_63 hW1) rfl rfl (Nat.le_of_ble_eq_true rfl)) ?_)))
        refine aa_iret iX12_valueOf_30 rfl ?_
        exact ⟨rfl, (hF1.s (by decide) _ _).s (by decide) _ _, hK1.set⟩
      · skip
        have hq4 : σ.1 75 t = nI (vl P (dv P t)) := hq3 (of_decide_eq_true g1)
        refine aa_go (aa_aload0 iX12_valueOf_8) (aa_go (aa_getR iX12_valueOf_9 fl_X12_174 (sh_63 hW) rfl) (aa_go (aa_iload1 iX12_valueOf_12) (aa_go (aa_ialE iX12_valueOf_13 (sh_75 hW) (by omega) (by omega) (hq4)) ?_)))
        refine aa_iret iX12_valueOf_14 rfl ?_
        exact ⟨rfl, FrA.rf, hK⟩
    obtain ⟨ra, σ', ⟨rfl, h1⟩, hS9⟩ := aa_S_of (avs := [.ref 63, .int (nI t)]) (by decide) 0 [some (.ref 63), some (.int (nI t))] rfl rfl key
    exact ⟨σ', h1, hS9⟩
  | succ f ihf =>
    intro t σ hf ht hW hM hK
    have ok := hM.1
    obtain ⟨σ1, ⟨hF1, hK1⟩, hS1⟩ := m_leadsTo (D := 6 + 2 * f) ht hW hM hK (by omega) (fun t2 σ h h2 h3 h4 h5 => ihf t2 σ (by omega) h2 h3 h4 h5)
    have hW1 := hF1.W hW
    have lz1 := lz_spec (vlb P (dv P t) (pl_n P + pl_b P))
    rw [← vl_eq ok] at lz1
    have vle := vl_le ok (dv P t)
    obtain ⟨q, hq1, hq2, hq3⟩ := hK.2.2 t (by omega)
    have hQ := hK.2.1
    have key : aa_V mX12_valueOf (6 + 2 * (f + 1)) 0 [some (.ref 63), some (.int (nI t))] [] σ (fun ra σ' => ra = some (.int (nI (vl P (dv P t)))) ∧ FrA [74, 75] σ σ' ∧ MMK Q (vV P) σ'.1) := by
      refine aa_go (aa_aload0 iX12_valueOf_0) (aa_go (aa_iload1 iX12_valueOf_1) (aa_go (aa_cVi iX12_valueOf_2 (m_isKnown hW (by omega) hq2 hK.1 (by omega) (by omega)) (by omega) lc_X12_isKnown lk_X12_180 (sh_63 hW) rfl rfl (Nat.le_of_ble_eq_true rfl)) ?_))
      refine aa_if_eqB iX12_valueOf_5 (fun g1 => ?_) (fun g1 => ?_)
      · skip
        refine aa_go (aa_aload0 iX12_valueOf_15) (aa_go (aa_iload1 iX12_valueOf_16) (aa_go (aa_aload0 iX12_valueOf_17) (aa_go (aa_iload1 iX12_valueOf_18) (aa_go (aa_cVi iX12_valueOf_19 (hS1) (by omega) lc_X12_leadsTo lk_X12_227 (sh_63 hW) rfl rfl (Nat.le_of_ble_eq_true rfl)) ?_))))
        refine aa_go (aa_iconst iX12_valueOf_22 ki_m1) (aa_go (aa_ixor iX12_valueOf_23) (aa_go (aa_cSi iX12_valueOf_24 (c_ntz (lb_not (by omega) lz1.1 lz1.2)) (by omega) lc_J6_numberOfTrailingZeros_0f7a4 lk_X12_217 rfl (Nat.le_of_ble_eq_true rfl)) (aa_go (aa_cVi iX12_valueOf_27 (m_keeps hW1 (by omega) hK1.1 (vV P t)) (by omega) lc_X12_keeps lk_X12_186 (sh_63 hW1) rfl rfl (Nat.le_of_ble_eq_true rfl)) ?_)))
        refine aa_iret iX12_valueOf_30 rfl ?_
        exact ⟨rfl, (hF1.s (by decide) _ _).s (by decide) _ _, hK1.set⟩
      · skip
        have hq4 : σ.1 75 t = nI (vl P (dv P t)) := hq3 (of_decide_eq_true g1)
        refine aa_go (aa_aload0 iX12_valueOf_8) (aa_go (aa_getR iX12_valueOf_9 fl_X12_174 (sh_63 hW) rfl) (aa_go (aa_iload1 iX12_valueOf_12) (aa_go (aa_ialE iX12_valueOf_13 (sh_75 hW) (by omega) (by omega) (hq4)) ?_)))
        refine aa_iret iX12_valueOf_14 rfl ?_
        exact ⟨rfl, FrA.rf, hK⟩
    obtain ⟨ra, σ', ⟨rfl, h1⟩, hS9⟩ := aa_S_of (avs := [.ref 63, .int (nI t)]) (by decide) 0 [some (.ref 63), some (.int (nI t))] rfl rfl key
    exact ⟨σ', h1, hS9⟩
end
