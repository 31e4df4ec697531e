/-! THE REFERENCE: first moves as the class has them; reach -/
section
variable {P : pl_T}
theorem ffm_all (ok : pl_ok P) (lk w s : Nat) : ffm P lk w s (pl_n P + pl_b P) = ffk P lk w s (pl_n P + pl_b P) := by
  rw [ffm, ffk, fst1]
  by_cases c : pl_mv P w s = 0
  · rw [mlk_all, mv_0.mp c]; rfl
  · rw [show (kpA P lk w s (pl_n P + pl_b P)).2 = kpB P lk w s by rw [kpB, if_neg c, kp_eq ok, if_neg c]]; rfl
theorem sm_cg {a b : Nat} : ∀ k, (∀ i, i < k → a.testBit i = b.testBit i) → pl_sm P a k = pl_sm P b k
  | 0, _ => rfl
  | k + 1, h => by rw [pl_sm, pl_sm, sm_cg k (fun i hi => h i (by omega)), h k (by omega)]
theorem sm_bd (ok : pl_ok P) (a : Nat) : ∀ k, k ≤ pl_n P → pl_sm P a k ≤ 9 * k
  | 0, _ => Nat.le_refl _
  | k + 1, h => by
    have := sm_bd ok a k (by omega)
    have := (ok.2.2.1 k (by omega)).1
    rw [pl_sm]; split <;> omega
end
section
variable {r : Nat → Nat} {dy : List aa_Shp} {P : pl_T} {σ : aa_St}
theorem m_reach (hW : aa_W r dy σ) (hM : MP P σ.1) {t h : Nat} (ht : t < 65536) (he : σ.1 63 10 = nI t) (hh : h ≤ 3) : aa_SX mX12_reach 4 [.ref 63, .int (nI h)] σ (some (.int (nI (pl_wo P (pl_orA (pl_cl P) (tS P h (dv P t)) (pl_n P) &&& t))))) σ := by
  have ok := hM.1
  have h14 := ok.1
  obtain ⟨-, a1, -, a3, -⟩ := id hM
  have p14 : 2 ^ pl_n P ≤ 16384 := Nat.pow_le_pow_right (by decide : 0 < 2) h14
  generalize hX : pl_orA (pl_cl P) (tS P h (dv P t)) (pl_n P) = X
  have xa : X &&& t < 65536 := Nat.lt_of_le_of_lt Nat.and_le_right ht
  have two : ∀ f m, pl_n P - m < f → m ≤ pl_n P → aa_V mX12_reach 4 53 [some (.ref 63), some (.int (nI h)), some (.int (nI X)), some (.int (nI (pl_sm P (X &&& t) m))), some (.int (nI m))] [] σ (fun ra σ' => ra = some (.int (nI (pl_wo P (X &&& t)))) ∧ σ' = σ) := by
    intro f
    induction f with
    | zero => intro m g1; omega
    | succ f ih =>
      intro m g1 g2
      refine aa_go (aa_iload4 iX12_reach_53) (aa_go (aa_aload0 iX12_reach_55) (aa_go (aa_getE iX12_reach_56 fl_X12_78 (sh_63 hW) rfl a1) ?_))
      refine aa_ic_geN iX12_reach_59 (by omega) (by omega) (fun g3 => ?_) (fun g3 => ?_)
      · skip
        have e : m = pl_n P := by omega
        subst e
        refine aa_go (aa_iload3 iX12_reach_96) ?_
        refine aa_iret iX12_reach_97 rfl ?_
        exact ⟨rfl, rfl⟩
      · skip
        have nxt := ih (m + 1) (by omega) (by omega)
        rw [pl_sm] at nxt
        refine aa_go (aa_iload3 iX12_reach_62) (aa_go (aa_iload2 iX12_reach_63) (aa_go (aa_aload0 iX12_reach_64) (aa_go (aa_getE iX12_reach_65 fl_X12_99 (sh_63 hW) rfl he) (aa_go (aa_iandN iX12_reach_68 ) (aa_go (aa_iload4 iX12_reach_69) (aa_go (aa_cSi iX12_reach_71 (m_has (by omega) (by omega)) (by omega) lc_X12_has lk_X12_95 rfl (Nat.le_of_ble_eq_true rfl)) ?_))))))
        refine aa_if_eqB iX12_reach_74 (fun g4 => ?_) (fun g4 => ?_)
        · skip
          rw [g4] at nxt
          refine aa_go (aa_iconst iX12_reach_87 ki_0) (aa_go (aa_iaddN iX12_reach_88 ) (aa_go (aa_istore3 iX12_reach_89 rfl (by decide)) (aa_go (aa_iincN4 (k := 1) iX12_reach_90 rfl (by decide)) (aa_go (aa_goto iX12_reach_93) ?_))))
          exact nxt
        · skip
          rw [g4] at nxt
          refine aa_go (aa_aload0 iX12_reach_77) (aa_go (aa_getR iX12_reach_78 fl_X12_54 (sh_63 hW) rfl) (aa_go (aa_iload4 iX12_reach_81) (aa_go (aa_ialE iX12_reach_83 (sh_65 hW) (by omega) (by omega) ((a3 m g3).1)) (aa_go (aa_goto iX12_reach_84) (aa_go (aa_iaddN iX12_reach_88 ) (aa_go (aa_istore3 iX12_reach_89 rfl (by decide)) (aa_go (aa_iincN4 (k := 1) iX12_reach_90 rfl (by decide)) ?_)))))))
          refine aa_go (aa_goto iX12_reach_93) ?_
          exact nxt
  have one : ∀ f m, pl_n P - m < f → m ≤ pl_n P → aa_V mX12_reach 4 4 [some (.ref 63), some (.int (nI h)), some (.int (nI (pl_orA (pl_cl P) (tS P h (dv P t)) m))), some (.int (nI m)), none] [] σ (fun ra σ' => ra = some (.int (nI (pl_wo P (X &&& t)))) ∧ σ' = σ) := by
    intro f
    induction f with
    | zero => intro m g1; omega
    | succ f ih =>
      intro m g1 g2
      refine aa_go (aa_iload3 iX12_reach_4) (aa_go (aa_aload0 iX12_reach_5) (aa_go (aa_getE iX12_reach_6 fl_X12_78 (sh_63 hW) rfl a1) ?_))
      refine aa_ic_geN iX12_reach_9 (by omega) (by omega) (fun g3 => ?_) (fun g3 => ?_)
      · skip
        have e : m = pl_n P := by omega
        subst e
        rw [hX]
        refine aa_go (aa_iconst iX12_reach_48 ki_0) (aa_go (aa_istore3 iX12_reach_49 rfl (by decide)) (aa_go (aa_iconst iX12_reach_50 ki_0) (aa_go (aa_istore4 iX12_reach_51 rfl (by decide)) ?_)))
        exact two (pl_n P + 1) 0 (by omega) (by omega)
      · skip
        have nxt := ih (m + 1) (by omega) (by omega)
        rw [pl_orA, tS_lg g3] at nxt
        have cl := cnM_lo ok (w := h) (t := t) (show m < 14 by omega)
        rw [decide_eq_true g3, Bool.true_and] at cl
        rw [← cl] at nxt
        refine aa_go (aa_iload2 iX12_reach_12) (aa_go (aa_aload0 iX12_reach_13) (aa_go (aa_aload0 iX12_reach_14) (aa_go (aa_getE iX12_reach_15 fl_X12_99 (sh_63 hW) rfl he) (aa_go (aa_iload1 iX12_reach_18) (aa_go (aa_iload3 iX12_reach_19) (aa_go (aa_cVi iX12_reach_20 (m_can hW hM ht hh (by omega)) (by omega) lc_X12_can lk_X12_140 (sh_63 hW) rfl rfl (Nat.le_of_ble_eq_true rfl)) ?_))))))
        refine aa_if_eqB iX12_reach_23 (fun g4 => ?_) (fun g4 => ?_)
        · skip
          rw [g4] at nxt
          refine aa_go (aa_iconst iX12_reach_39 ki_0) (aa_go (aa_iorN iX12_reach_40 ) ?_)
          refine aa_go (aa_top (y := nI (pl_orA (pl_cl P) (tS P h (dv P t)) m)) (by rw [Nat.or_zero])) ?_
          refine aa_go (aa_istore2 iX12_reach_41 rfl (by decide)) (aa_go (aa_iincN3 (k := 1) iX12_reach_42 rfl (by decide)) (aa_go (aa_goto iX12_reach_45) ?_))
          exact nxt
        · skip
          rw [g4, if_pos rfl] at nxt
          refine aa_go (aa_iconst iX12_reach_26 ki_1) (aa_go (aa_iload3 iX12_reach_27) (aa_go (aa_ishlN iX12_reach_28 (by omega)) (aa_go (aa_aload0 iX12_reach_29) (aa_go (aa_getR iX12_reach_30 fl_X12_92 (sh_63 hW) rfl) (aa_go (aa_iload3 iX12_reach_33) (aa_go (aa_ialE iX12_reach_34 (sh_68 hW) (by omega) (by omega) ((a3 m g3).2.2.2)) (aa_go (aa_iorN iX12_reach_35 ) ?_)))))))
          refine aa_go (aa_goto iX12_reach_36) (aa_go (aa_iorN iX12_reach_40 ) ?_)
          refine aa_go (aa_top (y := nI (pl_orA (pl_cl P) (tS P h (dv P t)) m ||| pl_cl P m)) (by rw [pl_cl, Nat.shiftLeft_eq, Nat.one_mul, Nat.or_comm (2 ^ m)])) ?_
          refine aa_go (aa_istore2 iX12_reach_41 rfl (by decide)) (aa_go (aa_iincN3 (k := 1) iX12_reach_42 rfl (by decide)) (aa_go (aa_goto iX12_reach_45) ?_))
          exact nxt
  have key : aa_V mX12_reach 4 0 [some (.ref 63), some (.int (nI h)), none, none, none] [] σ (fun ra σ' => ra = some (.int (nI (pl_wo P (X &&& t)))) ∧ σ' = σ) := by
    refine aa_go (aa_iconst iX12_reach_0 ki_0) (aa_go (aa_istore2 iX12_reach_1 rfl (by decide)) (aa_go (aa_iconst iX12_reach_2 ki_0) (aa_go (aa_istore3 iX12_reach_3 rfl (by decide)) ?_)))
    exact one (pl_n P + 1) 0 (by omega) (by omega)
  obtain ⟨ra, σ', ⟨rfl, rfl⟩, hS9⟩ := aa_S_of (avs := [.ref 63, .int (nI h)]) (by decide) 3 [some (.ref 63), some (.int (nI h)), none, none, none] rfl rfl key
  exact hS9
end
