/-! THE REFERENCE: three heirs -/
def lkF (lk h : Nat) : Nat := if lk.testBit h then nx3 (nx3 h) else nx3 h
def lkM (lk h k : Nat) : Nat := if k = 3 then 3 else lkd lk h k
def ML3 (lk : Nat) (i : Nat → Nat → Int32) : Prop := lk < 8 ∧ ∀ h, h ≤ 2 → i 80 h = nI (lkF lk h)
theorem lkd_0 {lk h k : Nat} : lkd lk h k = 0 ↔ k = h := by
  unfold lkd
  split
  · simp [*]
  · split <;> simp [*]
theorem lkF_le (lk h : Nat) (hh : h ≤ 2) : lkF lk h ≤ 2 := by
  unfold lkF
  split
  · exact nx3_le (nx3_le hh)
  · exact nx3_le hh
theorem lkM_eq {lk h k : Nat} (hh : h ≤ 2) (hk : k ≤ 3) : lkM lk h k = if k = 3 then 3 else if k = h then 0 else if k = lkF lk h then 2 else 1 := by
  unfold lkM
  by_cases c3 : k = 3
  · rw [if_pos c3, if_pos c3]
  · rw [if_neg c3, if_neg c3]
    unfold lkd
    by_cases ch : k = h
    · rw [if_pos ch, if_pos ch]
    · rw [if_neg ch, if_neg ch]
      have key : (decide (k = nx3 h) = !lk.testBit h) = (k = lkF lk h) := by
        apply propext
        unfold lkF
        cases lk.testBit h with
        | false => simp
        | true =>
          simp
          unfold nx3
          split <;> split <;> omega
      simp only [key]
theorem nx3_mod {h : Nat} (hh : h ≤ 2) : (h + 1) % 3 = nx3 h := by unfold nx3; split <;> omega
def kpC (P : pl_T) (lk w s j : Nat) : Nat := kp P lk (nx3 w) (pl_nx P s j)
def ffm (P : pl_T) (lk w s k : Nat) : Option Nat := (mlk P w s k).find? (fun j => kpC P lk w s j == (kpA P lk w s k).2)
def vP (P : pl_T) (lk p : Nat) : Int32 := nI (kp P lk (p / 65536) (dv P (p % 65536)))
theorem vP_at (P : pl_T) {lk w t : Nat} (ht : t < 65536) : vP P lk (w * 65536 + t) = nI (kp P lk w (dv P t)) := by
  rw [vP, (pl_div ht).1, (pl_div ht).2]
section
variable {P : pl_T} {lk : Nat}
theorem kpA_inv (w s : Nat) : ∀ k, (kpA P lk w s k).1 = lkd lk w (kpA P lk w s k).2 ∧ (∀ j, j ∈ mlk P w s k → lkd lk w (kpC P lk w s j) ≤ (kpA P lk w s k).1) ∧ (mlk P w s k ≠ [] → ∃ j, j ∈ mlk P w s k ∧ kpC P lk w s j = (kpA P lk w s k).2) ∧ (mlk P w s k = [] → kpA P lk w s k = (0, w))
  | 0 => ⟨(lkd_0.mpr rfl).symm, fun j hj => absurd hj List.not_mem_nil, fun h => absurd rfl h, fun _ => rfl⟩
  | k + 1 => by
    obtain ⟨i1, i2, i3, i4⟩ := kpA_inv w s k
    cases hl : pl_lg P w s k with
    | false => rw [mlk_f hl, kpA_f hl]; exact ⟨i1, i2, i3, i4⟩
    | true =>
      have e : kpA P lk w s (k + 1) = if (kpA P lk w s k).1 < lkd lk w (kpC P lk w s k) then (lkd lk w (kpC P lk w s k), kpC P lk w s k) else kpA P lk w s k := kpA_t hl
      rw [mlk_t hl, e]
      by_cases c : (kpA P lk w s k).1 < lkd lk w (kpC P lk w s k)
      · rw [if_pos c]
        refine ⟨rfl, fun j hj => ?_, fun _ => ⟨k, by simp, rfl⟩, fun h => by simp at h⟩
        rcases List.mem_append.mp hj with h1 | h1
        · have := i2 j h1; show _ ≤ lkd lk w (kpC P lk w s k); omega
        · simp at h1; subst h1; exact Nat.le_refl _
      · rw [if_neg c]
        refine ⟨i1, fun j hj => ?_, fun _ => ?_, fun h => by simp at h⟩
        · rcases List.mem_append.mp hj with h1 | h1
          · exact i2 j h1
          · simp at h1; subst h1; omega
        · by_cases c0 : mlk P w s k = []
          · refine ⟨k, by simp, ?_⟩
            have e0 := i4 c0
            rw [e0] at c ⊢
            exact lkd_0.mp (by simp at c; exact c)
          · obtain ⟨j, h1, h2⟩ := i3 c0
            exact ⟨j, List.mem_append_left _ h1, h2⟩
theorem ffm_new {w s k : Nat} (hl : pl_lg P w s k = true) (h : mlk P w s k = [] ∨ (kpA P lk w s k).1 < lkd lk w (kpC P lk w s k)) : (kpA P lk w s (k + 1)).2 = kpC P lk w s k ∧ ffm P lk w s (k + 1) = some k := by
  obtain ⟨i1, i2, i3, i4⟩ := kpA_inv (P := P) (lk := lk) w s k
  have e : kpA P lk w s (k + 1) = if (kpA P lk w s k).1 < lkd lk w (kpC P lk w s k) then (lkd lk w (kpC P lk w s k), kpC P lk w s k) else kpA P lk w s k := kpA_t hl
  have e1 : (kpA P lk w s (k + 1)).2 = kpC P lk w s k := by
    rw [e]
    by_cases c : (kpA P lk w s k).1 < lkd lk w (kpC P lk w s k)
    · rw [if_pos c]
    · rw [if_neg c]
      have c0 := h.resolve_right c
      rw [i4 c0] at c ⊢
      exact (lkd_0.mp (by simp at c; exact c)).symm
  refine ⟨e1, ?_⟩
  rw [ffm, e1, mlk_t hl, List.find?_append]
  have : (mlk P w s k).find? (fun j => kpC P lk w s j == kpC P lk w s k) = none := by
    rw [List.find?_eq_none]
    intro j hj
    rcases h with h | h
    · rw [h] at hj; exact absurd hj List.not_mem_nil
    · have := i2 j hj
      simp
      intro q
      rw [q] at this
      omega
  rw [this]; simp
theorem ffm_old {w s k : Nat} (hl : pl_lg P w s k = true) (h : mlk P w s k ≠ []) (h2 : ¬ (kpA P lk w s k).1 < lkd lk w (kpC P lk w s k)) : kpA P lk w s (k + 1) = kpA P lk w s k ∧ ffm P lk w s (k + 1) = ffm P lk w s k := by
  have e : kpA P lk w s (k + 1) = if (kpA P lk w s k).1 < lkd lk w (kpC P lk w s k) then (lkd lk w (kpC P lk w s k), kpC P lk w s k) else kpA P lk w s k := kpA_t hl
  rw [if_neg h2] at e
  refine ⟨e, ?_⟩
  rw [ffm, ffm, e, mlk_t hl, List.find?_append]
  obtain ⟨j, h3, h4⟩ := (kpA_inv (P := P) (lk := lk) w s k).2.2.1 h
  cases q : (mlk P w s k).find? (fun j => kpC P lk w s j == (kpA P lk w s k).2) with
  | some x => rfl
  | none =>
    rw [List.find?_eq_none] at q
    have := q j h3
    simp at this
    exact absurd h4 this
end
def kpL (P : pl_T) (lk w s L : Nat) : Nat := if pl_mv P w s = 0 then L else kp P lk w s
section
variable {r : Nat → Nat} {dy : List aa_Shp} {P : pl_T} {Q lk : Nat}
theorem m_liking {σ : aa_St} (hW : aa_W r dy σ) (hL : ML3 lk σ.1) {h k : Nat} (hh : h ≤ 2) (hk : k ≤ 3) : aa_SX mX12_liking 1 [.ref 63, .int (nI h), .int (nI k)] σ (some (.int (nI (lkM lk h k)))) σ := by
  have fl := lkF_le lk h hh
  rw [lkM_eq hh hk]
  refine aa_E_of (by decide) 0 [some (.ref 63), some (.int (nI h)), some (.int (nI k))] rfl rfl ?_
  refine aa_go (aa_iload2 iX12_liking_0) (aa_go (aa_iconst iX12_liking_1 ki_3) ?_)
  refine aa_ic_neN iX12_liking_2 (by omega) (by omega) (fun g1 => ?_) (fun g1 => ?_)
  · skip
    refine aa_go (aa_iload2 iX12_liking_9) (aa_go (aa_iload1 iX12_liking_10) ?_)
    refine aa_ic_neN iX12_liking_11 (by omega) (by omega) (fun g2 => ?_) (fun g2 => ?_)
    · skip
      refine aa_go (aa_iload2 iX12_liking_18) (aa_go (aa_aload0 iX12_liking_19) (aa_go (aa_getR iX12_liking_20 fl_X12_290 (sh_63 hW) rfl) (aa_go (aa_iload1 iX12_liking_23) (aa_go (aa_ialE iX12_liking_24 (sh_80 hW) (by omega) (by omega) (hL.2 h hh)) ?_))))
      refine aa_ic_neN iX12_liking_25 (by omega) (by omega) (fun g3 => ?_) (fun g3 => ?_)
      · skip
        refine aa_go (aa_iconst iX12_liking_32 ki_1) ?_
        refine aa_iret iX12_liking_33 rfl ?_
        exact ⟨by rw [if_neg g1, if_neg g2, if_neg g3], rfl⟩
      · skip
        refine aa_go (aa_iconst iX12_liking_28 ki_2) (aa_go (aa_goto iX12_liking_29) ?_)
        refine aa_iret iX12_liking_33 rfl ?_
        exact ⟨by rw [if_neg g1, if_neg g2, if_pos g3], rfl⟩
    · skip
      refine aa_go (aa_iconst iX12_liking_14 ki_0) (aa_go (aa_goto iX12_liking_15) ?_)
      refine aa_iret iX12_liking_33 rfl ?_
      exact ⟨by rw [if_neg g1, if_pos g2], rfl⟩
  · skip
    refine aa_go (aa_iconst iX12_liking_5 ki_3) (aa_go (aa_goto iX12_liking_6) ?_)
    refine aa_iret iX12_liking_33 rfl ?_
    exact ⟨by rw [if_pos g1], rfl⟩
theorem ML3.fq {σ σ' : aa_St} (h : ML3 lk σ.1) (hF : FrQ σ σ') : ML3 lk σ'.1 := ⟨h.1, fun x hx => by rw [hF.2.1 80 (by decide)]; exact h.2 x hx⟩
theorem m_keeperB {f t w L : Nat} {σ : aa_St} (ht : t < 65536) (hw : w ≤ 2) (hL3 : L ≤ 3) (hW : aa_W r dy σ) (hM : MP P σ.1) (hK : MMK Q (vP P lk) σ.1) (hL : ML3 lk σ.1)
    (ih : ∀ t2 w2 (σ : aa_St), pl_mu P (dv P t2) < pl_mu P (dv P t) → t2 < 65536 → w2 ≤ 2 → aa_W r dy σ → MP P σ.1 → MMK Q (vP P lk) σ.1 → ML3 lk σ.1 → ∃ σ' : aa_St, (FrQ σ σ' ∧ MMK Q (vP P lk) σ'.1) ∧ aa_SX mX12_keeper (5 + f) [.ref 63, .int (nI t2), .int (nI w2), .int (nI (nx3 (nx3 w2)))] σ (some (.int (nI (kp P lk w2 (dv P t2))))) σ') :
    aa_V mX12_keeper (6 + f) 34 [some (.ref 63), some (.int (nI t)), some (.int (nI w)), some (.int (nI L)), some (.int (nI (w * 65536 + t))), some (.int (nI L)), some (.int (iZ (mvZ P none))), some (.int (nI 0)), none] [] σ (fun ra σ' => ra = some (.int (nI (kpL P lk w (dv P t) L))) ∧ ∃ σ2, FrQ σ σ2 ∧ MMK Q (vP P lk) σ2.1 ∧ σ' = aa_sI (aa_sI (aa_sI σ2 63 25 (iZ (mvZ P (ffm P lk w (dv P t) (pl_n P + pl_b P))))) 74 (w * 65536 + t) (nI Q)) 75 (w * 65536 + t) (nI (kpL P lk w (dv P t) L))) := by
  have ok := hM.1
  have pl : w * 65536 + t < 196608 := by omega
  have n2 := nx3_le hw
  have n4 := nx3_le n2
  have loop : ∀ d m (σ1 : aa_St) (a : Nat) (b : Option Nat) y8, 28 - m < d → m ≤ 28 → FrQ σ σ1 → MMK Q (vP P lk) σ1.1 → (mlk P w (dv P t) (msT P m) = [] ∧ a = L ∧ b = none ∨ mlk P w (dv P t) (msT P m) ≠ [] ∧ a = (kpA P lk w (dv P t) (msT P m)).2 ∧ b = ffm P lk w (dv P t) (msT P m) ∧ b ≠ none) → aa_V mX12_keeper (6 + f) 34 [some (.ref 63), some (.int (nI t)), some (.int (nI w)), some (.int (nI L)), some (.int (nI (w * 65536 + t))), some (.int (nI a)), some (.int (iZ (mvZ P b))), some (.int (nI m)), y8] [] σ1 (fun ra σ' => ra = some (.int (nI (kpL P lk w (dv P t) L))) ∧ ∃ σ2, FrQ σ σ2 ∧ MMK Q (vP P lk) σ2.1 ∧ σ' = aa_sI (aa_sI (aa_sI σ2 63 25 (iZ (mvZ P (ffm P lk w (dv P t) (pl_n P + pl_b P))))) 74 (w * 65536 + t) (nI Q)) 75 (w * 65536 + t) (nI (kpL P lk w (dv P t) L))) := by
    intro d
    induction d with
    | zero => intro m σ1 a b y8 g1; omega
    | succ d ihd =>
      intro m σ1 a b y8 g1 g2 hF hK1 hab
      have hW1 := hF.W hW
      have hM1 := hF.MP hM
      have hL1 := hL.fq hF
      have kl := (kpA_le (lk := lk) ok hw (dv P t) (msT P m)).2
      have a3 : a ≤ 3 := by rcases hab with ⟨-, q, -⟩ | ⟨-, q, -⟩ <;> omega
      refine aa_go (aa_iload7 iX12_keeper_34) (aa_go (aa_bipush iX12_keeper_36 kb_28) ?_)
      refine aa_ic_geN iX12_keeper_38 (by omega) (by omega) (fun g3 => ?_) (fun g3 => ?_)
      · skip
        have em : m = 28 := by omega
        subst em
        rw [ms_28 ok] at hab
        have e2 : a = kpL P lk w (dv P t) L ∧ b = ffm P lk w (dv P t) (pl_n P + pl_b P) := by
          rw [kpL, kp_eq ok]
          rcases hab with ⟨h1, h2, h3⟩ | ⟨h1, h2, h3, -⟩
          · rw [mlk_all] at h1
            rw [if_pos (mv_0.mpr h1), h2, h3, ffm, mlk_all, h1]; exact ⟨rfl, rfl⟩
          · rw [mlk_all] at h1
            have c : ¬ pl_mv P w (dv P t) = 0 := fun q => h1 (mv_0.mp q)
            rw [if_neg c, if_neg c, h2, h3]; exact ⟨rfl, rfl⟩
        rw [e2.1, e2.2]
        have hWf := hW1.sI 63 25 (iZ (mvZ P (ffm P lk w (dv P t) (pl_n P + pl_b P))))
        have hS := m_keeps hWf pl (hK1.f (iZ (mvZ P (ffm P lk w (dv P t) (pl_n P + pl_b P))))).1 (nI (kpL P lk w (dv P t) L))
        refine aa_go (aa_aload0 iX12_keeper_107) (aa_go (aa_iload6 iX12_keeper_108) (aa_go (aa_putI iX12_keeper_110 fl_X12_198 (fun h => nomatch h) (sh_63 hW1) rfl ⟨rfl, rfl⟩) (aa_go (aa_aload0 iX12_keeper_113) (aa_go (aa_iload4 iX12_keeper_114) (aa_go (aa_iload5 iX12_keeper_116) (aa_go (aa_cVi iX12_keeper_118 (hS) (by omega) lc_X12_keeps lk_X12_186 (sh_63 hW1) rfl rfl (Nat.le_of_ble_eq_true rfl)) ?_))))))
        refine aa_iret iX12_keeper_121 rfl ?_
        exact ⟨rfl, σ1, hF, hK1, rfl⟩
      · skip
        refine aa_go (aa_aload0 iX12_keeper_41) (aa_go (aa_iload1 iX12_keeper_42) (aa_go (aa_iload2 iX12_keeper_43) (aa_go (aa_iload7 iX12_keeper_44) (aa_go (aa_cVi iX12_keeper_46 (m_can hW1 hM1 ht (by omega) (by omega)) (by omega) lc_X12_can lk_X12_140 (sh_63 hW1) rfl rfl (Nat.le_of_ble_eq_true rfl)) ?_))))
        refine aa_if_eqB iX12_keeper_49 (fun g5 => ?_) (fun g5 => ?_)
        · skip
          have e1 := mlk_cn_f ok g3 g5
          have e2 : kpA P lk w (dv P t) (msT P (m + 1)) = kpA P lk w (dv P t) (msT P m) := by rw [kpA, kpA, e1]
          refine aa_go (aa_iincN7 (k := 1) iX12_keeper_101 rfl (by decide)) (aa_go (aa_goto iX12_keeper_104) ?_)
          refine ihd (m + 1) σ1 a b _ (by omega) (by omega) hF hK1 ?_
          rw [ffm, e1, e2]; exact hab
        · skip
          obtain ⟨j, hj, jl, -, lg, m1, m2⟩ := cn_t ok g5
          have mu := pl_mu_lt ok lg
          have al := af_lt ok ht g3
          have da := dv_af (t := t) ok hj
          have n3e : nx3 (nx3 (nx3 w)) = w := by
            rcases (show w = 0 ∨ w = 1 ∨ w = 2 by omega) with rfl | rfl | rfl <;> rfl
          obtain ⟨σ2, ⟨hF2, hK2⟩, hS2⟩ := ih (af P t m) (nx3 w) σ1 (by rw [da]; omega) al n2 hW1 hM1 hK1 hL1
          rw [da, n3e] at hS2
          have hW2 := hF2.W hW1
          have hL2 := hL1.fq hF2
          have kc2 : kpC P lk w (dv P t) j ≤ 2 := kp_2 ok n2 _
          have em : mvZ P (some j) = m := by show (pl_mo P j : Int) = m; rw [mo_sp ok hj]
          have yes : (mlk P w (dv P t) (msT P m) = [] ∨ (kpA P lk w (dv P t) (msT P m)).1 < lkd lk w (kpC P lk w (dv P t) j)) → aa_V mX12_keeper (6 + f) 34 [some (.ref 63), some (.int (nI t)), some (.int (nI w)), some (.int (nI L)), some (.int (nI (w * 65536 + t))), some (.int (nI (kpC P lk w (dv P t) j))), some (.int (iZ (mvZ P (some j)))), some (.int (nI (m + 1))), some (.int (nI (kpC P lk w (dv P t) j)))] [] σ2 (fun ra σ' => ra = some (.int (nI (kpL P lk w (dv P t) L))) ∧ ∃ σ2, FrQ σ σ2 ∧ MMK Q (vP P lk) σ2.1 ∧ σ' = aa_sI (aa_sI (aa_sI σ2 63 25 (iZ (mvZ P (ffm P lk w (dv P t) (pl_n P + pl_b P))))) 74 (w * 65536 + t) (nI Q)) 75 (w * 65536 + t) (nI (kpL P lk w (dv P t) L))) := by
            intro hy
            rw [m1] at hy
            obtain ⟨x1, x2⟩ := ffm_new lg hy
            refine ihd (m + 1) σ2 _ _ _ (by omega) (by omega) (hF.tr hF2) hK2 (Or.inr ⟨?_, ?_, ?_, by simp⟩)
            · rw [m2, mlk_t lg]; simp
            · rw [m2, x1]
            · rw [m2, x2]
          rw [em] at yes
          refine aa_go (aa_aload0 iX12_keeper_52) (aa_go (aa_aload0 iX12_keeper_53) (aa_go (aa_iload1 iX12_keeper_54) (aa_go (aa_iload7 iX12_keeper_55) (aa_go (aa_cVi iX12_keeper_57 (m_after hW1 hM1 g3 hj) (by omega) lc_X12_after lk_X12_137 (sh_63 hW1) rfl rfl (Nat.le_of_ble_eq_true rfl)) (aa_go (aa_iload2 iX12_keeper_60) (aa_go (aa_iconst iX12_keeper_61 ki_1) (aa_go (aa_iaddN iX12_keeper_62 ) ?_)))))))
          refine aa_go (aa_iconst iX12_keeper_63 ki_3) (aa_go (aa_iremN iX12_keeper_64 (by omega) (by omega) (by omega)) ?_)
          refine aa_go (aa_top (y := nI (nx3 w)) (by rw [nx3_mod hw])) ?_
          refine aa_go (aa_iload2 iX12_keeper_65) (aa_go (aa_cVi iX12_keeper_66 (hS2) (by omega) lc_X12_keeper lk_X12_293 (sh_63 hW1) rfl rfl (Nat.le_of_ble_eq_true rfl)) ?_)
          refine aa_go (aa_top (y := nI (kpC P lk w (dv P t) j)) (rfl)) ?_
          refine aa_go (aa_istore8 iX12_keeper_69 rfl (by decide)) (aa_go (aa_iload6 iX12_keeper_71) ?_)
          refine aa_if_lt iX12_keeper_73 (fun g6 => ?_) (fun g6 => ?_)
          · skip
            have hb : b = none := by
              cases b with
              | none => rfl
              | some x =>
                exfalso
                have : ¬ iZ (mvZ P (some x)) < 0 := nI_nneg (by
                  rcases hab with ⟨-, -, q⟩ | ⟨-, -, q, -⟩
                  · simp at q
                  · have := mlk_lt (List.mem_of_find?_eq_some q.symm)
                    have h1 := ok.1
                    have h2 := ok.2.1
                    have h5 := ok.2.2.2.2.1 (x - pl_n P)
                    unfold pl_mo; split <;> omega)
                exact this g6
            refine aa_go (aa_iload8 iX12_keeper_93) (aa_go (aa_istore5 iX12_keeper_95 rfl (by decide)) (aa_go (aa_iload7 iX12_keeper_97) (aa_go (aa_istore6 iX12_keeper_99 rfl (by decide)) (aa_go (aa_iincN7 (k := 1) iX12_keeper_101 rfl (by decide)) (aa_go (aa_goto iX12_keeper_104) ?_)))))
            refine yes (Or.inl ?_)
            rcases hab with ⟨q, -, -⟩ | ⟨-, -, -, q⟩
            · exact q
            · exact absurd hb q
          · skip
            have hne : mlk P w (dv P t) (msT P m) ≠ [] ∧ a = (kpA P lk w (dv P t) (msT P m)).2 ∧ b = ffm P lk w (dv P t) (msT P m) ∧ b ≠ none := by
              rcases hab with ⟨-, -, q⟩ | q
              · rw [q] at g6; exact absurd (show iZ (-1) < 0 by decide) g6
              · exact q
            have a2 : a ≤ 2 := by rw [hne.2.1]; exact kl
            have ea : lkM lk w a = (kpA P lk w (dv P t) (msT P m)).1 := by
              rw [lkM, if_neg (by omega), hne.2.1, ← (kpA_inv (P := P) (lk := lk) w (dv P t) (msT P m)).1]
            have ec : lkM lk w (kpC P lk w (dv P t) j) = lkd lk w (kpC P lk w (dv P t) j) := by rw [lkM, if_neg (by omega)]
            have l1 := lkd_le lk w (kpC P lk w (dv P t) j)
            have l2 := (kpA_le (lk := lk) ok hw (dv P t) (msT P m)).1
            refine aa_go (aa_aload0 iX12_keeper_76) (aa_go (aa_iload2 iX12_keeper_77) (aa_go (aa_iload8 iX12_keeper_78) (aa_go (aa_cVi iX12_keeper_80 (m_liking hW2 hL2 hw (by omega)) (by omega) lc_X12_liking lk_X12_296 (sh_63 hW2) rfl rfl (Nat.le_of_ble_eq_true rfl)) ?_)))
            refine aa_go (aa_top (y := nI (lkd lk w (kpC P lk w (dv P t) j))) (by rw [ec])) ?_
            refine aa_go (aa_aload0 iX12_keeper_83) (aa_go (aa_iload2 iX12_keeper_84) (aa_go (aa_iload5 iX12_keeper_85) (aa_go (aa_cVi iX12_keeper_87 (m_liking hW2 hL2 hw a3) (by omega) lc_X12_liking lk_X12_296 (sh_63 hW2) rfl rfl (Nat.le_of_ble_eq_true rfl)) ?_)))
            refine aa_go (aa_top (y := nI (kpA P lk w (dv P t) (msT P m)).1) (by rw [ea])) ?_
            refine aa_ic_leN iX12_keeper_90 (by omega) (by omega) (fun g7 => ?_) (fun g7 => ?_)
            · skip
              obtain ⟨x1, x2⟩ := ffm_old (lk := lk) lg (by rw [← m1]; exact hne.1) (by rw [show (kpA P lk w (dv P t) j).1 = (kpA P lk w (dv P t) (msT P m)).1 by rw [m1]]; omega)
              refine aa_go (aa_iincN7 (k := 1) iX12_keeper_101 rfl (by decide)) (aa_go (aa_goto iX12_keeper_104) ?_)
              refine ihd (m + 1) σ2 a b _ (by omega) (by omega) (hF.tr hF2) hK2 (Or.inr ⟨?_, ?_, ?_, hne.2.2.2⟩)
              · rw [m2, mlk_t lg]; simp
              · rw [m2, x1, ← m1]; exact hne.2.1
              · rw [m2, x2, ← m1]; exact hne.2.2.1
            · skip
              refine aa_go (aa_iload8 iX12_keeper_93) (aa_go (aa_istore5 iX12_keeper_95 rfl (by decide)) (aa_go (aa_iload7 iX12_keeper_97) (aa_go (aa_istore6 iX12_keeper_99 rfl (by decide)) (aa_go (aa_iincN7 (k := 1) iX12_keeper_101 rfl (by decide)) (aa_go (aa_goto iX12_keeper_104) ?_)))))
              exact yes (Or.inr (by omega))
  exact loop 29 0 σ L none none (by omega) (by omega) FrQ.rf hK (Or.inl ⟨by rw [ms_0]; rfl, rfl, rfl⟩)
end
