/-! THE REFERENCE: rises -/
def rsB (P : pl_T) (i m k : Nat) : Bool := (List.range m).any (fun j => (pl_u P j).testBit i && (decide (j = k) || pl_A (pl_u P) j k))
def rs (P : pl_T) (i m : Nat) : Nat := bm (pl_n P) (rsB P i m)
section
variable {P : pl_T}
theorem fbm_all (ok : pl_ok P) (w s : Nat) : fbm P w s (pl_n P + pl_b P) = fbk P w s (pl_n P + pl_b P) := by
  rw [fbm, fbk]
  by_cases c : pl_mv P w s = 0
  · rw [mlk_all, mv_0.mp c]; rfl
  · rw [show meA P w s (pl_n P + pl_b P) = me P w s by rw [me_eq ok, if_neg c]]; rfl
theorem rsB_s (i m k : Nat) : rsB P i (m + 1) k = (rsB P i m k || ((pl_u P m).testBit i && (decide (m = k) || pl_A (pl_u P) m k))) := by
  rw [rsB, List.range_succ, List.any_append, rsB]; simp
theorem rs_t {i m : Nat} (hm : m < pl_n P) (h : (pl_u P m).testBit i = true) : rs P i (m + 1) = rs P i m ||| (2 ^ m ||| pl_ab P m) := by
  apply bb_ext
  intro k
  rw [rs, rs, Nat.testBit_or, Nat.testBit_or, bm_bit, bm_bit, ab_bit, bb_tp, rsB_s, h]
  by_cases c : k < pl_n P
  · simp [c]
  · have : ¬ m = k := by omega
    simp [c, this]
theorem rs_f {i m : Nat} (h : (pl_u P m).testBit i = false) : rs P i (m + 1) = rs P i m := by
  apply bb_ext
  intro k
  rw [rs, rs, bm_bit, bm_bit, rsB_s, h]; simp
theorem rs_lo (ok : pl_ok P) {i m : Nat} (hm : m ≤ i + 1) (hn : m ≤ pl_n P) : rs P i m = 0 := by
  apply bb_ext
  intro k
  rw [rs, bm_bit, Nat.zero_testBit]
  have : rsB P i m k = false := by
    rw [rsB, List.any_eq_false]
    intro j hj
    rw [List.mem_range] at hj
    cases q : (pl_u P j).testBit i with
    | false => simp
    | true => have := u_lt ok (show j < pl_n P by omega) q; omega
  rw [this, Bool.and_false]
theorem rs_n (ok : pl_ok P) (i : Nat) : rs P i (pl_n P) = pl_ab P i := by
  apply bb_ext
  intro k
  rw [rs, bm_bit, ab_bit]
  by_cases c : k < pl_n P
  · rw [decide_eq_true c, Bool.true_and, Bool.true_and, Bool.eq_iff_iff, pl_A_up, rsB, List.any_eq_true]
    constructor
    · rintro ⟨j, h1, h2⟩
      rw [List.mem_range] at h1
      simp only [Bool.and_eq_true, Bool.or_eq_true, decide_eq_true_eq] at h2
      have := u_lt ok h1 h2.1
      refine ⟨j, this, ?_, h2⟩
      rcases h2.2 with q | q
      · omega
      · have := pl_A_lt q; omega
    · rintro ⟨j, h1, h2, h3, h4⟩
      refine ⟨j, List.mem_range.mpr (by omega), ?_⟩
      simp only [Bool.and_eq_true, Bool.or_eq_true, decide_eq_true_eq]
      exact ⟨h3, h4⟩
  · rw [decide_eq_false c]; rfl
theorem rs_lt (i m : Nat) : rs P i m < 2 ^ pl_n P := bm_lt _ _
end
section
variable {r : Nat → Nat} {dy : List aa_Shp} {P : pl_T} {σ : aa_St}
theorem m_rises (hW : aa_W r dy σ) (ok : pl_ok P) (hu : ∀ k, k < pl_n P → σ.1 67 k = nI (pl_u P k)) : ∃ σ' : aa_St, (FrI 68 σ σ' ∧ ∀ k, k < pl_n P → σ'.1 68 k = nI (pl_ab P k)) ∧ aa_SX mX12_rises 2 [.ref 63, .int (nI (pl_n P))] σ none σ' := by
  have h14 := ok.1
  have p14 : 2 ^ pl_n P ≤ 16384 := Nat.pow_le_pow_right (by decide : 0 < 2) h14
  have uL : ∀ i, i < pl_n P → pl_u P i < 2 ^ pl_n P := fun i hi => Nat.lt_trans (ok.2.2.1 i hi).2.2.2 (bb_p2 hi)
  have outer : ∀ k (σ1 : aa_St) y3, k ≤ pl_n P → FrI 68 σ σ1 → (∀ j, k ≤ j → j < pl_n P → σ1.1 68 j = nI (pl_ab P j)) → aa_V mX12_rises 2 4 [some (.ref 63), some (.int (nI (pl_n P))), some (.int (dI k)), y3] [] σ1 (fun ra σ' => ra = none ∧ FrI 68 σ σ' ∧ ∀ k, k < pl_n P → σ'.1 68 k = nI (pl_ab P k)) := by
    intro k
    induction k with
    | zero =>
      intro σ1 y3 hk hF hA
      have hW1 := hF.W hW
      rw [show dI 0 = -1 from rfl]
      refine aa_go (aa_iload2 iX12_rises_4) ?_
      refine aa_go (aa_if_ltT iX12_rises_5 (by decide)) ?_
      refine aa_vret iX12_rises_72 rfl ?_
      exact ⟨rfl, hF, fun j hj => hA j (by omega) hj⟩
    | succ k ih =>
      intro σ1 y3 hk hF hA
      have hW1 := hF.W hW
      rw [show dI (k + 1) = nI k from rfl]
      have inner : ∀ d m (σ2 : aa_St), pl_n P - m < d → m ≤ pl_n P → k < m → FrI 68 σ σ2 → (∀ j, k < j → j < pl_n P → σ2.1 68 j = nI (pl_ab P j)) → σ2.1 68 k = nI (rs P k m) → aa_V mX12_rises 2 19 [some (.ref 63), some (.int (nI (pl_n P))), some (.int (nI k)), some (.int (nI m))] [] σ2 (fun ra σ' => ra = none ∧ FrI 68 σ σ' ∧ ∀ k, k < pl_n P → σ'.1 68 k = nI (pl_ab P k)) := by
        intro d
        induction d with
        | zero => intro m σ2 g1; omega
        | succ d ihd =>
          intro m σ2 g1 g2 g3 hF2 hA2 hm
          have hW2 := hF2.W hW
          have rl := rs_lt (P := P) k m
          refine aa_go (aa_iload3 iX12_rises_19) (aa_go (aa_iload1 iX12_rises_20) ?_)
          refine aa_ic_geN iX12_rises_21 (by omega) (by omega) (fun g4 => ?_) (fun g4 => ?_)
          · skip
            have e : m = pl_n P := by omega
            subst e
            rw [rs_n ok] at hm
            refine aa_go (aa_iinc2 iX12_rises_66 (dI_dec k) rfl (by decide)) (aa_go (aa_goto iX12_rises_69) ?_)
            refine ih σ2 _ (by omega) hF2 (fun j h1 h2 => ?_)
            by_cases c : j = k
            · rw [c]; exact hm
            · exact hA2 j (by omega) h2
          · skip
            have um := uL m g4
            have hum : σ2.1 67 m = nI (pl_u P m) := by rw [hF2.2 67 (by decide)]; exact hu m g4
            have nxt : ∀ x, rs P k (m + 1) = x → aa_V mX12_rises 2 19 [some (.ref 63), some (.int (nI (pl_n P))), some (.int (nI k)), some (.int (nI (m + 1)))] [] (aa_sI σ2 68 k (nI x)) (fun ra σ' => ra = none ∧ FrI 68 σ σ' ∧ ∀ k, k < pl_n P → σ'.1 68 k = nI (pl_ab P k)) := by
              intro x hx
              refine ihd (m + 1) _ (by omega) (by omega) (by omega) (hF2.s _ _) (fun j h1 h2 => ?_) ?_
              · rw [sI_at, if_neg (by omega)]; exact hA2 j h1 h2
              · rw [sI_at, if_pos rfl, hx]
            refine aa_go (aa_aload0 iX12_rises_24) (aa_go (aa_getR iX12_rises_25 fl_X12_92 (sh_63 hW2) rfl) (aa_go (aa_iload2 iX12_rises_28) (aa_go (aa_dup2 iX12_rises_29 rfl rfl) (aa_go (aa_ialE iX12_rises_30 (sh_68 hW2) (by omega) (by omega) (hm)) (aa_go (aa_aload0 iX12_rises_31) (aa_go (aa_getR iX12_rises_32 fl_X12_47 (sh_63 hW2) rfl) (aa_go (aa_iload3 iX12_rises_35) ?_)))))))
            refine aa_go (aa_ialE iX12_rises_36 (sh_67 hW2) (by omega) (by omega) (hum)) (aa_go (aa_iload2 iX12_rises_37) (aa_go (aa_cSi iX12_rises_38 (m_has (by omega) (by omega)) (by decide) lc_X12_has lk_X12_95 rfl (Nat.le_of_ble_eq_true rfl)) ?_))
            refine aa_if_eqB iX12_rises_41 (fun g5 => ?_) (fun g5 => ?_)
            · skip
              refine aa_go (aa_iconst iX12_rises_57 ki_0) (aa_go (aa_iorN iX12_rises_58 ) ?_)
              refine aa_go (aa_top (y := nI (rs P k m)) (by rw [Nat.or_zero])) ?_
              refine aa_go (aa_iasN iX12_rises_59 (sh_68 hW2) (by omega) (by omega)) (aa_go (aa_iincN3 (k := 1) iX12_rises_60 rfl (by decide)) (aa_go (aa_goto iX12_rises_63) ?_))
              exact nxt _ (rs_f g5)
            · skip
              refine aa_go (aa_iconst iX12_rises_44 ki_1) (aa_go (aa_iload3 iX12_rises_45) (aa_go (aa_ishlN iX12_rises_46 (by omega)) (aa_go (aa_aload0 iX12_rises_47) (aa_go (aa_getR iX12_rises_48 fl_X12_92 (sh_63 hW2) rfl) (aa_go (aa_iload3 iX12_rises_51) (aa_go (aa_ialE iX12_rises_52 (sh_68 hW2) (by omega) (by omega) ((hA2 m g3 g4))) (aa_go (aa_iorN iX12_rises_53 ) ?_)))))))
              refine aa_go (aa_goto iX12_rises_54) (aa_go (aa_iorN iX12_rises_58 ) ?_)
              refine aa_go (aa_top (y := nI (rs P k m ||| (2 ^ m ||| pl_ab P m))) (by rw [Nat.shiftLeft_eq, Nat.one_mul])) ?_
              refine aa_go (aa_iasN iX12_rises_59 (sh_68 hW2) (by omega) (by omega)) (aa_go (aa_iincN3 (k := 1) iX12_rises_60 rfl (by decide)) (aa_go (aa_goto iX12_rises_63) ?_))
              exact nxt _ (rs_t g4 g5)
      refine aa_go (aa_iload2 iX12_rises_4) ?_
      refine aa_go (aa_if_ltN iX12_rises_5 (by omega)) ?_
      refine aa_go (aa_aload0 iX12_rises_8) (aa_go (aa_getR iX12_rises_9 fl_X12_92 (sh_63 hW1) rfl) (aa_go (aa_iload2 iX12_rises_12) (aa_go (aa_iconst iX12_rises_13 ki_0) (aa_go (aa_iasN iX12_rises_14 (sh_68 hW1) (by omega) (by omega)) (aa_go (aa_iload2 iX12_rises_15) (aa_go (aa_iconst iX12_rises_16 ki_1) (aa_go (aa_iaddN iX12_rises_17 ) ?_)))))))
      refine aa_go (aa_istore3 iX12_rises_18 rfl (by decide)) ?_
      refine inner (pl_n P + 1) (k + 1) _ (by omega) (by omega) (by omega) (hF.s _ _) (fun j h1 h2 => ?_) ?_
      · rw [sI_at, if_neg (by omega)]; exact hA j (by omega) h2
      · rw [sI_at, if_pos rfl, rs_lo ok (Nat.le_refl _) hk]
  have key : aa_V mX12_rises 2 0 [some (.ref 63), some (.int (nI (pl_n P))), none, none] [] σ (fun ra σ' => ra = none ∧ FrI 68 σ σ' ∧ ∀ k, k < pl_n P → σ'.1 68 k = nI (pl_ab P k)) := by
    have e0 : nI (pl_n P) - nI 1 = dI (pl_n P) := by
      rw [← dI_dec, Int32.sub_eq_add_neg]; rfl
    refine aa_go (aa_iload1 iX12_rises_0) (aa_go (aa_iconst iX12_rises_1 ki_1) (aa_go (aa_isub iX12_rises_2 ) ?_))
    refine aa_go (aa_top (y := dI (pl_n P)) (e0)) ?_
    refine aa_go (aa_istore2 iX12_rises_3 rfl (by decide)) ?_
    exact outer (pl_n P) σ _ (Nat.le_refl _) FrI.rf (fun j h1 h2 => by omega)
  obtain ⟨ra, σ', ⟨rfl, h1⟩, hS9⟩ := aa_S_of (avs := [.ref 63, .int (nI (pl_n P))]) (by decide) 2 [some (.ref 63), some (.int (nI (pl_n P))), none, none] rfl rfl key
  exact ⟨σ', h1, hS9⟩
end
