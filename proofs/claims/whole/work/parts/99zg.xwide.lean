/-! THE REFERENCE: wide piles walked -/
section
variable {P : pl_T}
theorem uw_lt (ok : wok P) {i j : Nat} (hj : j < pl_n P) (h : (pl_u P j).testBit i = true) : i < j := by
  rcases Nat.lt_or_ge i j with c | c
  · exact c
  · rw [bb_hi (ok.2 j hj) c] at h; exact absurd h (by decide)
theorem rsw_lo (ok : wok P) {i m : Nat} (hm : m ≤ i + 1) (hn : m ≤ pl_n P) : rs P i m = 0 := by
  apply bb_ext
  intro k
  rw [rs, bm_bit, Nat.zero_testBit]
  have : rsB P i m k = false := by
    rw [rsB, List.any_eq_false]
    intro j hj
    rw [List.mem_range] at hj
    cases q : (pl_u P j).testBit i with
    | false => simp
    | true => have := uw_lt ok (show j < pl_n P by omega) q; omega
  rw [this, Bool.and_false]
theorem rsw_n (ok : wok P) (i : Nat) : rs P i (pl_n P) = pl_ab P i := by
  apply bb_ext
  intro k
  rw [rs, bm_bit, ab_bit]
  by_cases c : k < pl_n P
  · rw [decide_eq_true c, Bool.true_and, Bool.true_and, Bool.eq_iff_iff, pl_A_up, rsB, List.any_eq_true]
    constructor
    · rintro ⟨j, h1, h2⟩
      rw [List.mem_range] at h1
      simp only [Bool.and_eq_true, Bool.or_eq_true, decide_eq_true_eq] at h2
      have := uw_lt ok h1 h2.1
      refine ⟨j, this, ?_, h2⟩
      rcases h2.2 with q | q
      · omega
      · have := pl_A_lt q; omega
    · rintro ⟨j, h1, h2, h3, h4⟩
      refine ⟨j, List.mem_range.mpr (by omega), ?_⟩
      simp only [Bool.and_eq_true, Bool.or_eq_true, decide_eq_true_eq]
      exact ⟨h3, h4⟩
  · rw [decide_eq_false c]; rfl
end
section
variable {r : Nat → Nat} {dy : List aa_Shp} {P : pl_T} {σ : aa_St}
theorem m_risesW (hW : aa_W r dy σ) (ok : wok P) (hu : ∀ k, k < pl_n P → σ.1 67 k = nI (pl_u P k)) : ∃ σ' : aa_St, (FrI 68 σ σ' ∧ ∀ k, k < pl_n P → σ'.1 68 k = nI (pl_ab P k)) ∧ aa_SX mX12_rises 2 [.ref 63, .int (nI (pl_n P))] σ none σ' := by
  have h14 := ok.1
  have p14 : 2 ^ pl_n P ≤ 65536 := Nat.pow_le_pow_right (by decide : 0 < 2) h14
  have uL : ∀ i, i < pl_n P → pl_u P i < 2 ^ pl_n P := fun i hi => Nat.lt_trans (ok.2 i hi) (bb_p2 hi)
  have outer : ∀ k (σ1 : aa_St) y3, k ≤ pl_n P → FrI 68 σ σ1 → (∀ j, k ≤ j → j < pl_n P → σ1.1 68 j = nI (pl_ab P j)) → aa_V mX12_rises 2 4 [some (.ref 63), some (.int (nI (pl_n P))), some (.int (dI k)), y3] [] σ1 (fun ra σ' => ra = none ∧ FrI 68 σ σ' ∧ ∀ k, k < pl_n P → σ'.1 68 k = nI (pl_ab P k)) := by
    intro k
    induction k with
    | zero =>
      intro σ1 y3 hk hF hA
      have hW1 := hF.W hW
      rw [show dI 0 = -1 from rfl]
      refine aa_go (aa_iload2 iX12_rises_4) ?_
      refine aa_go (aa_if_ltT iX12_rises_5 (by decide)) ?_
      refine aa_vret iX12_rises_72 rfl ?_
      exact ⟨rfl, hF, fun j hj => hA j (by omega) hj⟩
    | succ k ih =>
      intro σ1 y3 hk hF hA
      have hW1 := hF.W hW
      rw [show dI (k + 1) = nI k from rfl]
      have inner : ∀ d m (σ2 : aa_St), pl_n P - m < d → m ≤ pl_n P → k < m → FrI 68 σ σ2 → (∀ j, k < j → j < pl_n P → σ2.1 68 j = nI (pl_ab P j)) → σ2.1 68 k = nI (rs P k m) → aa_V mX12_rises 2 19 [some (.ref 63), some (.int (nI (pl_n P))), some (.int (nI k)), some (.int (nI m))] [] σ2 (fun ra σ' => ra = none ∧ FrI 68 σ σ' ∧ ∀ k, k < pl_n P → σ'.1 68 k = nI (pl_ab P k)) := by
        intro d
        induction d with
        | zero => intro m σ2 g1; omega
        | succ d ihd =>
          intro m σ2 g1 g2 g3 hF2 hA2 hm
          have hW2 := hF2.W hW
          have rl := rs_lt (P := P) k m
          refine aa_go (aa_iload3 iX12_rises_19) (aa_go (aa_iload1 iX12_rises_20) ?_)
          refine aa_ic_geN iX12_rises_21 (by omega) (by omega) (fun g4 => ?_) (fun g4 => ?_)
          · skip
            have e : m = pl_n P := by omega
            subst e
            rw [rsw_n ok] at hm
            refine aa_go (aa_iinc2 iX12_rises_66 (dI_dec k) rfl (by decide)) (aa_go (aa_goto iX12_rises_69) ?_)
            refine ih σ2 _ (by omega) hF2 (fun j h1 h2 => ?_)
            by_cases c : j = k
            · rw [c]; exact hm
            · exact hA2 j (by omega) h2
          · skip
            have um := uL m g4
            have hum : σ2.1 67 m = nI (pl_u P m) := by rw [hF2.2 67 (by decide)]; exact hu m g4
            have nxt : ∀ x, rs P k (m + 1) = x → aa_V mX12_rises 2 19 [some (.ref 63), some (.int (nI (pl_n P))), some (.int (nI k)), some (.int (nI (m + 1)))] [] (aa_sI σ2 68 k (nI x)) (fun ra σ' => ra = none ∧ FrI 68 σ σ' ∧ ∀ k, k < pl_n P → σ'.1 68 k = nI (pl_ab P k)) := by
              intro x hx
              refine ihd (m + 1) _ (by omega) (by omega) (by omega) (hF2.s _ _) (fun j h1 h2 => ?_) ?_
              · rw [sI_at, if_neg (by omega)]; exact hA2 j h1 h2
              · rw [sI_at, if_pos rfl, hx]
            refine aa_go (aa_aload0 iX12_rises_24) (aa_go (aa_getR iX12_rises_25 fl_X12_92 (sh_63 hW2) rfl) (aa_go (aa_iload2 iX12_rises_28) (aa_go (aa_dup2 iX12_rises_29 rfl rfl) (aa_go (aa_ialE iX12_rises_30 (sh_68 hW2) (by omega) (by omega) (hm)) (aa_go (aa_aload0 iX12_rises_31) (aa_go (aa_getR iX12_rises_32 fl_X12_47 (sh_63 hW2) rfl) (aa_go (aa_iload3 iX12_rises_35) ?_)))))))
            refine aa_go (aa_ialE iX12_rises_36 (sh_67 hW2) (by omega) (by omega) (hum)) (aa_go (aa_iload2 iX12_rises_37) (aa_go (aa_cSi iX12_rises_38 (m_has (by omega) (by omega)) (by decide) lc_X12_has lk_X12_95 rfl (Nat.le_of_ble_eq_true rfl)) ?_))
            refine aa_if_eqB iX12_rises_41 (fun g5 => ?_) (fun g5 => ?_)
            · skip
              refine aa_go (aa_iconst iX12_rises_57 ki_0) (aa_go (aa_iorN iX12_rises_58 ) ?_)
              refine aa_go (aa_top (y := nI (rs P k m)) (by rw [Nat.or_zero])) ?_
              refine aa_go (aa_iasN iX12_rises_59 (sh_68 hW2) (by omega) (by omega)) (aa_go (aa_iincN3 (k := 1) iX12_rises_60 rfl (by decide)) (aa_go (aa_goto iX12_rises_63) ?_))
              exact nxt _ (rs_f g5)
            · skip
              refine aa_go (aa_iconst iX12_rises_44 ki_1) (aa_go (aa_iload3 iX12_rises_45) (aa_go (aa_ishlN iX12_rises_46 (by omega)) (aa_go (aa_aload0 iX12_rises_47) (aa_go (aa_getR iX12_rises_48 fl_X12_92 (sh_63 hW2) rfl) (aa_go (aa_iload3 iX12_rises_51) (aa_go (aa_ialE iX12_rises_52 (sh_68 hW2) (by omega) (by omega) ((hA2 m g3 g4))) (aa_go (aa_iorN iX12_rises_53 ) ?_)))))))
              refine aa_go (aa_goto iX12_rises_54) (aa_go (aa_iorN iX12_rises_58 ) ?_)
              refine aa_go (aa_top (y := nI (rs P k m ||| (2 ^ m ||| pl_ab P m))) (by rw [Nat.shiftLeft_eq, Nat.one_mul])) ?_
              refine aa_go (aa_iasN iX12_rises_59 (sh_68 hW2) (by omega) (by omega)) (aa_go (aa_iincN3 (k := 1) iX12_rises_60 rfl (by decide)) (aa_go (aa_goto iX12_rises_63) ?_))
              exact nxt _ (rs_t g4 g5)
      refine aa_go (aa_iload2 iX12_rises_4) ?_
      refine aa_go (aa_if_ltN iX12_rises_5 (by omega)) ?_
      refine aa_go (aa_aload0 iX12_rises_8) (aa_go (aa_getR iX12_rises_9 fl_X12_92 (sh_63 hW1) rfl) (aa_go (aa_iload2 iX12_rises_12) (aa_go (aa_iconst iX12_rises_13 ki_0) (aa_go (aa_iasN iX12_rises_14 (sh_68 hW1) (by omega) (by omega)) (aa_go (aa_iload2 iX12_rises_15) (aa_go (aa_iconst iX12_rises_16 ki_1) (aa_go (aa_iaddN iX12_rises_17 ) ?_)))))))
      refine aa_go (aa_istore3 iX12_rises_18 rfl (by decide)) ?_
      refine inner (pl_n P + 1) (k + 1) _ (by omega) (by omega) (by omega) (hF.s _ _) (fun j h1 h2 => ?_) ?_
      · rw [sI_at, if_neg (by omega)]; exact hA j (by omega) h2
      · rw [sI_at, if_pos rfl, rsw_lo ok (Nat.le_refl _) hk]
  have key : aa_V mX12_rises 2 0 [some (.ref 63), some (.int (nI (pl_n P))), none, none] [] σ (fun ra σ' => ra = none ∧ FrI 68 σ σ' ∧ ∀ k, k < pl_n P → σ'.1 68 k = nI (pl_ab P k)) := by
    have e0 : nI (pl_n P) - nI 1 = dI (pl_n P) := by
      rw [← dI_dec, Int32.sub_eq_add_neg]; rfl
    refine aa_go (aa_iload1 iX12_rises_0) (aa_go (aa_iconst iX12_rises_1 ki_1) (aa_go (aa_isub iX12_rises_2 ) ?_))
    refine aa_go (aa_top (y := dI (pl_n P)) (e0)) ?_
    refine aa_go (aa_istore2 iX12_rises_3 rfl (by decide)) ?_
    exact outer (pl_n P) σ _ (Nat.le_refl _) FrI.rf (fun j h1 h2 => by omega)
  obtain ⟨ra, σ', ⟨rfl, h1⟩, hS9⟩ := aa_S_of (avs := [.ref 63, .int (nI (pl_n P))]) (by decide) 2 [some (.ref 63), some (.int (nI (pl_n P))), none, none] rfl rfl key
  exact ⟨σ', h1, hS9⟩
end
def MH (P : pl_T) (A : Nat → Nat) (m e : Nat) (i : Nat → Nat → Int32) : Prop := (∀ k, k < pl_n P + m → i 66 k = nI (pl_h (wdP P A m) k) ∧ i 68 k = nI (pl_ab (wdP P A m) k)) ∧ i 63 12 = nI e
def vZ (P : pl_T) (A : Nat → Nat) (e p : Nat) : Int32 := nI (wv2 P A e (p / 65536) (p % 65536)).toNat
theorem vZ_at (P : pl_T) (A : Nat → Nat) {e w t : Nat} (ht : t < 65536) : vZ P A e (w * 65536 + t) = nI (wv2 P A e w t).toNat := by
  rw [vZ, (pl_div ht).1, (pl_div ht).2]
theorem pw_16 {n m t : Nat} (h : n ≤ 14) (hm : m ≤ 2) (ht : t < 2 ^ (n + m)) : t < 65536 := Nat.lt_of_lt_of_le ht (Nat.pow_le_pow_right (n := 2) (by decide) (show n + m ≤ 16 by omega))
section
variable {r : Nat → Nat} {dy : List aa_Shp} {P : pl_T} {A : Nat → Nat} {m Q : Nat}
theorem MH.fa {e : Nat} {σ σ' : aa_St} (h : MH P A m e σ.1) (hF : FrA [74, 75] σ σ') : MH P A m e σ'.1 := ⟨fun k hk => by rw [hF.2 66 (by decide), hF.2 68 (by decide)]; exact h.1 k hk, by rw [hF.2 63 (by decide)]; exact h.2⟩
theorem wdh_le (ok : pl_ok P) (k : Nat) (hk : k < pl_n P + m) : pl_h (wdP P A m) k ≤ 7 := by
  by_cases c : k < pl_n P
  · rw [wdP_h c]; exact (ok.2.2.1 k c).2.2.1
  · rw [wdP_h2 c]; omega
theorem m_winWide {e : Nat} (ok : pl_ok P) (hb0 : pl_b P = 0) (hm : m ≤ 2) (hA : ∀ q, q < m → A q = 14 ∨ A q < pl_n P) (hA2 : ∀ q, A q ≤ 14) (he : e ≤ 1) : ∀ f t w (σ : aa_St), wmu P A t ≤ f → vst P A m t → w ≤ 1 → aa_W r dy σ → MH P A m e σ.1 → MMK Q (vZ P A e) σ.1 →
    ∃ σ' : aa_St, (FrA [74, 75] σ σ' ∧ MMK Q (vZ P A e) σ'.1) ∧ aa_SX mX12_winWide (5 + f) [.ref 63, .int (nI t), .int (nI w), .int (nI (pl_n P + m))] σ (some (.int (nI (wv2 P A e w t).toNat))) σ' := by
  intro f
  have n14 := ok.1
  induction f using Nat.strongRecOn with
  | ind f ih =>
    intro t w σ hf hv hw hW hH hK
    have ht := pw_16 n14 hm hv.1
    have pl : w * 65536 + t < 196608 := by omega
    have va := vZ_at P A (e := e) (w := w) ht
    have ve := wv2_eq (e := e) ok hb0 hm hA hA2 hv hw
    -- the end: 111
    have fin : ∀ (σ1 : aa_St) (a b : Bool) y7, FrA [74, 75] σ σ1 → MMK Q (vZ P A e) σ1.1 → (wv2 P A e w t = if a then e == 1 else b) → aa_V mX12_winWide (5 + f) 111 [some (.ref 63), some (.int (nI t)), some (.int (nI w)), some (.int (nI (pl_n P + m))), some (.int (nI (w * 65536 + t))), some (.int (nI a.toNat)), some (.int (nI b.toNat)), y7] [] σ1 (fun ra σ' => ra = some (.int (nI (wv2 P A e w t).toNat)) ∧ FrA [74, 75] σ σ' ∧ MMK Q (vZ P A e) σ'.1) := by
      intro σ1 a b y7 hF hK1 hv
      have hW1 := hF.W hW
      have hH1 := hH.fa hF
      have ks := hK1.set (p := w * 65536 + t)
      have hS := m_keeps hW1 pl hK1.1 (vZ P A e (w * 65536 + t))
      rw [va] at ks hS
      refine aa_go (aa_aload0 iX12_winWide_111) (aa_go (aa_iload4 iX12_winWide_112) (aa_go (aa_iload5 iX12_winWide_114) ?_))
      refine aa_if_eqB iX12_winWide_116 (fun g1 => ?_) (fun g1 => ?_)
      · skip
        rw [g1] at hv
        have hv2 : wv2 P A e w t = b := hv
        refine aa_go (aa_iload6 iX12_winWide_126) (aa_go (aa_cSi iX12_winWide_128 (m_flag b) (by omega) lc_X12_flag lk_X12_31 rfl (Nat.le_of_ble_eq_true rfl)) ?_)
        rw [← hv2]
        refine aa_go (aa_cVi iX12_winWide_131 (hS) (by omega) lc_X12_keeps lk_X12_186 (sh_63 hW1) rfl rfl (Nat.le_of_ble_eq_true rfl)) ?_
        refine aa_iret iX12_winWide_134 rfl ?_
        exact ⟨rfl, (hF.s (by decide) _ _).s (by decide) _ _, ks⟩
      · skip
        rw [g1] at hv
        have hv2 : nI e = nI (wv2 P A e w t).toNat := by
          rw [show wv2 P A e w t = (e == 1) from hv]
          rcases (show e = 0 ∨ e = 1 by omega) with rfl | rfl <;> rfl
        refine aa_go (aa_aload0 iX12_winWide_119) (aa_go (aa_getE iX12_winWide_120 fl_X12_124 (sh_63 hW1) rfl hH1.2) (aa_go (aa_goto iX12_winWide_123) ?_))
        refine aa_go (aa_top (y := nI (wv2 P A e w t).toNat) (hv2)) ?_
        refine aa_go (aa_cVi iX12_winWide_131 (hS) (by omega) lc_X12_keeps lk_X12_186 (sh_63 hW1) rfl rfl (Nat.le_of_ble_eq_true rfl)) ?_
        refine aa_iret iX12_winWide_134 rfl ?_
        exact ⟨rfl, (hF.s (by decide) _ _).s (by decide) _ _, ks⟩
    have loop : ∀ d k (σ1 : aa_St) (a b : Bool), pl_n P + m - k < d → k ≤ pl_n P + m → FrA [74, 75] σ σ1 → MMK Q (vZ P A e) σ1.1 → a = !wcA P A m w t k → b = wwA P A m e w t k → aa_V mX12_winWide (5 + f) 34 [some (.ref 63), some (.int (nI t)), some (.int (nI w)), some (.int (nI (pl_n P + m))), some (.int (nI (w * 65536 + t))), some (.int (nI a.toNat)), some (.int (nI b.toNat)), some (.int (nI k))] [] σ1 (fun ra σ' => ra = some (.int (nI (wv2 P A e w t).toNat)) ∧ FrA [74, 75] σ σ' ∧ MMK Q (vZ P A e) σ'.1) := by
      intro d
      induction d with
      | zero => intro k σ1 a b g1; omega
      | succ d ihd =>
        intro k σ1 a b g1 g2 hF hK1 ha hb
        have hW1 := hF.W hW
        have hH1 := hH.fa hF
        refine aa_go (aa_iload7 iX12_winWide_34) (aa_go (aa_iload3 iX12_winWide_36) ?_)
        refine aa_ic_geN iX12_winWide_37 (by omega) (by omega) (fun g3 => ?_) (fun g3 => ?_)
        · skip
          have ek : k = pl_n P + m := by omega
          subst ek
          refine fin σ1 a b _ hF hK1 ?_
          rw [ve, ha, hb]
          cases wcA P A m w t (pl_n P + m) <;> rfl
        · skip
          have hk := hH1.1 k g3
          have h7 := wdh_le (A := A) ok k g3
          refine aa_go (aa_iload6 iX12_winWide_40) ?_
          refine aa_if_neB iX12_winWide_42 (fun g4 => ?_) (fun g4 => ?_)
          · skip
            rw [g4] at hb
            have c1 := wwA_c hb.symm
            rw [c1] at ha
            have w1 := wwA_mono (show k ≤ pl_n P + m by omega) hb.symm
            rw [ha, g4]
            refine fin σ1 false true _ hF hK1 ?_
            rw [ve, w1, wwA_c w1]; rfl
          · skip
            rw [g4] at hb
            refine aa_go (aa_iload1 iX12_winWide_45) (aa_go (aa_iload7 iX12_winWide_46) (aa_go (aa_cSi iX12_winWide_48 (m_has (by omega) (by omega)) (by omega) lc_X12_has lk_X12_95 rfl (Nat.le_of_ble_eq_true rfl)) ?_))
            refine aa_if_eqB iX12_winWide_51 (fun g5 => ?_) (fun g5 => ?_)
            · skip
              have lg : wlg P A m w t k = false := by rw [wlg, g5]; rfl
              refine aa_go (aa_iincN7 (k := 1) iX12_winWide_105 rfl (by decide)) (aa_go (aa_goto iX12_winWide_108) ?_)
              rw [g4]
              exact ihd (k + 1) σ1 a false (by omega) (by omega) hF hK1 (by rw [wcA_s, lg, ha]; simp) (by rw [wwA_s, lg, ← hb]; rfl)
            · skip
              refine aa_go (aa_aload0 iX12_winWide_54) (aa_go (aa_getR iX12_winWide_55 fl_X12_57 (sh_63 hW1) rfl) (aa_go (aa_iload7 iX12_winWide_58) (aa_go (aa_ialE iX12_winWide_60 (sh_66 hW1) (by omega) (by omega) (hk.1)) (aa_go (aa_iload2 iX12_winWide_61) (aa_go (aa_cSi iX12_winWide_62 (m_has (by omega) (by omega)) (by omega) lc_X12_has lk_X12_95 rfl (Nat.le_of_ble_eq_true rfl)) ?_)))))
              refine aa_if_eqB iX12_winWide_65 (fun g6 => ?_) (fun g6 => ?_)
              · skip
                have lg : wlg P A m w t k = false := by rw [wlg, g5, g6]; rfl
                refine aa_go (aa_iincN7 (k := 1) iX12_winWide_105 rfl (by decide)) (aa_go (aa_goto iX12_winWide_108) ?_)
                rw [g4]
                exact ihd (k + 1) σ1 a false (by omega) (by omega) hF hK1 (by rw [wcA_s, lg, ha]; simp) (by rw [wwA_s, lg, ← hb]; rfl)
              · skip
                have lg : wlg P A m w t k = true := by rw [wlg, g5, g6]; rfl
                obtain ⟨mu, v2⟩ := wmu_lt ok hm hA hA2 hv hw g3 lg
                obtain ⟨σ2, ⟨hF2, hK2⟩, hS2⟩ := ih (wmu P A (bd t (pl_cl (wdP P A m) k))) (by omega) (bd t (pl_cl (wdP P A m) k)) (1 - w) σ1 (Nat.le_refl _) v2 (by omega) hW1 hH1 hK1
                refine aa_go (aa_iconst iX12_winWide_68 ki_0) (aa_go (aa_istore5 iX12_winWide_69 rfl (by decide)) (aa_go (aa_aload0 iX12_winWide_71) (aa_go (aa_iload1 iX12_winWide_72) (aa_go (aa_iconst iX12_winWide_73 ki_1) (aa_go (aa_iload7 iX12_winWide_74) (aa_go (aa_ishlN iX12_winWide_76 (by omega)) (aa_go (aa_aload0 iX12_winWide_77) ?_)))))))
                refine aa_go (aa_getR iX12_winWide_78 fl_X12_92 (sh_63 hW1) rfl) (aa_go (aa_iload7 iX12_winWide_81) (aa_go (aa_ialE iX12_winWide_83 (sh_68 hW1) (by omega) (by omega) (hk.2)) (aa_go (aa_iorN iX12_winWide_84 ) ?_)))
                refine aa_go (aa_top (y := nI (pl_cl (wdP P A m) k)) (by rw [Nat.one_shiftLeft, Nat.or_comm]; rfl)) ?_
                refine aa_go (aa_iconst iX12_winWide_85 ki_m1) (aa_go (aa_ixor iX12_winWide_86) (aa_go (aa_iandC iX12_winWide_87) (aa_go (aa_iconst iX12_winWide_88 ki_1) (aa_go (aa_iload2 iX12_winWide_89) (aa_go (aa_isubN iX12_winWide_90 (by omega)) (aa_go (aa_iload3 iX12_winWide_91) (aa_go (aa_cVi iX12_winWide_92 (hS2) (by omega) lc_X12_winWide lk_X12_317 (sh_63 hW1) rfl rfl (Nat.le_of_ble_eq_true rfl)) ?_)))))))
                refine aa_if_neB iX12_winWide_95 (fun g7 => ?_) (fun g7 => ?_)
                · skip
                  refine aa_go (aa_iconst iX12_winWide_102 ki_0) (aa_go (aa_istore6 iX12_winWide_103 rfl (by decide)) (aa_go (aa_iincN7 (k := 1) iX12_winWide_105 rfl (by decide)) (aa_go (aa_goto iX12_winWide_108) ?_)))
                  exact ihd (k + 1) σ2 false false (by omega) (by omega) (hF.tr hF2) hK2 (by rw [wcA_s, lg]; simp) (by rw [wwA_s, lg, g7, ← hb]; rfl)
                · skip
                  refine aa_go (aa_iconst iX12_winWide_98 ki_1) (aa_go (aa_goto iX12_winWide_99) (aa_go (aa_istore6 iX12_winWide_103 rfl (by decide)) (aa_go (aa_iincN7 (k := 1) iX12_winWide_105 rfl (by decide)) (aa_go (aa_goto iX12_winWide_108) ?_))))
                  exact ihd (k + 1) σ2 false true (by omega) (by omega) (hF.tr hF2) hK2 (by rw [wcA_s, lg]; simp) (by rw [wwA_s, lg, g7]; simp)
    have key : aa_V mX12_winWide (5 + f) 0 [some (.ref 63), some (.int (nI t)), some (.int (nI w)), some (.int (nI (pl_n P + m))), none, none, none, none] [] σ (fun ra σ' => ra = some (.int (nI (wv2 P A e w t).toNat)) ∧ FrA [74, 75] σ σ' ∧ MMK Q (vZ P A e) σ'.1) := by
      obtain ⟨q, hq1, hq2, hq3⟩ := hK.2.2 (w * 65536 + t) pl
      have hQ := hK.2.1
      refine aa_go (aa_aload0 iX12_winWide_0) (aa_go (aa_iload1 iX12_winWide_1) (aa_go (aa_iload2 iX12_winWide_2) (aa_go (aa_cVi iX12_winWide_3 (m_placeOf hW) (by omega) lc_X12_placeOf lk_X12_177 (sh_63 hW) rfl rfl (Nat.le_of_ble_eq_true rfl)) (aa_go (aa_istore4 iX12_winWide_6 rfl (by decide)) (aa_go (aa_aload0 iX12_winWide_8) (aa_go (aa_iload4 iX12_winWide_9) (aa_go (aa_cVi iX12_winWide_11 (m_isKnown hW pl hq2 hK.1 (by omega) (by omega)) (by omega) lc_X12_isKnown lk_X12_180 (sh_63 hW) rfl rfl (Nat.le_of_ble_eq_true rfl)) ?_)))))))
      refine aa_if_eqB iX12_winWide_14 (fun g1 => ?_) (fun g1 => ?_)
      · skip
        refine aa_go (aa_iconst iX12_winWide_25 ki_1) (aa_go (aa_istore5 iX12_winWide_26 rfl (by decide)) (aa_go (aa_iconst iX12_winWide_28 ki_0) (aa_go (aa_istore6 iX12_winWide_29 rfl (by decide)) (aa_go (aa_iconst iX12_winWide_31 ki_0) (aa_go (aa_istore7 iX12_winWide_32 rfl (by decide)) ?_)))))
        exact loop (pl_n P + m + 1) 0 σ true false (by omega) (by omega) FrA.rf hK rfl rfl
      · skip
        have hq4 := hq3 (of_decide_eq_true g1)
        rw [va] at hq4
        refine aa_go (aa_aload0 iX12_winWide_17) (aa_go (aa_getR iX12_winWide_18 fl_X12_174 (sh_63 hW) rfl) (aa_go (aa_iload4 iX12_winWide_21) (aa_go (aa_ialE iX12_winWide_23 (sh_75 hW) (by omega) (by omega) (hq4)) ?_)))
        refine aa_iret iX12_winWide_24 rfl ?_
        exact ⟨rfl, FrA.rf, hK⟩
    obtain ⟨ra, σ', ⟨rfl, h1⟩, hS9⟩ := aa_S_of (avs := [.ref 63, .int (nI t), .int (nI w), .int (nI (pl_n P + m))]) (by decide) 4 [some (.ref 63), some (.int (nI t)), some (.int (nI w)), some (.int (nI (pl_n P + m))), none, none, none, none] rfl rfl key
    exact ⟨σ', h1, hS9⟩
end
