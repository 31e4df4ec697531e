/-! THE REFERENCE: what a question knows; who wins -/
def MMQ (Q : Nat) (i : Nat → Nat → Int32) : Prop := i 63 24 = nI Q ∧ Q < 500000 ∧ ∀ p, p < 196608 → ∃ q, q ≤ Q ∧ i 74 p = nI q
def MMK (Q : Nat) (val : Nat → Int32) (i : Nat → Nat → Int32) : Prop := i 63 24 = nI Q ∧ Q < 500000 ∧ ∀ p, p < 196608 → ∃ q, q ≤ Q ∧ i 74 p = nI q ∧ (q = Q → i 75 p = val p)
theorem MMK.Q {Q : Nat} {val : Nat → Int32} {i : Nat → Nat → Int32} (h : MMK Q val i) : MMQ Q i := ⟨h.1, h.2.1, fun p hp => by
  obtain ⟨q, h1, h2, -⟩ := h.2.2 p hp
  exact ⟨q, h1, h2⟩⟩
theorem MMQ.ask {Q : Nat} {σ : aa_St} (h : MMQ Q σ.1) (hQ : Q + 1 < 500000) (val : Nat → Int32) : MMK (Q + 1) val (aa_sI σ 63 24 (nI (Q + 1))).1 := ⟨sI_eq, hQ, fun p hp => by
  obtain ⟨q, h1, h2⟩ := h.2.2 p hp
  exact ⟨q, by omega, by rw [sI_ne (by decide)]; exact h2, fun e => by omega⟩⟩
theorem MMK.set {Q p : Nat} {val : Nat → Int32} {σ : aa_St} (h : MMK Q val σ.1) : MMK Q val (aa_sI (aa_sI σ 74 p (nI Q)) 75 p (val p)).1 := by
  obtain ⟨h1, h2, h3⟩ := h
  refine ⟨by rw [sI_ne (by decide), sI_ne (by decide)]; exact h1, h2, fun p' hp' => ?_⟩
  by_cases c : p' = p
  · subst c
    exact ⟨Q, Nat.le_refl _, by rw [sI_ne (by decide), sI_eq], fun _ => sI_eq⟩
  · obtain ⟨q, a, b, d⟩ := h3 p' hp'
    exact ⟨q, a, by rw [sI_ne (by decide), sI_nk c]; exact b, fun e => by rw [sI_nk c, sI_ne (by decide)]; exact d e⟩
theorem MP.fm {P : pl_T} {σ σ' : aa_St} (h : MP P σ.1) (hF : FrA [74, 75] σ σ') : MP P σ'.1 := h.fr (by rw [hF.2 63 (by decide)]) (by rw [hF.2 63 (by decide)]) (fun x hx => hF.2 x (by simp; omega))
theorem pl_div {w t : Nat} (ht : t < 65536) : (w * 65536 + t) / 65536 = w ∧ (w * 65536 + t) % 65536 = t := by omega
def vW (P : pl_T) (e p : Nat) : Int32 := nI (wi P e (p / 65536) (dv P (p % 65536))).toNat
theorem vW_at (P : pl_T) {e w t : Nat} (ht : t < 65536) : vW P e (w * 65536 + t) = nI (wi P e w (dv P t)).toNat := by
  rw [vW, (pl_div ht).1, (pl_div ht).2]
section
variable {r : Nat → Nat} {dy : List aa_Shp} {P : pl_T} {Q : Nat}
theorem m_win {e : Nat} (he : e ≤ 1) : ∀ f t w (σ : aa_St), pl_mu P (dv P t) ≤ f → t < 65536 → w ≤ 1 → aa_W r dy σ → MP P σ.1 → MMK Q (vW P e) σ.1 →
    ∃ σ' : aa_St, (FrA [74, 75] σ σ' ∧ MMK Q (vW P e) σ'.1) ∧ aa_SX mX12_win (5 + f) [.ref 63, .int (nI t), .int (nI w), .int (nI e)] σ (some (.int (nI (wi P e w (dv P t)).toNat))) σ' := by
  intro f
  induction f using Nat.strongRecOn with
  | ind f ih =>
    intro t w σ hf ht hw hW hM hK
    have ok := hM.1
    have pl : w * 65536 + t < 196608 := by omega
    have va := vW_at P (e := e) (w := w) ht
    -- the end: 91
    have fin : ∀ (σ1 : aa_St) (a b : Bool) y7, FrA [74, 75] σ σ1 → MMK Q (vW P e) σ1.1 → (wi P e w (dv P t) = if a then e == 1 else b) → aa_V mX12_win (5 + f) 91 [some (.ref 63), some (.int (nI t)), some (.int (nI w)), some (.int (nI e)), some (.int (nI (w * 65536 + t))), some (.int (nI a.toNat)), some (.int (nI b.toNat)), y7] [] σ1 (fun ra σ' => ra = some (.int (nI (wi P e w (dv P t)).toNat)) ∧ FrA [74, 75] σ σ' ∧ MMK Q (vW P e) σ'.1) := by
      intro σ1 a b y7 hF hK1 hv
      have hW1 := hF.W hW
      have ks := hK1.set (p := w * 65536 + t)
      have hS := m_keeps hW1 pl hK1.1 (vW P e (w * 65536 + t))
      rw [va] at ks hS
      refine aa_go (aa_aload0 iX12_win_91) (aa_go (aa_iload4 iX12_win_92) (aa_go (aa_iload5 iX12_win_94) ?_))
      refine aa_if_eqB iX12_win_96 (fun g1 => ?_) (fun g1 => ?_)
      · skip
        rw [g1] at hv
        have hv2 : wi P e w (dv P t) = b := hv
        refine aa_go (aa_iload6 iX12_win_103) (aa_go (aa_cSi iX12_win_105 (m_flag b) (by omega) lc_X12_flag lk_X12_31 rfl (Nat.le_of_ble_eq_true rfl)) ?_)
        rw [← hv2]
        refine aa_go (aa_cVi iX12_win_108 (hS) (by omega) lc_X12_keeps lk_X12_186 (sh_63 hW1) rfl rfl (Nat.le_of_ble_eq_true rfl)) ?_
        refine aa_iret iX12_win_111 rfl ?_
        exact ⟨rfl, (hF.s (by decide) _ _).s (by decide) _ _, ks⟩
      · skip
        rw [g1] at hv
        have hv2 : nI e = nI (wi P e w (dv P t)).toNat := by
          rw [show wi P e w (dv P t) = (e == 1) from hv]
          rcases (show e = 0 ∨ e = 1 by omega) with rfl | rfl <;> rfl
        refine aa_go (aa_iload3 iX12_win_99) (aa_go (aa_goto iX12_win_100) ?_)
        refine aa_go (aa_top (y := nI (wi P e w (dv P t)).toNat) (hv2)) ?_
        refine aa_go (aa_cVi iX12_win_108 (hS) (by omega) lc_X12_keeps lk_X12_186 (sh_63 hW1) rfl rfl (Nat.le_of_ble_eq_true rfl)) ?_
        refine aa_iret iX12_win_111 rfl ?_
        exact ⟨rfl, (hF.s (by decide) _ _).s (by decide) _ _, ks⟩
    have loop : ∀ d m (σ1 : aa_St) (a b : Bool), 28 - m < d → m ≤ 28 → FrA [74, 75] σ σ1 → MMK Q (vW P e) σ1.1 → a = decide (mlk P w (dv P t) (msT P m) = []) → b = wiA P e w (dv P t) (msT P m) → aa_V mX12_win (5 + f) 34 [some (.ref 63), some (.int (nI t)), some (.int (nI w)), some (.int (nI e)), some (.int (nI (w * 65536 + t))), some (.int (nI a.toNat)), some (.int (nI b.toNat)), some (.int (nI m))] [] σ1 (fun ra σ' => ra = some (.int (nI (wi P e w (dv P t)).toNat)) ∧ FrA [74, 75] σ σ' ∧ MMK Q (vW P e) σ'.1) := by
      intro d
      induction d with
      | zero => intro m σ1 a b g1; omega
      | succ d ihd =>
        intro m σ1 a b g1 g2 hF hK1 ha hb
        have hW1 := hF.W hW
        have hM1 := hM.fm hF
        refine aa_go (aa_iload7 iX12_win_34) (aa_go (aa_bipush iX12_win_36 kb_28) ?_)
        refine aa_ic_geN iX12_win_38 (by omega) (by omega) (fun g3 => ?_) (fun g3 => ?_)
        · skip
          have em : m = 28 := by omega
          subst em
          rw [ms_28 ok] at ha hb
          refine fin σ1 a b _ hF hK1 ?_
          rw [wi_of ok]
          by_cases c : pl_mv P w (dv P t) = 0
          · rw [if_pos c, ha, mlk_all, decide_eq_true (mv_0.mp c)]; rfl
          · rw [if_neg c, ha, mlk_all, decide_eq_false (fun q => c (mv_0.mpr q)), hb]; rfl
        · skip
          refine aa_go (aa_iload6 iX12_win_41) ?_
          refine aa_if_neB iX12_win_43 (fun g4 => ?_) (fun g4 => ?_)
          · skip
            rw [g4] at hb
            have hne : a = false := by
              rw [ha]
              apply decide_eq_false
              intro q
              rw [wiA, q] at hb
              simp at hb
            rw [hne, g4]
            refine fin σ1 false true _ hF hK1 ?_
            have mn : msT P m ≤ pl_n P + pl_b P := by
              have : ∀ d, m + d ≤ 28 → msT P m ≤ msT P (m + d) := by
                intro d
                induction d with
                | zero => intro _; exact Nat.le_refl _
                | succ d ih2 =>
                  intro hd
                  have i1 := ih2 (by omega)
                  rw [show m + (d + 1) = m + d + 1 by omega]
                  cases q : pl_sp P (m + d) with
                  | none => rw [ms_none ok (by omega) q]; exact i1
                  | some j => have := ms_some ok (show m + d < 28 by omega) q; omega
              have := this (28 - m) (by omega)
              rw [show m + (28 - m) = 28 by omega, ms_28 ok] at this
              exact this
            rw [wi_of ok, if_neg, wiA_mono mn hb.symm]
            · rfl
            · intro c
              have := wiA_mono mn hb.symm
              rw [wiA, mlk_all, mv_0.mp c] at this
              simp at this
          · skip
            refine aa_go (aa_aload0 iX12_win_46) (aa_go (aa_iload1 iX12_win_47) (aa_go (aa_iload2 iX12_win_48) (aa_go (aa_iload7 iX12_win_49) (aa_go (aa_cVi iX12_win_51 (m_can hW1 hM1 ht (by omega) (by omega)) (by omega) lc_X12_can lk_X12_140 (sh_63 hW1) rfl rfl (Nat.le_of_ble_eq_true rfl)) ?_))))
            refine aa_if_eqB iX12_win_54 (fun g5 => ?_) (fun g5 => ?_)
            · skip
              refine aa_go (aa_iincN7 (k := 1) iX12_win_85 rfl (by decide)) (aa_go (aa_goto iX12_win_88) ?_)
              have e1 := mlk_cn_f ok g3 g5
              exact ihd (m + 1) σ1 a b (by omega) (by omega) hF hK1 (by rw [ha, e1]) (by rw [hb, wiA, wiA, e1])
            · skip
              obtain ⟨j, hj, jl, -, lg, m1, m2⟩ := cn_t ok g5
              have e1 := mlk_cn_t ok g5 hj
              have mu := pl_mu_lt ok lg
              have al := af_lt ok ht g3
              have da := dv_af (t := t) ok hj
              obtain ⟨σ2, ⟨hF2, hK2⟩, hS2⟩ := ih (pl_mu P (dv P (af P t m))) (by rw [da]; omega) (af P t m) (1 - w) σ1 (Nat.le_refl _) al (by omega) hW1 hM1 hK1
              have dl : pl_mu P (dv P (af P t m)) < f := by rw [da]; omega
              rw [da] at hS2
              have tb : (wi P e (1 - w) (pl_nx P (dv P t) j)).toNat ≤ 1 := Bool.toNat_le _
              refine aa_go (aa_iconst iX12_win_57 ki_0) (aa_go (aa_istore5 iX12_win_58 rfl (by decide)) (aa_go (aa_aload0 iX12_win_60) (aa_go (aa_aload0 iX12_win_61) (aa_go (aa_iload1 iX12_win_62) (aa_go (aa_iload7 iX12_win_63) (aa_go (aa_cVi iX12_win_65 (m_after hW1 hM1 g3 hj) (by omega) lc_X12_after lk_X12_137 (sh_63 hW1) rfl rfl (Nat.le_of_ble_eq_true rfl)) (aa_go (aa_iconst iX12_win_68 ki_1) ?_)))))))
              refine aa_go (aa_iload2 iX12_win_69) (aa_go (aa_isubN iX12_win_70 (by omega)) (aa_go (aa_iload3 iX12_win_71) (aa_go (aa_cVi iX12_win_72 (hS2) (by rw [da] at dl; omega) lc_X12_win lk_X12_183 (sh_63 hW1) rfl rfl (Nat.le_of_ble_eq_true rfl)) ?_)))
              refine aa_if_neB iX12_win_75 (fun g6 => ?_) (fun g6 => ?_)
              · skip
                refine aa_go (aa_iconst iX12_win_82 ki_0) (aa_go (aa_istore6 iX12_win_83 rfl (by decide)) (aa_go (aa_iincN7 (k := 1) iX12_win_85 rfl (by decide)) (aa_go (aa_goto iX12_win_88) ?_)))
                refine ihd (m + 1) σ2 false false (by omega) (by omega) (hF.tr hF2) hK2 ?_ ?_
                · rw [e1]; simp
                · rw [m2, wiA_t lg, g6, ← m1, ← hb, g4]; rfl
              · skip
                refine aa_go (aa_iconst iX12_win_78 ki_1) (aa_go (aa_goto iX12_win_79) (aa_go (aa_istore6 iX12_win_83 rfl (by decide)) (aa_go (aa_iincN7 (k := 1) iX12_win_85 rfl (by decide)) (aa_go (aa_goto iX12_win_88) ?_))))
                refine ihd (m + 1) σ2 false true (by omega) (by omega) (hF.tr hF2) hK2 ?_ ?_
                · rw [e1]; simp
                · rw [m2, wiA_t lg, g6]; simp
    have key : aa_V mX12_win (5 + f) 0 [some (.ref 63), some (.int (nI t)), some (.int (nI w)), some (.int (nI e)), none, none, none, none] [] σ (fun ra σ' => ra = some (.int (nI (wi P e w (dv P t)).toNat)) ∧ FrA [74, 75] σ σ' ∧ MMK Q (vW P e) σ'.1) := by
      obtain ⟨q, hq1, hq2, hq3⟩ := hK.2.2 (w * 65536 + t) pl
      have hQ := hK.2.1
      refine aa_go (aa_aload0 iX12_win_0) (aa_go (aa_iload1 iX12_win_1) (aa_go (aa_iload2 iX12_win_2) (aa_go (aa_cVi iX12_win_3 (m_placeOf hW) (by omega) lc_X12_placeOf lk_X12_177 (sh_63 hW) rfl rfl (Nat.le_of_ble_eq_true rfl)) (aa_go (aa_istore4 iX12_win_6 rfl (by decide)) (aa_go (aa_aload0 iX12_win_8) (aa_go (aa_iload4 iX12_win_9) (aa_go (aa_cVi iX12_win_11 (m_isKnown hW pl hq2 hK.1 (by omega) (by omega)) (by omega) lc_X12_isKnown lk_X12_180 (sh_63 hW) rfl rfl (Nat.le_of_ble_eq_true rfl)) ?_)))))))
      refine aa_if_eqB iX12_win_14 (fun g1 => ?_) (fun g1 => ?_)
      · skip
        refine aa_go (aa_iconst iX12_win_25 ki_1) (aa_go (aa_istore5 iX12_win_26 rfl (by decide)) (aa_go (aa_iconst iX12_win_28 ki_0) (aa_go (aa_istore6 iX12_win_29 rfl (by decide)) (aa_go (aa_iconst iX12_win_31 ki_0) (aa_go (aa_istore7 iX12_win_32 rfl (by decide)) ?_)))))
        exact loop 29 0 σ true false (by omega) (by omega) FrA.rf hK (by rw [ms_0]; rfl) (by rw [ms_0]; rfl)
      · skip
        have hq4 := hq3 (of_decide_eq_true g1)
        rw [va] at hq4
        refine aa_go (aa_aload0 iX12_win_17) (aa_go (aa_getR iX12_win_18 fl_X12_174 (sh_63 hW) rfl) (aa_go (aa_iload4 iX12_win_21) (aa_go (aa_ialE iX12_win_23 (sh_75 hW) (by omega) (by omega) (hq4)) ?_)))
        refine aa_iret iX12_win_24 rfl ?_
        exact ⟨rfl, FrA.rf, hK⟩
    obtain ⟨ra, σ', ⟨rfl, h1⟩, hS9⟩ := aa_S_of (avs := [.ref 63, .int (nI t), .int (nI w), .int (nI e)]) (by decide) 4 [some (.ref 63), some (.int (nI t)), some (.int (nI w)), some (.int (nI e)), none, none, none, none] rfl rfl key
    exact ⟨σ', h1, hS9⟩
end
