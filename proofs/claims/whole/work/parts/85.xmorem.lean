/-! THE REFERENCE: how much more one gets, and by which move first -/
def FrQ (σ σ' : aa_St) : Prop := σ'.2 = σ.2 ∧ (∀ x, x ∉ [63, 74, 75] → σ'.1 x = σ.1 x) ∧ ∀ k, k ≠ 25 → σ'.1 63 k = σ.1 63 k
theorem FrQ.rf {σ : aa_St} : FrQ σ σ := ⟨rfl, fun _ _ => rfl, fun _ _ => rfl⟩
theorem FrQ.tr {σ σ1 σ2 : aa_St} (h : FrQ σ σ1) (g : FrQ σ1 σ2) : FrQ σ σ2 := ⟨g.1.trans h.1, fun x hx => (g.2.1 x hx).trans (h.2.1 x hx), fun k hk => (g.2.2 k hk).trans (h.2.2 k hk)⟩
theorem FrQ.A {σ σ' : aa_St} (h : FrA [74, 75] σ σ') : FrQ σ σ' := ⟨h.1, fun x hx => h.2 x (fun c => hx (List.mem_cons_of_mem _ c)), fun k _ => by rw [h.2 63 (by decide)]⟩
theorem FrQ.s {σ σ1 : aa_St} (h : FrQ σ σ1) {c : Nat} (hc : c = 74 ∨ c = 75) (k : Nat) (x : Int32) : FrQ σ (aa_sI σ1 c k x) := ⟨h.1, fun a ha => by
  simp only [List.mem_cons, List.not_mem_nil, or_false, not_or] at ha
  rw [sI_ne (by omega)]; exact h.2.1 a (by simp; omega), fun j hj => by rw [sI_ne (by omega)]; exact h.2.2 j hj⟩
theorem FrQ.f {σ σ1 : aa_St} (h : FrQ σ σ1) (x : Int32) : FrQ σ (aa_sI σ1 63 25 x) := ⟨h.1, fun a ha => by
  simp only [List.mem_cons, List.not_mem_nil, or_false, not_or] at ha
  rw [sI_ne ha.1]; exact h.2.1 a (by simp; omega), fun j hj => by rw [sI_nk hj]; exact h.2.2 j hj⟩
theorem FrQ.W {σ σ' : aa_St} {r : Nat → Nat} {dy : List aa_Shp} (h : FrQ σ σ') (hW : aa_W r dy σ) : aa_W r dy σ' := hW.of2 (by rw [h.1])
theorem FrQ.MP {P : pl_T} {σ σ' : aa_St} (hF : FrQ σ σ') (h : MP P σ.1) : MP P σ'.1 := h.fr (hF.2.2 3 (by decide)) (hF.2.2 8 (by decide)) (fun x hx => hF.2.1 x (by simp; omega))
theorem MMK.f {Q : Nat} {val : Nat → Int32} {σ : aa_St} (h : MMK Q val σ.1) (x : Int32) : MMK Q val (aa_sI σ 63 25 x).1 := ⟨by rw [sI_nk (by decide)]; exact h.1, h.2.1, fun p hp => by
  obtain ⟨q, a, b, c⟩ := h.2.2 p hp
  exact ⟨q, a, by rw [sI_ne (by decide)]; exact b, fun e => by rw [sI_ne (by decide)]; exact c e⟩⟩
/-- a state that is not yet known to a question -/
def FRE (Q p : Nat) (i : Nat → Nat → Int32) : Prop := i 74 p ≠ nI Q
def meV (P : pl_T) (w s j : Nat) : Int := (pl_wo P (bd s (pl_nx P s j)) : Int) - me P (1 - w) (pl_nx P s j)
def fbm (P : pl_T) (w s k : Nat) : Option Nat := (mlk P w s k).find? (fun j => meV P w s j == meA P w s k)
def vM (P : pl_T) (p : Nat) : Int32 := iZ (me P (p / 65536) (dv P (p % 65536)))
theorem vM_at (P : pl_T) {w t : Nat} (ht : t < 65536) : vM P (w * 65536 + t) = iZ (me P w (dv P t)) := by
  rw [vM, (pl_div ht).1, (pl_div ht).2]
section
variable {P : pl_T}
theorem meA_max (ok : pl_ok P) (w s : Nat) : ∀ k, (∀ j, j ∈ mlk P w s k → meV P w s j ≤ meA P w s k) ∧ (mlk P w s k ≠ [] → ∃ j, j ∈ mlk P w s k ∧ meV P w s j = meA P w s k)
  | 0 => ⟨fun j hj => absurd hj List.not_mem_nil, fun h => absurd rfl h⟩
  | k + 1 => by
    have ih := meA_max ok w s k
    cases hl : pl_lg P w s k with
    | false => rw [mlk_f hl, meA_f hl]; exact ih
    | true =>
      have b1 := me_le ok (1 - w) (pl_nx P s k)
      have b3 := pl_wo_le ok (bd s (pl_nx P s k))
      have e : meA P w s (k + 1) = max (meA P w s k) (meV P w s k) := meA_t hl
      rw [mlk_t hl, e]
      refine ⟨fun j hj => ?_, fun _ => ?_⟩
      · rcases List.mem_append.mp hj with h1 | h1
        · have := ih.1 j h1; omega
        · simp at h1; subst h1; omega
      · by_cases c : mlk P w s k = []
        · refine ⟨k, by simp, ?_⟩
          have e0 : meA P w s k = -1000 := by rw [meA, c]; rfl
          rw [e0]; unfold meV; omega
        · obtain ⟨j, h1, h2⟩ := ih.2 c
          by_cases c2 : meV P w s k ≤ meA P w s k
          · exact ⟨j, List.mem_append_left _ h1, by omega⟩
          · exact ⟨k, by simp, by omega⟩
theorem fbm_new (ok : pl_ok P) {w s k : Nat} (hl : pl_lg P w s k = true) (h : mlk P w s k = [] ∨ meA P w s k < meV P w s k) : meA P w s (k + 1) = meV P w s k ∧ fbm P w s (k + 1) = some k := by
  have e : meA P w s (k + 1) = max (meA P w s k) (meV P w s k) := meA_t hl
  have b1 := me_le ok (1 - w) (pl_nx P s k)
  have b3 := pl_wo_le ok (bd s (pl_nx P s k))
  have e1 : meA P w s (k + 1) = meV P w s k := by
    rcases h with h | h
    · have e0 : meA P w s k = -1000 := by rw [meA, h]; rfl
      rw [e, e0]; unfold meV; omega
    · omega
  refine ⟨e1, ?_⟩
  rw [fbm, e1, mlk_t hl, List.find?_append]
  have : (mlk P w s k).find? (fun j => meV P w s j == meV P w s k) = none := by
    rw [List.find?_eq_none]
    intro j hj
    rcases h with h | h
    · rw [h] at hj; exact absurd hj List.not_mem_nil
    · have := (meA_max ok w s k).1 j hj
      simp; omega
  rw [this]; simp
theorem fbm_old (ok : pl_ok P) {w s k : Nat} (hl : pl_lg P w s k = true) (h : mlk P w s k ≠ []) (h2 : ¬ meA P w s k < meV P w s k) : meA P w s (k + 1) = meA P w s k ∧ fbm P w s (k + 1) = fbm P w s k := by
  have e : meA P w s (k + 1) = max (meA P w s k) (meV P w s k) := meA_t hl
  have e1 : meA P w s (k + 1) = meA P w s k := by omega
  refine ⟨e1, ?_⟩
  rw [fbm, fbm, e1, mlk_t hl, List.find?_append]
  obtain ⟨j, h3, h4⟩ := (meA_max ok w s k).2 h
  cases q : (mlk P w s k).find? (fun j => meV P w s j == meA P w s k) with
  | some x => rfl
  | none =>
    rw [List.find?_eq_none] at q
    have := q j h3
    simp at this
    exact absurd h4 this
end
section
variable {r : Nat → Nat} {dy : List aa_Shp} {P : pl_T} {Q : Nat}
theorem m_more : ∀ f t w (σ : aa_St), pl_mu P (dv P t) ≤ f → t < 65536 → w ≤ 1 → aa_W r dy σ → MP P σ.1 → MMK Q (vM P) σ.1 →
    ∃ σ' : aa_St, (FrQ σ σ' ∧ MMK Q (vM P) σ'.1 ∧ (FRE Q (w * 65536 + t) σ.1 → σ'.1 63 25 = iZ (mvZ P (fbm P w (dv P t) (pl_n P + pl_b P))))) ∧ aa_SX mX12_more (5 + f) [.ref 63, .int (nI t), .int (nI w)] σ (some (.int (iZ (me P w (dv P t))))) σ' := by
  intro f
  induction f using Nat.strongRecOn with
  | ind f ih =>
    intro t w σ hf ht hw hW hM hK
    have ok := hM.1
    have pl : w * 65536 + t < 196608 := by omega
    have va := vM_at P (w := w) ht
    have loop : ∀ d m (σ1 : aa_St) (a : Int) (b : Option Nat) y7, 28 - m < d → m ≤ 28 → FrQ σ σ1 → MMK Q (vM P) σ1.1 → (mlk P w (dv P t) (msT P m) = [] ∧ a = 0 ∧ b = none ∨ mlk P w (dv P t) (msT P m) ≠ [] ∧ a = meA P w (dv P t) (msT P m) ∧ b = fbm P w (dv P t) (msT P m) ∧ b ≠ none) → aa_V mX12_more (5 + f) 31 [some (.ref 63), some (.int (nI t)), some (.int (nI w)), some (.int (nI (w * 65536 + t))), some (.int (iZ a)), some (.int (iZ (mvZ P b))), some (.int (nI m)), y7] [] σ1 (fun ra σ' => ra = some (.int (iZ (me P w (dv P t)))) ∧ FrQ σ σ' ∧ MMK Q (vM P) σ'.1 ∧ σ'.1 63 25 = iZ (mvZ P (fbm P w (dv P t) (pl_n P + pl_b P)))) := by
      intro d
      induction d with
      | zero => intro m σ1 a b y7 g1; omega
      | succ d ihd =>
        intro m σ1 a b y7 g1 g2 hF hK1 hab
        have hW1 := hF.W hW
        have hM1 := hF.MP hM
        have ab1 := meA_le ok w (dv P t) (msT P m)
        refine aa_go (aa_iload6 iX12_more_31) (aa_go (aa_bipush iX12_more_33 kb_28) ?_)
        refine aa_ic_geN iX12_more_35 (by omega) (by omega) (fun g3 => ?_) (fun g3 => ?_)
        · skip
          have em : m = 28 := by omega
          subst em
          rw [ms_28 ok] at hab
          have e2 : a = me P w (dv P t) ∧ b = fbm P w (dv P t) (pl_n P + pl_b P) := by
            rw [me_eq ok]
            rcases hab with ⟨h1, h2, h3⟩ | ⟨h1, h2, h3, -⟩
            · rw [mlk_all] at h1
              rw [if_pos (mv_0.mpr h1), h2, h3, fbm, mlk_all, h1]; exact ⟨rfl, rfl⟩
            · rw [mlk_all] at h1
              rw [if_neg (fun q => h1 (mv_0.mp q)), h2, h3]; exact ⟨rfl, rfl⟩
          rw [e2.1, e2.2]
          have ks := (hK1.f (iZ (mvZ P (fbm P w (dv P t) (pl_n P + pl_b P))))).set (p := w * 65536 + t)
          have hWf := hW1.sI 63 25 (iZ (mvZ P (fbm P w (dv P t) (pl_n P + pl_b P))))
          have hS := m_keeps hWf pl (hK1.f (iZ (mvZ P (fbm P w (dv P t) (pl_n P + pl_b P))))).1 (vM P (w * 65536 + t))
          rw [va] at ks hS
          refine aa_go (aa_aload0 iX12_more_99) (aa_go (aa_iload5 iX12_more_100) (aa_go (aa_putI iX12_more_102 fl_X12_198 (fun h => nomatch h) (sh_63 hW1) rfl ⟨rfl, rfl⟩) (aa_go (aa_aload0 iX12_more_105) (aa_go (aa_iload3 iX12_more_106) (aa_go (aa_iload4 iX12_more_107) (aa_go (aa_cVi iX12_more_109 (hS) (by omega) lc_X12_keeps lk_X12_186 (sh_63 hW1) rfl rfl (Nat.le_of_ble_eq_true rfl)) ?_))))))
          refine aa_iret iX12_more_112 rfl ?_
          refine ⟨rfl, ((hF.f _).s (Or.inl rfl) _ _).s (Or.inr rfl) _ _, ks, ?_⟩
          rw [sI_ne (by decide), sI_ne (by decide), sI_eq]
        · skip
          refine aa_go (aa_aload0 iX12_more_38) (aa_go (aa_iload1 iX12_more_39) (aa_go (aa_iload2 iX12_more_40) (aa_go (aa_iload6 iX12_more_41) (aa_go (aa_cVi iX12_more_43 (m_can hW1 hM1 ht (by omega) (by omega)) (by omega) lc_X12_can lk_X12_140 (sh_63 hW1) rfl rfl (Nat.le_of_ble_eq_true rfl)) ?_))))
          refine aa_if_eqB iX12_more_46 (fun g5 => ?_) (fun g5 => ?_)
          · skip
            have e1 := mlk_cn_f ok g3 g5
            have e2 : meA P w (dv P t) (msT P (m + 1)) = meA P w (dv P t) (msT P m) := by rw [meA, meA, e1]
            refine aa_go (aa_iincN6 (k := 1) iX12_more_93 rfl (by decide)) (aa_go (aa_goto iX12_more_96) ?_)
            refine ihd (m + 1) σ1 a b _ (by omega) (by omega) hF hK1 ?_
            rw [fbm, e1, e2]; exact hab
          · skip
            obtain ⟨j, hj, jl, -, lg, m1, m2⟩ := cn_t ok g5
            have mu := pl_mu_lt ok lg
            have al := af_lt ok ht g3
            have da := dv_af (t := t) ok hj
            have dl : pl_mu P (dv P (af P t m)) < f := by rw [da]; omega
            obtain ⟨σ2, ⟨hF2, hK2, -⟩, hS2⟩ := ih (pl_mu P (dv P (af P t m))) dl (af P t m) (1 - w) σ1 (Nat.le_refl _) al (by omega) hW1 hM1 hK1
            rw [da] at hS2 dl
            have hW2 := hF2.W hW1
            have b1 := me_le ok (1 - w) (pl_nx P (dv P t) j)
            have b3 := pl_wo_le ok (bd (dv P t) (pl_nx P (dv P t) j))
            have mv : meV P w (dv P t) j = (pl_wo P (bd (dv P t) (pl_nx P (dv P t) j)) : Int) - me P (1 - w) (pl_nx P (dv P t) j) := rfl
            have em : mvZ P (some j) = m := by show (pl_mo P j : Int) = m; rw [mo_sp ok hj]
            have yes : (mlk P w (dv P t) (msT P m) = [] ∨ meA P w (dv P t) (msT P m) < meV P w (dv P t) j) → aa_V mX12_more (5 + f) 31 [some (.ref 63), some (.int (nI t)), some (.int (nI w)), some (.int (nI (w * 65536 + t))), some (.int (iZ (meV P w (dv P t) j))), some (.int (iZ (mvZ P (some j)))), some (.int (nI (m + 1))), some (.int (iZ (meV P w (dv P t) j)))] [] σ2 (fun ra σ' => ra = some (.int (iZ (me P w (dv P t)))) ∧ FrQ σ σ' ∧ MMK Q (vM P) σ'.1 ∧ σ'.1 63 25 = iZ (mvZ P (fbm P w (dv P t) (pl_n P + pl_b P)))) := by
              intro hy
              rw [m1] at hy
              obtain ⟨x1, x2⟩ := fbm_new ok lg hy
              refine ihd (m + 1) σ2 _ _ _ (by omega) (by omega) (hF.tr hF2) hK2 (Or.inr ⟨?_, ?_, ?_, by simp⟩)
              · rw [m2, mlk_t lg]; simp
              · rw [m2, x1]
              · rw [m2, x2]
            rw [em] at yes
            refine aa_go (aa_aload0 iX12_more_49) (aa_go (aa_iload1 iX12_more_50) (aa_go (aa_iload6 iX12_more_51) (aa_go (aa_cVi iX12_more_53 (m_worthOf hW1 hM1 ht g3 hj) (by omega) lc_X12_worthOf lk_X12_160 (sh_63 hW1) rfl rfl (Nat.le_of_ble_eq_true rfl)) (aa_go (aa_aload0 iX12_more_56) (aa_go (aa_aload0 iX12_more_57) (aa_go (aa_iload1 iX12_more_58) (aa_go (aa_iload6 iX12_more_59) ?_)))))))
            refine aa_go (aa_cVi iX12_more_61 (m_after hW1 hM1 g3 hj) (by omega) lc_X12_after lk_X12_137 (sh_63 hW1) rfl rfl (Nat.le_of_ble_eq_true rfl)) (aa_go (aa_iconst iX12_more_64 ki_1) (aa_go (aa_iload2 iX12_more_65) (aa_go (aa_isubN iX12_more_66 (by omega)) (aa_go (aa_cVi iX12_more_67 (hS2) (by omega) lc_X12_more lk_X12_262 (sh_63 hW1) rfl rfl (Nat.le_of_ble_eq_true rfl)) (aa_go (aa_isub iX12_more_70) ?_)))))
            refine aa_go (aa_top (y := iZ (meV P w (dv P t) j)) (by rw [mv, iZ_N, iZ_sub])) ?_
            refine aa_go (aa_istore7 iX12_more_71 rfl (by decide)) (aa_go (aa_iload5 iX12_more_73) ?_)
            refine aa_if_lt iX12_more_75 (fun g6 => ?_) (fun g6 => ?_)
            · skip
              have hb : b = none := by
                cases b with
                | none => rfl
                | some x =>
                  exfalso
                  have : ¬ iZ (mvZ P (some x)) < 0 := nI_nneg (by
                    rcases hab with ⟨-, -, q⟩ | ⟨-, -, q, -⟩
                    · simp at q
                    · have := mlk_lt (List.mem_of_find?_eq_some q.symm)
                      have h1 := ok.1
                      have h2 := ok.2.1
                      have h5 := ok.2.2.2.2.1 (x - pl_n P)
                      unfold pl_mo; split <;> omega)
                  exact this g6
              refine aa_go (aa_iload7 iX12_more_85) (aa_go (aa_istore4 iX12_more_87 rfl (by decide)) (aa_go (aa_iload6 iX12_more_89) (aa_go (aa_istore5 iX12_more_91 rfl (by decide)) (aa_go (aa_iincN6 (k := 1) iX12_more_93 rfl (by decide)) (aa_go (aa_goto iX12_more_96) ?_)))))
              refine yes (Or.inl ?_)
              rcases hab with ⟨q, -, -⟩ | ⟨-, -, -, q⟩
              · exact q
              · exact absurd hb q
            · skip
              have hne : mlk P w (dv P t) (msT P m) ≠ [] ∧ a = meA P w (dv P t) (msT P m) ∧ b = fbm P w (dv P t) (msT P m) ∧ b ≠ none := by
                rcases hab with ⟨-, -, q⟩ | q
                · rw [q] at g6; exact absurd (show iZ (-1) < 0 by decide) g6
                · exact q
              refine aa_go (aa_iload7 iX12_more_78) (aa_go (aa_iload4 iX12_more_80) ?_)
              refine aa_ic_le iX12_more_82 (fun g7 => ?_) (fun g7 => ?_)
              · skip
                rw [iZ_le (by omega) (by omega) (by omega) (by omega)] at g7
                obtain ⟨x1, x2⟩ := fbm_old ok lg (by rw [← m1]; exact hne.1) (by rw [show meA P w (dv P t) j = a by rw [hne.2.1, m1]]; omega)
                refine aa_go (aa_iincN6 (k := 1) iX12_more_93 rfl (by decide)) (aa_go (aa_goto iX12_more_96) ?_)
                refine ihd (m + 1) σ2 a b _ (by omega) (by omega) (hF.tr hF2) hK2 (Or.inr ⟨?_, ?_, ?_, hne.2.2.2⟩)
                · rw [m2, mlk_t lg]; simp
                · rw [m2, x1, ← m1]; exact hne.2.1
                · rw [m2, x2, ← m1]; exact hne.2.2.1
              · skip
                rw [iZ_le (by omega) (by omega) (by omega) (by omega)] at g7
                refine aa_go (aa_iload7 iX12_more_85) (aa_go (aa_istore4 iX12_more_87 rfl (by decide)) (aa_go (aa_iload6 iX12_more_89) (aa_go (aa_istore5 iX12_more_91 rfl (by decide)) (aa_go (aa_iincN6 (k := 1) iX12_more_93 rfl (by decide)) (aa_go (aa_goto iX12_more_96) ?_)))))
                refine yes (Or.inr ?_)
                rw [← hne.2.1]; omega
    have key : aa_V mX12_more (5 + f) 0 [some (.ref 63), some (.int (nI t)), some (.int (nI w)), none, none, none, none, none] [] σ (fun ra σ' => ra = some (.int (iZ (me P w (dv P t)))) ∧ FrQ σ σ' ∧ MMK Q (vM P) σ'.1 ∧ (FRE Q (w * 65536 + t) σ.1 → σ'.1 63 25 = iZ (mvZ P (fbm P w (dv P t) (pl_n P + pl_b P))))) := by
      obtain ⟨q, hq1, hq2, hq3⟩ := hK.2.2 (w * 65536 + t) pl
      have hQ := hK.2.1
      have lp := loop 29 0 σ 0 none none (by omega) (by omega) FrQ.rf hK (Or.inl ⟨by rw [ms_0]; rfl, rfl, rfl⟩)
      obtain ⟨rb, σb, ⟨h1, h2, h3, h4⟩, hV⟩ := lp
      refine aa_go (aa_aload0 iX12_more_0) (aa_go (aa_iload1 iX12_more_1) (aa_go (aa_iload2 iX12_more_2) (aa_go (aa_cVi iX12_more_3 (m_placeOf hW) (by omega) lc_X12_placeOf lk_X12_177 (sh_63 hW) rfl rfl (Nat.le_of_ble_eq_true rfl)) (aa_go (aa_istore3 iX12_more_6 rfl (by decide)) (aa_go (aa_aload0 iX12_more_7) (aa_go (aa_iload3 iX12_more_8) (aa_go (aa_cVi iX12_more_9 (m_isKnown hW pl hq2 hK.1 (by omega) (by omega)) (by omega) lc_X12_isKnown lk_X12_180 (sh_63 hW) rfl rfl (Nat.le_of_ble_eq_true rfl)) ?_)))))))
      refine aa_if_eqB iX12_more_12 (fun g1 => ?_) (fun g1 => ?_)
      · skip
        refine aa_go (aa_iconst iX12_more_22 ki_0) (aa_go (aa_istore4 iX12_more_23 rfl (by decide)) (aa_go (aa_iconst iX12_more_25 ki_m1) (aa_go (aa_istore5 iX12_more_26 rfl (by decide)) (aa_go (aa_iconst iX12_more_28 ki_0) (aa_go (aa_istore6 iX12_more_29 rfl (by decide)) ?_)))))
        exact ⟨rb, σb, ⟨h1, h2, h3, fun _ => h4⟩, hV⟩
      · skip
        have hq5 := of_decide_eq_true g1
        have hq4 := hq3 hq5
        rw [va] at hq4
        refine aa_go (aa_aload0 iX12_more_15) (aa_go (aa_getR iX12_more_16 fl_X12_174 (sh_63 hW) rfl) (aa_go (aa_iload3 iX12_more_19) (aa_go (aa_ialE iX12_more_20 (sh_75 hW) (by omega) (by omega) (hq4)) ?_)))
        refine aa_iret iX12_more_21 rfl ?_
        exact ⟨rfl, FrQ.rf, hK, fun hfr => absurd (by rw [hq2, hq5]) hfr⟩
    obtain ⟨ra, σ', ⟨rfl, h1⟩, hS9⟩ := aa_S_of (avs := [.ref 63, .int (nI t), .int (nI w)]) (by decide) 5 [some (.ref 63), some (.int (nI t)), some (.int (nI w)), none, none, none, none, none] rfl rfl key
    exact ⟨σ', h1, hS9⟩
end
