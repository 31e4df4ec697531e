/-! THE REFERENCE: heapOf -/
def tcb (P : pl_T) (X i a : Nat) : Bool := !decide (pl_u P i &&& X = 0) || (List.range a).any (fun q => X.testBit q && (pl_u P q).testBit i)
section
variable {P : pl_T}
theorem tcb_s (X i a : Nat) : tcb P X i (a + 1) = (tcb P X i a || (X.testBit a && (pl_u P a).testBit i)) := by
  rw [tcb, tcb, List.range_succ, List.any_append, Bool.or_assoc]; simp
theorem tcb_n {X i : Nat} (hX : X < 2 ^ pl_n P) (hi : i < pl_n P) : tcb P X i (pl_n P) = true ↔ ∃ q, q < pl_n P ∧ X.testBit q = true ∧ (pl_tc P q).testBit i = true := by
  rw [tcb, Bool.or_eq_true, List.any_eq_true]
  constructor
  · rintro (h | ⟨q, a, b⟩)
    · simp at h
      obtain ⟨q, hq⟩ := Nat.exists_testBit_of_ne_zero h
      rw [Nat.testBit_and, Bool.and_eq_true] at hq
      have qn : q < pl_n P := by
        apply Classical.byContradiction
        intro c
        rw [bb_hi hX (by omega)] at hq
        simp at hq
      exact ⟨q, qn, hq.2, by rw [tc_bit hi, hq.1, Bool.or_true]⟩
    · rw [Bool.and_eq_true] at b
      exact ⟨q, List.mem_range.mp a, b.1, by rw [tc_bit hi, b.2, Bool.true_or]⟩
  · rintro ⟨q, a, b, c⟩
    rw [tc_bit hi, Bool.or_eq_true] at c
    rcases c with c | c
    · exact Or.inr ⟨q, List.mem_range.mpr a, by rw [b, c]; rfl⟩
    · left
      simp
      intro h
      have : (pl_u P i &&& X).testBit q = true := by rw [Nat.testBit_and, c, b]; rfl
      rw [h] at this; simp at this
theorem it_out {t : Nat} : ∀ k s, pl_it P t (k + 1) s = pl_gr P t (pl_it P t k s)
  | 0, s => rfl
  | k + 1, s => by rw [pl_it, it_out k]; rfl
def HPI (P : pl_T) (T k rd i X : Nat) : Prop := X < 2 ^ pl_n P ∧ (∀ a, X.testBit a = true → (pl_hp P T k).testBit a = true) ∧ (∀ a, (pl_it P T rd (2 ^ k &&& T)).testBit a = true → X.testBit a = true) ∧ ∀ a, a < i → (pl_gr P T (pl_it P T rd (2 ^ k &&& T))).testBit a = true → X.testBit a = true
theorem HPI.next {T k rd X : Nat} (h : HPI P T k rd (pl_n P) X) (hT : T < 2 ^ pl_n P) : HPI P T k (rd + 1) 0 X := by
  obtain ⟨h1, h2, h3, h4⟩ := h
  refine ⟨h1, h2, fun a ha => ?_, fun a ha => by omega⟩
  rw [it_out] at ha
  by_cases c : a < pl_n P
  · exact h4 a c ha
  · exfalso
    have : (pl_it P T rd (2 ^ k &&& T)) < 2 ^ pl_n P := bb_lt (fun b hb => by
      cases q : (pl_it P T rd (2 ^ k &&& T)).testBit b with
      | false => rfl
      | true => have := h3 b q; rw [bb_hi h1 hb] at this; simp at this)
    rw [bb_hi (gr_lt hT this) (by omega)] at ha
    simp at ha
theorem HPI.no {T k rd i X : Nat} (h : HPI P T k rd i X) (hi : i < pl_n P) (hc : tcb P X i (pl_n P) = false ∨ T.testBit i = false) : HPI P T k rd (i + 1) X := by
  obtain ⟨h1, h2, h3, h4⟩ := h
  refine ⟨h1, h2, h3, fun a ha hg => ?_⟩
  by_cases e : a = i
  · subst e
    rw [pl_gr, Nat.testBit_or, Bool.or_eq_true, Nat.testBit_and, Bool.and_eq_true] at hg
    rcases hg with hg | ⟨hg, ht⟩
    · exact h3 a hg
    · exfalso
      obtain ⟨q, a1, a2, a3⟩ := (orA_bit _ _ _ _).mp hg
      have : tcb P X a (pl_n P) = true := (tcb_n h1 hi).mpr ⟨q, a1, h3 q a2, a3⟩
      rcases hc with hc | hc
      · rw [hc] at this; simp at this
      · rw [hc] at ht; simp at ht
  · exact h4 a (by omega) hg
theorem HPI.yes {T k rd i X : Nat} (h : HPI P T k rd i X) (hT : T < 2 ^ pl_n P) (hk : T.testBit k = true) (hi : i < pl_n P) (hc : tcb P X i (pl_n P) = true) (ht : T.testBit i = true) : HPI P T k rd (i + 1) (X ||| 2 ^ i) := by
  obtain ⟨h1, h2, h3, h4⟩ := h
  refine ⟨bb_or h1 (bb_p2 hi), fun a ha => ?_, fun a ha => ?_, fun a ha hg => ?_⟩
  · rw [Nat.testBit_or, Bool.or_eq_true, bb_tp, decide_eq_true_eq] at ha
    rcases ha with ha | ha
    · exact h2 a ha
    · subst ha
      obtain ⟨q, a1, a2, a3⟩ := (tcb_n h1 hi).mp hc
      exact hp_tc hT hk (h2 q a2) a1 a3 ht
  · rw [Nat.testBit_or, h3 a ha]; rfl
  · rw [Nat.testBit_or, bb_tp]
    by_cases e : a = i
    · simp [e]
    · rw [h4 a (by omega) hg]; rfl
theorem HPI.done {T k X : Nat} (h : HPI P T k (pl_n P) 0 X) : X = pl_hp P T k := by
  apply bb_ext
  intro a
  rw [Bool.eq_iff_iff]
  exact ⟨h.2.1 a, h.2.2.1 a⟩
theorem HPI.zero {T k : Nat} (hk : T.testBit k = true) (hn : k < pl_n P) : HPI P T k 0 0 (2 ^ k) := by
  refine ⟨bb_p2 hn, fun a ha => ?_, fun a ha => ?_, fun a ha => by omega⟩
  · rw [bb_tp, decide_eq_true_eq] at ha
    subst ha; exact hp_bit hk
  · rw [pl_it, Nat.testBit_and, Bool.and_eq_true] at ha; exact ha.1
end
section
variable {r : Nat → Nat} {dy : List aa_Shp} {P : pl_T} {σ : aa_St}
theorem m_heapOf (hW : aa_W r dy σ) (hM : MP P σ.1) {t T k : Nat} (ht : t < 65536) (he : σ.1 63 10 = nI t) (hT : T < 2 ^ pl_n P) (hTt : ∀ i, i < pl_n P → T.testBit i = t.testBit i) (hk : k < pl_n P) (hTk : T.testBit k = true) : aa_SX mX12_heapOf 3 [.ref 63, .int (nI k)] σ (some (.int (nI (pl_hp P T k)))) σ := by
  have ok := hM.1
  have h14 := ok.1
  obtain ⟨-, a1, -, a3, -⟩ := id hM
  have p14 : 2 ^ pl_n P ≤ 16384 := Nat.pow_le_pow_right (by decide : 0 < 2) h14
  have uL : ∀ i, i < pl_n P → pl_u P i < 2 ^ pl_n P := fun i hi => Nat.lt_trans (ok.2.2.1 i hi).2.2.2 (bb_p2 hi)
  have outer : ∀ f rd X y4 y5 y6, pl_n P - rd < f → rd ≤ pl_n P → HPI P T k rd 0 X → aa_V mX12_heapOf 3 6 [some (.ref 63), some (.int (nI k)), some (.int (nI X)), some (.int (nI rd)), y4, y5, y6] [] σ (fun ra σ' => ra = some (.int (nI (pl_hp P T k))) ∧ σ' = σ) := by
    intro f
    induction f with
    | zero => intro rd X y4 y5 y6 g1; omega
    | succ f ih =>
      intro rd X y4 y5 y6 g1 g2 hX
      have xl := hX.1
      refine aa_go (aa_iload3 iX12_heapOf_6) (aa_go (aa_aload0 iX12_heapOf_7) (aa_go (aa_getE iX12_heapOf_8 fl_X12_78 (sh_63 hW) rfl a1) ?_))
      refine aa_ic_geN iX12_heapOf_11 (by omega) (by omega) (fun g3 => ?_) (fun g3 => ?_)
      · skip
        have e : rd = pl_n P := by omega
        subst e
        rw [hX.done]
        refine aa_go (aa_iload2 iX12_heapOf_136) ?_
        refine aa_iret iX12_heapOf_137 rfl ?_
        exact ⟨rfl, rfl⟩
      · skip
        have mid : ∀ f2 i X y5 y6, pl_n P - i < f2 → i ≤ pl_n P → HPI P T k rd i X → aa_V mX12_heapOf 3 17 [some (.ref 63), some (.int (nI k)), some (.int (nI X)), some (.int (nI rd)), some (.int (nI i)), y5, y6] [] σ (fun ra σ' => ra = some (.int (nI (pl_hp P T k))) ∧ σ' = σ) := by
          intro f2
          induction f2 with
          | zero => intro i X y5 y6 g1; omega
          | succ f2 ih2 =>
            intro i X y5 y6 k1 k2 hX
            have xl := hX.1
            refine aa_go (aa_iload4 iX12_heapOf_17) (aa_go (aa_aload0 iX12_heapOf_19) (aa_go (aa_getE iX12_heapOf_20 fl_X12_78 (sh_63 hW) rfl a1) ?_))
            refine aa_ic_geN iX12_heapOf_23 (by omega) (by omega) (fun k3 => ?_) (fun k3 => ?_)
            · skip
              have e : i = pl_n P := by omega
              subst e
              refine aa_go (aa_iincN3 (k := 1) iX12_heapOf_130 rfl (by decide)) (aa_go (aa_goto iX12_heapOf_133) ?_)
              exact ih (rd + 1) X _ _ _ (by omega) (by omega) (hX.next hT)
            · skip
              have ul := uL i k3
              have al : pl_u P i &&& X < 2 ^ pl_n P := bb_and_r xl
              have inner : ∀ f3 a (b : Bool), pl_n P - a < f3 → a ≤ pl_n P → b = tcb P X i a → aa_V mX12_heapOf 3 48 [some (.ref 63), some (.int (nI k)), some (.int (nI X)), some (.int (nI rd)), some (.int (nI i)), some (.int (nI b.toNat)), some (.int (nI a))] [] σ (fun ra σ' => ra = some (.int (nI (pl_hp P T k))) ∧ σ' = σ) := by
                intro f3
                induction f3 with
                | zero => intro a b g1; omega
                | succ f3 ih3 =>
                  intro a b l1 l2 hb
                  refine aa_go (aa_iload6 iX12_heapOf_48) (aa_go (aa_aload0 iX12_heapOf_50) (aa_go (aa_getE iX12_heapOf_51 fl_X12_78 (sh_63 hW) rfl a1) ?_))
                  refine aa_ic_geN iX12_heapOf_54 (by omega) (by omega) (fun l3 => ?_) (fun l3 => ?_)
                  · skip
                    have e : a = pl_n P := by omega
                    subst e
                    refine aa_go (aa_iload2 iX12_heapOf_99) (aa_go (aa_iload5 iX12_heapOf_100) ?_)
                    refine aa_if_eqB iX12_heapOf_102 (fun l4 => ?_) (fun l4 => ?_)
                    · skip
                      refine aa_go (aa_iconst iX12_heapOf_121 ki_0) (aa_go (aa_iorN iX12_heapOf_122 ) ?_)
                      refine aa_go (aa_top (y := nI X) (by rw [Nat.or_zero])) ?_
                      refine aa_go (aa_istore2 iX12_heapOf_123 rfl (by decide)) (aa_go (aa_iincN4 (k := 1) iX12_heapOf_124 rfl (by decide)) (aa_go (aa_goto iX12_heapOf_127) ?_))
                      exact ih2 (i + 1) X _ _ (by omega) (by omega) (hX.no k3 (Or.inl (by rw [← hb, l4])))
                    · skip
                      refine aa_go (aa_aload0 iX12_heapOf_105) (aa_go (aa_iload4 iX12_heapOf_106) (aa_go (aa_cVi iX12_heapOf_108 (m_isThere hW ht (by omega) he) (by decide) lc_X12_isThere lk_X12_121 (sh_63 hW) rfl rfl (Nat.le_of_ble_eq_true rfl)) ?_))
                      refine aa_if_eqB iX12_heapOf_111 (fun l5 => ?_) (fun l5 => ?_)
                      · skip
                        refine aa_go (aa_iconst iX12_heapOf_121 ki_0) (aa_go (aa_iorN iX12_heapOf_122 ) ?_)
                        refine aa_go (aa_top (y := nI X) (by rw [Nat.or_zero])) ?_
                        refine aa_go (aa_istore2 iX12_heapOf_123 rfl (by decide)) (aa_go (aa_iincN4 (k := 1) iX12_heapOf_124 rfl (by decide)) (aa_go (aa_goto iX12_heapOf_127) ?_))
                        exact ih2 (i + 1) X _ _ (by omega) (by omega) (hX.no k3 (Or.inr (by rw [hTt i k3, l5])))
                      · skip
                        refine aa_go (aa_iconst iX12_heapOf_114 ki_1) (aa_go (aa_iload4 iX12_heapOf_115) (aa_go (aa_ishlN iX12_heapOf_117 (by omega)) (aa_go (aa_goto iX12_heapOf_118) (aa_go (aa_iorN iX12_heapOf_122 ) ?_))))
                        refine aa_go (aa_top (y := nI (X ||| 2 ^ i)) (by rw [Nat.shiftLeft_eq, Nat.one_mul])) ?_
                        refine aa_go (aa_istore2 iX12_heapOf_123 rfl (by decide)) (aa_go (aa_iincN4 (k := 1) iX12_heapOf_124 rfl (by decide)) (aa_go (aa_goto iX12_heapOf_127) ?_))
                        exact ih2 (i + 1) (X ||| 2 ^ i) _ _ (by omega) (by omega) (hX.yes hT hTk k3 (by rw [← hb, l4]) (by rw [hTt i k3, l5]))
                  · skip
                    have ua := uL a l3
                    have ts := tcb_s (P := P) X i a
                    rw [← hb] at ts
                    refine aa_go (aa_iload5 iX12_heapOf_57) ?_
                    refine aa_if_neB iX12_heapOf_59 (fun l4 => ?_) (fun l4 => ?_)
                    · skip
                      refine aa_go (aa_iconst iX12_heapOf_86 ki_1) (aa_go (aa_goto iX12_heapOf_87) (aa_go (aa_istore5 iX12_heapOf_91 rfl (by decide)) (aa_go (aa_iincN6 (k := 1) iX12_heapOf_93 rfl (by decide)) (aa_go (aa_goto iX12_heapOf_96) ?_))))
                      exact ih3 (a + 1) true (by omega) (by omega) (by rw [ts, l4]; rfl)
                    · skip
                      rw [l4, Bool.false_or] at ts
                      refine aa_go (aa_iload2 iX12_heapOf_62) (aa_go (aa_iload6 iX12_heapOf_63) (aa_go (aa_cSi iX12_heapOf_65 (m_has (by omega) (by omega)) (by decide) lc_X12_has lk_X12_95 rfl (Nat.le_of_ble_eq_true rfl)) ?_))
                      refine aa_if_eqB iX12_heapOf_68 (fun l5 => ?_) (fun l5 => ?_)
                      · skip
                        refine aa_go (aa_iconst iX12_heapOf_90 ki_0) (aa_go (aa_istore5 iX12_heapOf_91 rfl (by decide)) (aa_go (aa_iincN6 (k := 1) iX12_heapOf_93 rfl (by decide)) (aa_go (aa_goto iX12_heapOf_96) ?_)))
                        exact ih3 (a + 1) false (by omega) (by omega) (by rw [ts, l5]; rfl)
                      · skip
                        refine aa_go (aa_aload0 iX12_heapOf_71) (aa_go (aa_getR iX12_heapOf_72 fl_X12_47 (sh_63 hW) rfl) (aa_go (aa_iload6 iX12_heapOf_75) (aa_go (aa_ialE iX12_heapOf_77 (sh_67 hW) (by omega) (by omega) ((a3 a l3).2.2.1)) (aa_go (aa_iload4 iX12_heapOf_78) (aa_go (aa_cSi iX12_heapOf_80 (m_has (by omega) (by omega)) (by decide) lc_X12_has lk_X12_95 rfl (Nat.le_of_ble_eq_true rfl)) ?_)))))
                        refine aa_if_eqB iX12_heapOf_83 (fun l6 => ?_) (fun l6 => ?_)
                        · skip
                          refine aa_go (aa_iconst iX12_heapOf_90 ki_0) (aa_go (aa_istore5 iX12_heapOf_91 rfl (by decide)) (aa_go (aa_iincN6 (k := 1) iX12_heapOf_93 rfl (by decide)) (aa_go (aa_goto iX12_heapOf_96) ?_)))
                          exact ih3 (a + 1) false (by omega) (by omega) (by rw [ts, l6, Bool.and_false])
                        · skip
                          refine aa_go (aa_iconst iX12_heapOf_86 ki_1) (aa_go (aa_goto iX12_heapOf_87) (aa_go (aa_istore5 iX12_heapOf_91 rfl (by decide)) (aa_go (aa_iincN6 (k := 1) iX12_heapOf_93 rfl (by decide)) (aa_go (aa_goto iX12_heapOf_96) ?_))))
                          exact ih3 (a + 1) true (by omega) (by omega) (by rw [ts, l6, l5]; rfl)
              refine aa_go (aa_aload0 iX12_heapOf_26) (aa_go (aa_getR iX12_heapOf_27 fl_X12_47 (sh_63 hW) rfl) (aa_go (aa_iload4 iX12_heapOf_30) (aa_go (aa_ialE iX12_heapOf_32 (sh_67 hW) (by omega) (by omega) ((a3 i k3).2.2.1)) (aa_go (aa_iload2 iX12_heapOf_33) (aa_go (aa_iandN iX12_heapOf_34 ) ?_)))))
              refine aa_if_eqN iX12_heapOf_35 (by omega) (fun k4 => ?_) (fun k4 => ?_)
              · skip
                refine aa_go (aa_iconst iX12_heapOf_42 ki_0) (aa_go (aa_istore5 iX12_heapOf_43 rfl (by decide)) (aa_go (aa_iconst iX12_heapOf_45 ki_0) (aa_go (aa_istore6 iX12_heapOf_46 rfl (by decide)) ?_)))
                exact inner (pl_n P + 1) 0 false (by omega) (by omega) (by rw [tcb, decide_eq_true k4]; rfl)
              · skip
                refine aa_go (aa_iconst iX12_heapOf_38 ki_1) (aa_go (aa_goto iX12_heapOf_39) (aa_go (aa_istore5 iX12_heapOf_43 rfl (by decide)) (aa_go (aa_iconst iX12_heapOf_45 ki_0) (aa_go (aa_istore6 iX12_heapOf_46 rfl (by decide)) ?_))))
                exact inner (pl_n P + 1) 0 true (by omega) (by omega) (by rw [tcb, decide_eq_false k4]; rfl)
        refine aa_go (aa_iconst iX12_heapOf_14 ki_0) (aa_go (aa_istore4 iX12_heapOf_15 rfl (by decide)) ?_)
        exact mid (pl_n P + 1) 0 X _ _ (by omega) (by omega) hX
  have key : aa_V mX12_heapOf 3 0 [some (.ref 63), some (.int (nI k)), none, none, none, none, none] [] σ (fun ra σ' => ra = some (.int (nI (pl_hp P T k))) ∧ σ' = σ) := by
    refine aa_go (aa_iconst iX12_heapOf_0 ki_1) (aa_go (aa_iload1 iX12_heapOf_1) (aa_go (aa_ishlN iX12_heapOf_2 (by omega)) ?_))
    refine aa_go (aa_top (y := nI (2 ^ k)) (by rw [Nat.shiftLeft_eq, Nat.one_mul])) ?_
    refine aa_go (aa_istore2 iX12_heapOf_3 rfl (by decide)) (aa_go (aa_iconst iX12_heapOf_4 ki_0) (aa_go (aa_istore3 iX12_heapOf_5 rfl (by decide)) ?_))
    exact outer (pl_n P + 1) 0 (2 ^ k) _ _ _ (by omega) (by omega) (HPI.zero hTk hk)
  obtain ⟨ra, σ', ⟨rfl, rfl⟩, hS9⟩ := aa_S_of (avs := [.ref 63, .int (nI k)]) (by decide) 5 [some (.ref 63), some (.int (nI k)), none, none, none, none, none] rfl rfl key
  exact hS9
end
