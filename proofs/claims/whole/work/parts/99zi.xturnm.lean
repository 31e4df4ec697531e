/-! THE REFERENCE: whether changes turn it -/
def cgA (A : Nat → Nat) (m c : Nat) : Nat → Nat := if c < 20 then A else nup A m (c - 20)
def cgM (m c : Nat) : Nat := if c < 20 then m else m + 1
def cgT (P : pl_T) (A : Nat → Nat) (m t c : Nat) : Nat := if c < 20 then bd t (pl_cl (wdP P A m) c) else t ||| 2 ^ (pl_n P + m)
def rmv (P : pl_T) (c s : Nat) : Nat := if c < 20 then pl_nx P s c else s
def lay (c : Nat) : Nat := if c < 20 then 15 else c - 20
def Z1 (P : pl_T) (e w T c : Nat) : Bool := zz P e w (rmv P c T) 15 (lf (rmv P c T) (lay c))
def Z2 (P : pl_T) (e w T c d : Nat) : Bool := zz P e w (rmv P d (rmv P c T)) (lf (rmv P d (rmv P c T)) (lay c)) (lf (rmv P d (rmv P c T)) (lay d))
def tb1 (P : pl_T) (e w T c : Nat) (was : Bool) : Bool := lgC P T c && (Z1 P e w T c != was)
def tb2 (P : pl_T) (e w T c d : Nat) (was : Bool) : Bool := lgC P T c && (lgC P (rmv P c T) d && (Z2 P e w T c d != was))
theorem zz_comm (P : pl_T) (e w s a b : Nat) : zz P e w s a b = zz P e w s b a := by rw [zz, zz, Nat.min_comm, Nat.max_comm]
theorem lf_15 (s : Nat) : lf s 15 = 15 := by rw [lf, if_neg (by omega)]
section
variable {P : pl_T} {A : Nat → Nat} {m t c : Nat}
theorem lgC_cg {t' : Nat} (h : ∀ i, i < pl_n P → t.testBit i = t'.testBit i) : lgC P t c = lgC P t' c := by
  rw [lgC, lgC]
  by_cases e : (if c < 20 then c else c - 20) < pl_n P
  · rw [h _ e]
  · rw [decide_eq_false e, Bool.false_and, Bool.false_and]
theorem lf_leg {s : Nat} (hc : 20 ≤ c) (h : lgC P s c = true) : lf s (c - 20) = c - 20 := by
  rw [lf, if_neg]
  rcases lgC_ly hc h with q | q
  · omega
  · rw [q.2]; exact fun x => absurd x.2 (by decide)
theorem cg_v (ok : pl_ok P) (hA : ∀ q, q < m → A q = 14 ∨ A q < pl_n P) (hA2 : ∀ q, A q ≤ 14) (ht : vst P A m t) (hc : isC c) (hg : lgC P t c = true) :
    vst P (cgA A m c) (cgM m c) (cgT P A m t c) ∧ (∀ q, q < cgM m c → cgA A m c q = 14 ∨ cgA A m c q < pl_n P) ∧ (∀ q, cgA A m c q ≤ 14) ∧ cgM m c ≤ m + 1 ∧ wth P (cgT P A m t c) = rmv P c (wth P t) ∧ ∀ q, q < 2 → pq P (cgA A m c) q (cgT P A m t c) = if c < 20 then lf (rmv P c (wth P t)) (pq P A q t) else if q = m then c - 20 else pq P A q t := by
  by_cases c20 : c < 20
  · rw [lgC_rm c20, Bool.and_eq_true, decide_eq_true_eq] at hg
    obtain ⟨e1, e2, e3⟩ := wst_lo ok.1 hA ht hg.1
    rw [cgA, if_pos c20, cgM, if_pos c20, cgT, if_pos c20, rmv, if_pos c20]
    exact ⟨e3, hA, hA2, by omega, e1, fun q hq => by rw [if_pos c20]; exact e2 q hq⟩
  · have lg := lgC_ly (by omega) hg
    rw [cgA, if_neg c20, cgM, if_neg c20, cgT, if_neg c20, rmv, if_neg c20]
    have bt : ∀ k, (t ||| 2 ^ (pl_n P + m)).testBit k = (t.testBit k || decide (pl_n P + m = k)) := fun k => by rw [Nat.testBit_or, bb_tp]
    refine ⟨⟨bb_or (Nat.lt_of_lt_of_le ht.1 (Nat.pow_le_pow_right (by decide) (by omega))) (bb_p2 (by omega)), fun q hq => ?_⟩, fun q hq => ?_, fun q => ?_, by omega, ?_, fun q hq => ?_⟩
    · rw [bt, Bool.or_eq_true, decide_eq_true_eq] at hq
      by_cases e : q = m
      · rw [e, nup_eq]
        rcases lg with x | x
        · exact Or.inl (by omega)
        · exact Or.inr ⟨x.1, by rw [bt, x.2]; rfl⟩
      · rw [nup_ne e]
        rcases hq with x | x
        · rcases ht.2 q x with y | y
          · exact Or.inl y
          · exact Or.inr ⟨y.1, by rw [bt, y.2]; rfl⟩
        · omega
    · by_cases e : q = m
      · rw [e, nup_eq]; omega
      · rw [nup_ne e]; exact hA q (by omega)
    · by_cases e : q = m
      · rw [e, nup_eq]; rcases hc with x | x <;> omega
      · rw [nup_ne e]; exact hA2 q
    · apply bb_ext
      intro k
      rw [wth_bit, wth_bit, bt]
      by_cases e : k < pl_n P
      · simp [e, show ¬ pl_n P + m = k by omega]
      · simp [e]
    · rw [if_neg c20, pq, bt]
      by_cases e : q = m
      · rw [if_pos e, e, decide_eq_true rfl, Bool.or_true, if_pos rfl, nup_eq]
      · rw [if_neg e, decide_eq_false (by omega), Bool.or_false, nup_ne e, pq]
theorem vst_0 {T : Nat} (hT : T < 2 ^ pl_n P) (A : Nat → Nat) : vst P A 0 T := ⟨hT, fun q hq => by rw [bb_hi hT (by omega)] at hq; exact absurd hq (by decide)⟩
theorem pq_0 {T : Nat} (hT : T < 2 ^ pl_n P) (A : Nat → Nat) (q : Nat) : pq P A q T = 15 := by rw [pq, bb_hi hT (by omega)]; rfl
theorem A14_le (q : Nat) : A14 q ≤ 14 := Nat.le_refl _
theorem wv_T {T e w : Nat} (hT : T < 2 ^ pl_n P) : wv2 P A14 e w T = zz P e w T 15 15 := by rw [wv2, pq_0 hT, pq_0 hT, wth_id hT]
theorem cg_1 {T e w : Nat} (ok : pl_ok P) (hT : T < 2 ^ pl_n P) (hc : isC c) (hg : lgC P T c = true) : wv2 P (cgA A14 0 c) e w (cgT P A14 0 T c) = Z1 P e w T c := by
  obtain ⟨-, -, -, -, e5, e6⟩ := cg_v ok (fun q hq => absurd hq (Nat.not_lt_zero q)) A14_le (vst_0 hT A14) hc hg
  rw [wv2, e5, e6 0 (by omega), e6 1 (by omega), pq_0 hT, pq_0 hT, wth_id hT, Z1]
  by_cases c20 : c < 20
  · rw [if_pos c20, if_pos c20, lay, if_pos c20, lf_15]
  · rw [if_neg c20, if_neg c20, if_pos rfl, if_neg (by decide), lay, if_neg c20, rmv, if_neg c20, lf_leg (by omega) hg, zz_comm]
theorem cg_2 {T e w d : Nat} (ok : pl_ok P) (hT : T < 2 ^ pl_n P) (hc : isC c) (hg : lgC P T c = true) (hd : isC d) (hg2 : lgC P (rmv P c T) d = true) : wv2 P (cgA (cgA A14 0 c) (cgM 0 c) d) e w (cgT P (cgA A14 0 c) (cgM 0 c) (cgT P A14 0 T c) d) = Z2 P e w T c d := by
  obtain ⟨e1, e2, e3, e4, e5, e6⟩ := cg_v ok (fun q hq => absurd hq (Nat.not_lt_zero q)) A14_le (vst_0 hT A14) hc hg
  rw [wth_id hT] at e5 e6
  have hg3 : lgC P (cgT P A14 0 T c) d = true := by
    rw [← hg2, ← e5]
    exact lgC_cg (fun i hi => by rw [wth_bit, decide_eq_true hi, Bool.true_and])
  obtain ⟨-, -, -, -, f5, f6⟩ := cg_v ok e2 e3 e1 hd hg3
  rw [e5] at f5 f6
  rw [wv2, f5, f6 0 (by omega), f6 1 (by omega), e6 0 (by omega), e6 1 (by omega), pq_0 hT, pq_0 hT, Z2, cgM]
  by_cases d20 : d < 20
  · rw [if_pos d20, if_pos d20]
    by_cases c20 : c < 20
    · rw [if_pos c20, if_pos c20, lay, if_pos c20, lay, if_pos d20, lf_15]
    · rw [if_neg c20, if_neg c20, lay, if_neg c20, lay, if_pos d20, if_pos rfl, if_neg (by decide)]
  · have r2 : rmv P d (rmv P c T) = rmv P c T := by rw [rmv, if_neg d20]
    rw [if_neg d20, if_neg d20, r2]
    by_cases c20 : c < 20
    · rw [if_pos c20, if_pos c20, if_pos c20, if_pos rfl, if_neg (by decide), lay, if_pos c20, lay, if_neg d20, lf_15, lf_leg (by omega) hg2, zz_comm]
    · have r1 : rmv P c T = T := by rw [rmv, if_neg c20]
      rw [r1] at hg2
      rw [if_neg c20, if_neg c20, if_neg c20, r1, lay, if_neg c20, lay, if_neg d20, lf_leg (by omega) hg2, lf_leg (by omega) hg]
      simp
end
section
variable {P P' : pl_T} {tx tx' : Nat → Nat} {n n' : Nat} {g g' : gm_T} {kp kp' : Nat → Option gm_T} {lk lk' tl tl' : Nat} {rw rw' : Nat → Int} {Q Q' : Nat} {r : Nat → Nat} {dy : List aa_Shp} {σ σ' σ0 : aa_St} {A : Nat → Nat} {m t c d : Nat}
theorem m_changesY (h : MI P tx n g kp lk tl rw Q r dy σ0) (hF : FC P σ0 σ) (hC : MCh P A m t σ.1) (hm : m ≤ 1) (hA : ∀ q, q < m → A q = 14 ∨ A q < pl_n P) (hl : t < 2147483648) (hc : isC c) (hg : lgC P t c = true) : ∃ σ', (FC P σ0 σ' ∧ MCh P (cgA A m c) (cgM m c) (cgT P A m t c) σ'.1 ∧ σ'.1 63 24 = σ.1 63 24 ∧ σ'.1 74 = σ.1 74) ∧ aa_SX mX12_changes 4 [.ref 63, .int (nI c)] σ (some (.int (nI true.toNat))) σ' := by
  by_cases c20 : c < 20
  · rw [cgA, if_pos c20, cgM, if_pos c20, cgT, if_pos c20]
    exact m_changesR h hF hC hl c20 hg
  · rw [cgA, if_neg c20, cgM, if_neg c20, cgT, if_neg c20]
    exact m_changesL h hF hC hm hA hl (by omega) (by rcases hc with x | x <;> omega) hg
/-- what is left behind -/
def TBQ (P : pl_T) (g : gm_T) (Q' : Nat) (σ0 σ' : aa_St) : Prop := FC P σ0 σ' ∧ MCh P A14 0 (gth P g) σ'.1 ∧ ∃ Q2, Q2 ≤ Q' + 1 ∧ MMQ Q2 σ'.1
theorem tb_end (h : MI P tx n g kp lk tl rw Q r dy σ0) (hF : FC P σ0 σ) (hQ : MMQ Q' σ.1) {Q0 : Nat} (hQ2 : Q' ≤ Q0 + 1) (b : Bool) {x2 : Int32} {w y4 : Bool} {y5 : Option Value} : aa_V mX12_turnsBy 31 106 [some (.ref 63), some (.int (nI c)), some (.int x2), some (.int (nI w.toNat)), some (.int (nI y4.toNat)), y5] [.int (nI b.toNat)] σ (fun ra σ' => ra = some (.int (nI b.toNat)) ∧ TBQ P g Q0 σ0 σ') := by
  obtain ⟨σ2, ⟨hF2, hC2, e1, e2⟩, hS2⟩ := m_clears h hF
  refine aa_go (aa_istore4 iX12_turnsBy_106 rfl (by decide)) (aa_go (aa_aload0 iX12_turnsBy_108) (aa_go (aa_cVv iX12_turnsBy_109 (hS2) (by decide) lc_X12_clears lk_X12_326 (sh_63 (hF.W h.W)) rfl rfl (Nat.le_of_ble_eq_true rfl)) ?_))
  refine aa_go (aa_iload4 iX12_turnsBy_112) ?_
  refine aa_zretB iX12_turnsBy_114 rfl ?_
  exact ⟨rfl, hF2, hC2, Q', hQ2, hQ.fr e1 e2⟩
theorem tb_mid (h : MI P tx n g kp lk tl rw Q r dy σ0) (hG : GG P g) (hb0 : pl_b P = 0) (hF : FC P σ0 σ) (hC : MCh P A m t σ.1) (hm : m ≤ 2) (hA : ∀ q, q < m → A q = 14 ∨ A q < pl_n P) (hA2 : ∀ q, A q ≤ 14) (hv : vst P A m t) (hQ : MMQ Q' σ.1) (hQ2 : Q' + 1 < 500000) {x2 : Int32} {w : Bool} {y5 : Option Value} : aa_V mX12_turnsBy 31 88 [some (.ref 63), some (.int (nI c)), some (.int x2), some (.int (nI w.toNat)), some (.int (nI true.toNat)), y5] [] σ (fun ra σ' => ra = some (.int (nI (wv2 P A (gen g) (gtn g) t != w).toNat)) ∧ TBQ P g Q' σ0 σ') := by
  obtain ⟨σ2, ⟨hF2, hC2, hQ3⟩, hS2⟩ := m_winsNow h hG hb0 hF hC hm hA hA2 hv hQ hQ2
  have b1 : (wv2 P A (gen g) (gtn g) t).toNat ≤ 1 := Bool.toNat_le _
  have b2 : w.toNat ≤ 1 := Bool.toNat_le _
  refine aa_go (aa_iload4 iX12_turnsBy_88) ?_
  refine aa_go (aa_if_eqF iX12_turnsBy_90 (by decide)) ?_
  refine aa_go (aa_aload0 iX12_turnsBy_93) (aa_go (aa_cVi iX12_turnsBy_94 (hS2) (by decide) lc_X12_winsNow lk_X12_335 (sh_63 (hF.W h.W)) rfl rfl (Nat.le_of_ble_eq_true rfl)) (aa_go (aa_iload3 iX12_turnsBy_97) ?_))
  refine aa_ic_eqN iX12_turnsBy_98 (by omega) (by omega) (fun g1 => ?_) (fun g1 => ?_)
  · skip
    have e : wv2 P A (gen g) (gtn g) t = w := by
      cases q : wv2 P A (gen g) (gtn g) t <;> cases q2 : w <;> rw [q, q2] at g1 <;> first | rfl | exact absurd g1 (by decide)
    refine aa_go (aa_iconst iX12_turnsBy_105 ki_0) ?_
    have := tb_end (c := c) h hF2 hQ3 (Nat.le_refl _) false (x2 := x2) (w := w) (y4 := true) (y5 := y5)
    rw [e]
    simp only [bne_self_eq_false]
    exact this
  · skip
    have e : (wv2 P A (gen g) (gtn g) t != w) = true := by
      cases q : wv2 P A (gen g) (gtn g) t <;> cases q2 : w <;> rw [q, q2] at g1 <;> first | rfl | exact absurd rfl g1
    refine aa_go (aa_iconst iX12_turnsBy_101 ki_1) (aa_go (aa_goto iX12_turnsBy_102) ?_)
    rw [e]
    exact tb_end (c := c) h hF2 hQ3 (Nat.le_refl _) true (x2 := x2) (w := w) (y4 := true) (y5 := y5)
theorem tb_no (h : MI P tx n g kp lk tl rw Q r dy σ0) (hF : FC P σ0 σ) (hQ : MMQ Q' σ.1) {x2 : Int32} {w : Bool} {y5 : Option Value} : aa_V mX12_turnsBy 31 88 [some (.ref 63), some (.int (nI c)), some (.int x2), some (.int (nI w.toNat)), some (.int (nI false.toNat)), y5] [] σ (fun ra σ' => ra = some (.int (nI false.toNat)) ∧ TBQ P g Q' σ0 σ') := by
  refine aa_go (aa_iload4 iX12_turnsBy_88) ?_
  refine aa_go (aa_if_eqT iX12_turnsBy_90 (by decide)) ?_
  refine aa_go (aa_iconst iX12_turnsBy_105 ki_0) ?_
  exact tb_end (c := c) h hF hQ (by omega) false (x2 := x2) (w := w) (y4 := false) (y5 := y5)
theorem m_turnsBy1 (h : MI P tx n g kp lk tl rw Q r dy σ0) (hG : GG P g) (hb0 : pl_b P = 0) (hF : FC P σ0 σ) (hQ : MMQ Q' σ.1) (hQ2 : Q' + 1 < 500000) (hc : isC c) (w : Bool) : ∃ σ', TBQ P g Q' σ0 σ' ∧ aa_SX mX12_turnsBy 31 [.ref 63, .int (nI c), .int (-1), .int (nI w.toNat)] σ (some (.int (nI (tb1 P (gen g) (gtn g) (gth P g) c w).toNat))) σ' := by
  have ok := h.ok
  have n14 := ok.1
  have p14 := pw14 n14
  have p1 := Nat.two_pow_pos (pl_n P)
  have gl := gth_lt P g
  have c34 : c ≤ 34 := by rcases hc with x | x <;> omega
  obtain ⟨σ1, ⟨hF1, hC1, e1, e2⟩, hS1⟩ := m_clears h hF
  have hQ1 := hQ.fr e1 e2
  have key : aa_V mX12_turnsBy 31 0 [some (.ref 63), some (.int (nI c)), some (.int (-1)), some (.int (nI w.toNat)), none, none] [] σ (fun ra σ' => ra = some (.int (nI (tb1 P (gen g) (gtn g) (gth P g) c w).toNat)) ∧ TBQ P g Q' σ0 σ') := by
    cases hg : lgC P (gth P g) c with
    | false =>
      have hS2 := m_changesN h hF1 hC1.2.1 (by omega) c34 hg
      rw [tb1, hg, Bool.false_and]
      refine aa_go (aa_aload0 iX12_turnsBy_0) (aa_go (aa_cVv iX12_turnsBy_1 (hS1) (by decide) lc_X12_clears lk_X12_326 (sh_63 (hF.W h.W)) rfl rfl (Nat.le_of_ble_eq_true rfl)) ?_)
      refine aa_go (aa_aload0 iX12_turnsBy_4) (aa_go (aa_iload1 iX12_turnsBy_5) (aa_go (aa_cVi iX12_turnsBy_6 (hS2) (by decide) lc_X12_changes lk_X12_329 (sh_63 (hF1.W h.W)) rfl rfl (Nat.le_of_ble_eq_true rfl)) (aa_go (aa_istore4 iX12_turnsBy_9 rfl (by decide)) (aa_go (aa_aload0 iX12_turnsBy_11) (aa_go (aa_getE iX12_turnsBy_12 fl_X12_320 (sh_63 (hF1.W h.W)) rfl hC1.2.1) (aa_go (aa_iconst iX12_turnsBy_15 ki_1) (aa_go (aa_aload0 iX12_turnsBy_16) ?_)))))))
      refine aa_go (aa_getE iX12_turnsBy_17 fl_X12_78 (sh_63 (hF1.W h.W)) rfl (FC.nn h hF1)) (aa_go (aa_ishlN iX12_turnsBy_20 (by omega)) ?_)
      refine aa_go (aa_top (y := nI (2 ^ pl_n P)) (by rw [Nat.one_shiftLeft])) ?_
      refine aa_go (aa_iconst iX12_turnsBy_21 ki_1) (aa_go (aa_isubN iX12_turnsBy_22 (by omega)) (aa_go (aa_iconst iX12_turnsBy_23 ki_m1) (aa_go (aa_ixor iX12_turnsBy_24) (aa_go (aa_iandC iX12_turnsBy_25) (aa_go (aa_istore5 iX12_turnsBy_26 rfl (by decide)) (aa_go (aa_iload4 iX12_turnsBy_28) ?_))))))
      refine aa_go (aa_if_eqT iX12_turnsBy_30 (by decide)) ?_
      exact tb_no h hF1 hQ1
    | true =>
      obtain ⟨σ2, ⟨hF2, hC2, e3, e4⟩, hS2⟩ := m_changesY h hF1 hC1 (by omega) (fun q hq => absurd hq (Nat.not_lt_zero q)) (by omega) hc hg
      have hQ3 := hQ1.fr e3 e4
      obtain ⟨v1, v2, v3, v4, -, -⟩ := cg_v ok (fun q hq => absurd hq (Nat.not_lt_zero q)) A14_le (vst_0 gl A14) hc hg
      have tb := tb_mid (c := c) h hG hb0 hF2 hC2 (by omega) v2 v3 v1 hQ3 hQ2 (x2 := -1) (w := w) (y5 := some (.int (nI (bd (cgT P A14 0 (gth P g) c) (2 ^ pl_n P - 1)))))
      rw [cg_1 ok gl hc hg] at tb
      rw [tb1, hg, Bool.true_and]
      refine aa_go (aa_aload0 iX12_turnsBy_0) (aa_go (aa_cVv iX12_turnsBy_1 (hS1) (by decide) lc_X12_clears lk_X12_326 (sh_63 (hF.W h.W)) rfl rfl (Nat.le_of_ble_eq_true rfl)) ?_)
      refine aa_go (aa_aload0 iX12_turnsBy_4) (aa_go (aa_iload1 iX12_turnsBy_5) (aa_go (aa_cVi iX12_turnsBy_6 (hS2) (by decide) lc_X12_changes lk_X12_329 (sh_63 (hF1.W h.W)) rfl rfl (Nat.le_of_ble_eq_true rfl)) ?_))
      refine aa_go (aa_istore4 iX12_turnsBy_9 rfl (by decide)) (aa_go (aa_aload0 iX12_turnsBy_11) (aa_go (aa_getE iX12_turnsBy_12 fl_X12_320 (sh_63 (hF2.W h.W)) rfl hC2.2.1) (aa_go (aa_iconst iX12_turnsBy_15 ki_1) (aa_go (aa_aload0 iX12_turnsBy_16) (aa_go (aa_getE iX12_turnsBy_17 fl_X12_78 (sh_63 (hF2.W h.W)) rfl (FC.nn h hF2)) (aa_go (aa_ishlN iX12_turnsBy_20 (by omega)) ?_))))))
      refine aa_go (aa_top (y := nI (2 ^ pl_n P)) (by rw [Nat.one_shiftLeft])) ?_
      refine aa_go (aa_iconst iX12_turnsBy_21 ki_1) (aa_go (aa_isubN iX12_turnsBy_22 (by omega)) (aa_go (aa_iconst iX12_turnsBy_23 ki_m1) (aa_go (aa_ixor iX12_turnsBy_24) (aa_go (aa_iandC iX12_turnsBy_25) (aa_go (aa_istore5 iX12_turnsBy_26 rfl (by decide)) (aa_go (aa_iload4 iX12_turnsBy_28) ?_))))))
      refine aa_go (aa_if_eqF iX12_turnsBy_30 (by decide)) ?_
      refine aa_go (aa_iload2 iX12_turnsBy_33) ?_
      refine aa_go (aa_if_ltT iX12_turnsBy_34 (by decide)) ?_
      exact tb
  obtain ⟨ra, σ', ⟨rfl, h9⟩, hS9⟩ := aa_S_of (avs := [.ref 63, .int (nI c), .int (-1), .int (nI w.toNat)]) (by decide) 2 [some (.ref 63), some (.int (nI c)), some (.int (-1)), some (.int (nI w.toNat)), none, none] rfl rfl key
  exact ⟨σ', h9, hS9⟩
theorem m_turnsBy2 (h : MI P tx n g kp lk tl rw Q r dy σ0) (hG : GG P g) (hb0 : pl_b P = 0) (hF : FC P σ0 σ) (hQ : MMQ Q' σ.1) (hQ2 : Q' + 1 < 500000) (hc : isC c) (hd : isC d) (w : Bool) : ∃ σ', TBQ P g Q' σ0 σ' ∧ aa_SX mX12_turnsBy 31 [.ref 63, .int (nI c), .int (nI d), .int (nI w.toNat)] σ (some (.int (nI (tb2 P (gen g) (gtn g) (gth P g) c d w).toNat))) σ' := by
  have ok := h.ok
  have n14 := ok.1
  have p14 := pw14 n14
  have p1 := Nat.two_pow_pos (pl_n P)
  have gl := gth_lt P g
  have c34 : c ≤ 34 := by rcases hc with x | x <;> omega
  have d34 : d ≤ 34 := by rcases hd with x | x <;> omega
  obtain ⟨σ1, ⟨hF1, hC1, e1, e2⟩, hS1⟩ := m_clears h hF
  have hQ1 := hQ.fr e1 e2
  have key : aa_V mX12_turnsBy 31 0 [some (.ref 63), some (.int (nI c)), some (.int (nI d)), some (.int (nI w.toNat)), none, none] [] σ (fun ra σ' => ra = some (.int (nI (tb2 P (gen g) (gtn g) (gth P g) c d w).toNat)) ∧ TBQ P g Q' σ0 σ') := by
    cases hg : lgC P (gth P g) c with
    | false =>
      have hS2 := m_changesN h hF1 hC1.2.1 (by omega) c34 hg
      rw [tb2, hg, Bool.false_and]
      refine aa_go (aa_aload0 iX12_turnsBy_0) (aa_go (aa_cVv iX12_turnsBy_1 (hS1) (by decide) lc_X12_clears lk_X12_326 (sh_63 (hF.W h.W)) rfl rfl (Nat.le_of_ble_eq_true rfl)) ?_)
      refine aa_go (aa_aload0 iX12_turnsBy_4) (aa_go (aa_iload1 iX12_turnsBy_5) (aa_go (aa_cVi iX12_turnsBy_6 (hS2) (by decide) lc_X12_changes lk_X12_329 (sh_63 (hF1.W h.W)) rfl rfl (Nat.le_of_ble_eq_true rfl)) (aa_go (aa_istore4 iX12_turnsBy_9 rfl (by decide)) (aa_go (aa_aload0 iX12_turnsBy_11) (aa_go (aa_getE iX12_turnsBy_12 fl_X12_320 (sh_63 (hF1.W h.W)) rfl hC1.2.1) (aa_go (aa_iconst iX12_turnsBy_15 ki_1) (aa_go (aa_aload0 iX12_turnsBy_16) ?_)))))))
      refine aa_go (aa_getE iX12_turnsBy_17 fl_X12_78 (sh_63 (hF1.W h.W)) rfl (FC.nn h hF1)) (aa_go (aa_ishlN iX12_turnsBy_20 (by omega)) ?_)
      refine aa_go (aa_top (y := nI (2 ^ pl_n P)) (by rw [Nat.one_shiftLeft])) ?_
      refine aa_go (aa_iconst iX12_turnsBy_21 ki_1) (aa_go (aa_isubN iX12_turnsBy_22 (by omega)) (aa_go (aa_iconst iX12_turnsBy_23 ki_m1) (aa_go (aa_ixor iX12_turnsBy_24) (aa_go (aa_iandC iX12_turnsBy_25) (aa_go (aa_istore5 iX12_turnsBy_26 rfl (by decide)) (aa_go (aa_iload4 iX12_turnsBy_28) ?_))))))
      refine aa_go (aa_if_eqT iX12_turnsBy_30 (by decide)) ?_
      exact tb_no h hF1 hQ1
    | true =>
      obtain ⟨σ2, ⟨hF2, hC2, e3, e4⟩, hS2⟩ := m_changesY h hF1 hC1 (by omega) (fun q hq => absurd hq (Nat.not_lt_zero q)) (by omega) hc hg
      have hQ3 := hQ1.fr e3 e4
      obtain ⟨v1, v2, v3, v4, v5, -⟩ := cg_v ok (fun q hq => absurd hq (Nat.not_lt_zero q)) A14_le (vst_0 gl A14) hc hg
      rw [wth_id gl] at v5
      have c2 := cg_2 (e := gen g) (w := gtn g) ok gl hc hg hd
      have hgd : lgC P (cgT P A14 0 (gth P g) c) d = lgC P (rmv P c (gth P g)) d := by
        rw [← v5]
        exact lgC_cg (fun i hi => by rw [wth_bit, decide_eq_true hi, Bool.true_and])
      have tl := pw_16 n14 (show cgM 0 c ≤ 2 by omega) v1.1
      generalize hA1 : cgA A14 0 c = A1 at *
      generalize hm1 : cgM 0 c = m1 at *
      generalize ht1 : cgT P A14 0 (gth P g) c = t1 at *
      have bl : bd t1 (bd t1 (bd t1 (2 ^ pl_n P - 1))) < 65536 := bb_bd tl
      have bl0 : bd t1 (bd t1 (2 ^ pl_n P - 1)) < 65536 := bb_bd tl
      have hgl : lgC P (bd t1 (bd t1 (2 ^ pl_n P - 1))) d = lgC P (rmv P c (gth P g)) d := by
        rw [← hgd]
        refine lgC_cg (fun i hi => ?_)
        rw [bd_bit, bd_bit, Nat.testBit_two_pow_sub_one]
        simp [hi]
      have hor : bd t1 (bd t1 (2 ^ pl_n P - 1)) ||| bd t1 (2 ^ pl_n P - 1) = t1 := by
        apply bb_ext
        intro i
        rw [Nat.testBit_or, bd_bit, bd_bit]
        cases t1.testBit i <;> cases (2 ^ pl_n P - 1).testBit i <;> rfl
      have hF3 := hF2.f (k := 34) (by decide) (nI (bd t1 (bd t1 (2 ^ pl_n P - 1))))
      have hS3 := m_canChange h hF3 sI_eq (by omega) d34
      rw [hgl] at hS3
      have hF4 := hF3.f (k := 34) (by decide) (nI t1)
      have hC4 : MCh P A1 m1 t1 (aa_sI (aa_sI σ2 63 34 (nI (bd t1 (bd t1 (2 ^ pl_n P - 1))))) 63 34 (nI t1)).1 := ⟨by rw [sI_nk (by decide), sI_nk (by decide)]; exact hC2.1, sI_eq, fun k hk => by rw [sI_ne (by decide), sI_ne (by decide), sI_ne (by decide), sI_ne (by decide), sI_ne (by decide), sI_ne (by decide)]; exact hC2.2.2 k hk⟩
      have hQ4 : MMQ Q' (aa_sI (aa_sI σ2 63 34 (nI (bd t1 (bd t1 (2 ^ pl_n P - 1))))) 63 34 (nI t1)).1 := hQ3.fr (by rw [sI_nk (by decide), sI_nk (by decide)]) (by rw [sI_ne (by decide), sI_ne (by decide)])
      rw [tb2, hg, Bool.true_and]
      have rest : ∀ b : Bool, lgC P (rmv P c (gth P g)) d = b → aa_V mX12_turnsBy 31 68 [some (.ref 63), some (.int (nI c)), some (.int (nI d)), some (.int (nI w.toNat)), some (.int (nI b.toNat)), some (.int (nI (bd t1 (2 ^ pl_n P - 1))))] [] (aa_sI (aa_sI σ2 63 34 (nI (bd t1 (bd t1 (2 ^ pl_n P - 1))))) 63 34 (nI t1)) (fun ra σ' => ra = some (.int (nI (b && (Z2 P (gen g) (gtn g) (gth P g) c d != w)).toNat)) ∧ TBQ P g Q' σ0 σ') := by
        intro b hb
        cases b with
        | false =>
          rw [Bool.false_and]
          refine aa_go (aa_iload4 iX12_turnsBy_68) ?_
          refine aa_go (aa_if_eqT iX12_turnsBy_70 (by decide)) ?_
          refine aa_go (aa_iconst iX12_turnsBy_85 ki_0) (aa_go (aa_istore4 iX12_turnsBy_86 rfl (by decide)) ?_)
          exact tb_no h hF4 hQ4
        | true =>
          rw [Bool.true_and]
          obtain ⟨σ5, ⟨hF5, hC5, e5, e6⟩, hS5⟩ := m_changesY h hF4 hC4 (by omega) v2 (by omega) hd (by rw [hgd]; exact hb)
          have hQ5 := hQ4.fr e5 e6
          obtain ⟨u1, u2, u3, u4, -, -⟩ := cg_v ok v2 v3 v1 hd (by rw [hgd]; exact hb)
          have tb := tb_mid (c := c) h hG hb0 hF5 hC5 (by omega) u2 u3 u1 hQ5 hQ2 (x2 := nI d) (w := w) (y5 := some (.int (nI (bd t1 (2 ^ pl_n P - 1)))))
          rw [c2 hb] at tb
          refine aa_go (aa_iload4 iX12_turnsBy_68) ?_
          refine aa_go (aa_if_eqF iX12_turnsBy_70 (by decide)) ?_
          refine aa_go (aa_aload0 iX12_turnsBy_73) (aa_go (aa_iload2 iX12_turnsBy_74) (aa_go (aa_cVi iX12_turnsBy_75 (hS5) (by decide) lc_X12_changes lk_X12_329 (sh_63 (hF4.W h.W)) rfl rfl (Nat.le_of_ble_eq_true rfl)) ?_))
          refine aa_go (aa_if_eqF iX12_turnsBy_78 (by decide)) ?_
          refine aa_go (aa_iconst iX12_turnsBy_81 ki_1) (aa_go (aa_goto iX12_turnsBy_82) (aa_go (aa_istore4 iX12_turnsBy_86 rfl (by decide)) ?_))
          exact tb
      refine aa_go (aa_aload0 iX12_turnsBy_0) (aa_go (aa_cVv iX12_turnsBy_1 (hS1) (by decide) lc_X12_clears lk_X12_326 (sh_63 (hF.W h.W)) rfl rfl (Nat.le_of_ble_eq_true rfl)) ?_)
      refine aa_go (aa_aload0 iX12_turnsBy_4) (aa_go (aa_iload1 iX12_turnsBy_5) (aa_go (aa_cVi iX12_turnsBy_6 (hS2) (by decide) lc_X12_changes lk_X12_329 (sh_63 (hF1.W h.W)) rfl rfl (Nat.le_of_ble_eq_true rfl)) ?_))
      refine aa_go (aa_istore4 iX12_turnsBy_9 rfl (by decide)) (aa_go (aa_aload0 iX12_turnsBy_11) (aa_go (aa_getE iX12_turnsBy_12 fl_X12_320 (sh_63 (hF2.W h.W)) rfl hC2.2.1) (aa_go (aa_iconst iX12_turnsBy_15 ki_1) (aa_go (aa_aload0 iX12_turnsBy_16) (aa_go (aa_getE iX12_turnsBy_17 fl_X12_78 (sh_63 (hF2.W h.W)) rfl (FC.nn h hF2)) (aa_go (aa_ishlN iX12_turnsBy_20 (by omega)) ?_))))))
      refine aa_go (aa_top (y := nI (2 ^ pl_n P)) (by rw [Nat.one_shiftLeft])) ?_
      refine aa_go (aa_iconst iX12_turnsBy_21 ki_1) (aa_go (aa_isubN iX12_turnsBy_22 (by omega)) (aa_go (aa_iconst iX12_turnsBy_23 ki_m1) (aa_go (aa_ixor iX12_turnsBy_24) (aa_go (aa_iandC iX12_turnsBy_25) (aa_go (aa_istore5 iX12_turnsBy_26 rfl (by decide)) (aa_go (aa_iload4 iX12_turnsBy_28) ?_))))))
      refine aa_go (aa_if_eqF iX12_turnsBy_30 (by decide)) ?_
      refine aa_go (aa_iload2 iX12_turnsBy_33) ?_
      refine aa_go (aa_if_ltN iX12_turnsBy_34 (by omega)) ?_
      refine aa_go (aa_aload0 iX12_turnsBy_37) (aa_go (aa_dup iX12_turnsBy_38 rfl) (aa_go (aa_getE iX12_turnsBy_39 fl_X12_320 (sh_63 (hF2.W h.W)) rfl hC2.2.1) (aa_go (aa_iload5 iX12_turnsBy_42) (aa_go (aa_iconst iX12_turnsBy_44 ki_m1) (aa_go (aa_ixor iX12_turnsBy_45) (aa_go (aa_iandC iX12_turnsBy_46) (aa_go (aa_putI iX12_turnsBy_47 fl_X12_320 (fun h => nomatch h) (sh_63 (hF2.W h.W)) rfl ⟨rfl, rfl⟩) ?_)))))))
      refine aa_go (aa_aload0 iX12_turnsBy_50) (aa_go (aa_iload2 iX12_turnsBy_51) (aa_go (aa_cVi iX12_turnsBy_52 (hS3) (by decide) lc_X12_canChange lk_X12_332 (sh_63 (hF3.W h.W)) rfl rfl (Nat.le_of_ble_eq_true rfl)) (aa_go (aa_istore4 iX12_turnsBy_55 rfl (by decide)) (aa_go (aa_aload0 iX12_turnsBy_57) (aa_go (aa_dup iX12_turnsBy_58 rfl) (aa_go (aa_getE iX12_turnsBy_59 fl_X12_320 (sh_63 (hF3.W h.W)) rfl sI_eq) (aa_go (aa_iload5 iX12_turnsBy_62) ?_)))))))
      refine aa_go (aa_iorN iX12_turnsBy_64 ) ?_
      refine aa_go (aa_top (y := nI t1) (by rw [hor])) ?_
      refine aa_go (aa_putI iX12_turnsBy_65 fl_X12_320 (fun h => nomatch h) (sh_63 (hF3.W h.W)) rfl ⟨rfl, rfl⟩) ?_
      exact rest _ rfl
  obtain ⟨ra, σ', ⟨rfl, h9⟩, hS9⟩ := aa_S_of (avs := [.ref 63, .int (nI c), .int (nI d), .int (nI w.toNat)]) (by decide) 2 [some (.ref 63), some (.int (nI c)), some (.int (nI d)), some (.int (nI w.toNat)), none, none] rfl rfl key
  exact ⟨σ', h9, hS9⟩
end
