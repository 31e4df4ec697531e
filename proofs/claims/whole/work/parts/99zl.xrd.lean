/-! THE REFERENCE: reading, sign by sign -/
theorem sI_sI {σ : aa_St} {c k : Nat} {x y : Int32} : aa_sI (aa_sI σ c k x) c k y = aa_sI σ c k y := by
  refine Prod.ext ?_ rfl
  funext a j
  by_cases e : a = c
  · subst e
    rw [sI_at, sI_at, sI_at]
    by_cases q : j = k
    · rw [if_pos q, if_pos q]
    · rw [if_neg q, if_neg q, if_neg q]
  · rw [sI_ne e, sI_ne e, sI_ne e]
theorem sI_id {σ : aa_St} {c k : Nat} {x : Int32} (h : σ.1 c k = x) : aa_sI σ c k x = σ := by
  refine Prod.ext ?_ rfl
  funext a j
  by_cases e : a = c
  · subst e
    rw [sI_at]
    by_cases q : j = k
    · rw [if_pos q, q]; exact h.symm
    · rw [if_neg q]
  · rw [sI_ne e]
def SA (σ : aa_St) (p : Nat) : aa_St := aa_sI σ 63 18 (nI p)
theorem SA_SA (σ : aa_St) (p q : Nat) : SA (SA σ p) q = SA σ q := sI_sI
theorem SA_id {σ : aa_St} {p : Nat} (h : σ.1 63 18 = nI p) : SA σ p = σ := sI_id h
/-- the tape under the eye -/
def RT (tx : Nat → Nat) (n p : Nat) (i : Nat → Nat → Int32) : Prop := i 63 18 = nI p ∧ i 63 19 = nI (min n 76) ∧ n ≤ 80 ∧ p ≤ min n 76 ∧ ∀ q, q < n → i 72 q = nI (tx q) ∧ tx q < 256
theorem RT.sa {tx : Nat → Nat} {n p q : Nat} {σ : aa_St} (h : RT tx n p σ.1) (hq : q ≤ min n 76) : RT tx n q (SA σ q).1 := ⟨sI_eq, by rw [show (SA σ q).1 63 19 = σ.1 63 19 from sI_nk (by decide)]; exact h.2.1, h.2.2.1, hq, fun j hj => by rw [show (SA σ q).1 72 = σ.1 72 from sI_ne (by decide)]; exact h.2.2.2.2 j hj⟩
theorem RT.fr {tx : Nat → Nat} {n p : Nat} {i i' : Nat → Nat → Int32} (h : RT tx n p i) (h1 : i' 63 18 = i 63 18) (h2 : i' 63 19 = i 63 19) (h3 : i' 72 = i 72) : RT tx n p i' := ⟨by rw [h1]; exact h.1, by rw [h2]; exact h.2.1, h.2.2.1, h.2.2.2.1, fun q hq => by rw [h3]; exact h.2.2.2.2 q hq⟩
def tkB (tx : Nat → Nat) (n p s : Nat) : Bool := decide (p < min n 76) && decide (tx p = s)
def dgB (tx : Nat → Nat) (n p : Nat) : Bool := decide (p < min n 76) && isD (tx p)
theorem dg_v {tx : Nat → Nat} {n p : Nat} (h : dgB tx n p = true) : p < min n 76 ∧ 48 ≤ tx p ∧ tx p ≤ 57 := by
  rw [dgB, Bool.and_eq_true, decide_eq_true_eq, isD_iff] at h
  exact h
def nmf (tx : Nat → Nat) (n dg lo : Nat) (hi : Int) (p : Nat) : Option Nat × Nat :=
  if dgB tx n p = true then
    (if dg = 2 ∧ dgB tx n (p + 1) = true then
      (if lo ≤ (tx p - 48) * 10 + tx (p + 1) - 48 ∧ (((tx p - 48) * 10 + tx (p + 1) - 48 : Nat) : Int) ≤ hi then (some ((tx p - 48) * 10 + tx (p + 1) - 48), p + 2) else (none, p + 1))
    else (if lo ≤ tx p - 48 ∧ ((tx p - 48 : Nat) : Int) ≤ hi then (some (tx p - 48), p + 1) else (none, p)))
  else (none, p)
section
variable {r : Nat → Nat} {dy : List aa_Shp} {σ : aa_St} {tx : Nat → Nat} {n p : Nat}
theorem m_takes (hW : aa_W r dy σ) (hT : RT tx n p σ.1) {s : Nat} (hs : s < 256) : aa_SX mX12_takes 2 [.ref 63, .int (nI s)] σ (some (.int (nI (tkB tx n p s).toNat))) (SA σ (p + (tkB tx n p s).toNat)) := by
  have n80 := hT.2.2.1
  have pl := hT.2.2.2.1
  have fin : ∀ b : Bool, b = tkB tx n p s → aa_V mX12_takes 2 29 [some (.ref 63), some (.int (nI s)), none] [.int (nI b.toNat)] σ (fun r1 σ1 => r1 = some (.int (nI (tkB tx n p s).toNat)) ∧ σ1 = SA σ (p + (tkB tx n p s).toNat)) := by
    intro b hb
    subst hb
    refine aa_go (aa_istore2 iX12_takes_29 rfl (by decide)) (aa_go (aa_aload0 iX12_takes_30) (aa_go (aa_dup iX12_takes_31 rfl) (aa_go (aa_getE iX12_takes_32 fl_X12_25 (sh_63 hW) rfl hT.1) (aa_go (aa_iload2 iX12_takes_35) (aa_go (aa_cSi iX12_takes_36 (m_flag (tkB tx n p s)) (by decide) lc_X12_flag lk_X12_31 rfl (Nat.le_of_ble_eq_true rfl)) (aa_go (aa_iaddN iX12_takes_39 ) (aa_go (aa_putI iX12_takes_40 fl_X12_25 (fun h => nomatch h) (sh_63 hW) rfl ⟨rfl, rfl⟩) ?_)))))))
    refine aa_go (aa_iload2 iX12_takes_43) ?_
    refine aa_zretB iX12_takes_44 rfl ?_
    exact ⟨rfl, rfl⟩
  refine aa_E_of (by decide) 1 [some (.ref 63), some (.int (nI s)), none] rfl rfl ?_
  refine aa_go (aa_aload0 iX12_takes_0) (aa_go (aa_getE iX12_takes_1 fl_X12_25 (sh_63 hW) rfl hT.1) (aa_go (aa_aload0 iX12_takes_4) (aa_go (aa_getE iX12_takes_5 fl_X12_28 (sh_63 hW) rfl hT.2.1) ?_)))
  refine aa_ic_geN iX12_takes_8 (by omega) (by omega) (fun g1 => ?_) (fun g1 => ?_)
  · skip
    refine aa_go (aa_iconst iX12_takes_28 ki_0) ?_
    refine fin false ?_
    rw [tkB, decide_eq_false (by omega)]; rfl
  · skip
    have q := hT.2.2.2.2 p (by omega)
    refine aa_go (aa_aload0 iX12_takes_11) (aa_go (aa_getR iX12_takes_12 fl_X12_17 (sh_63 hW) rfl) (aa_go (aa_aload0 iX12_takes_15) (aa_go (aa_getE iX12_takes_16 fl_X12_25 (sh_63 hW) rfl hT.1) (aa_go (aa_ialE iX12_takes_19 (sh_72 hW) (by omega) (by omega) (q.1)) (aa_go (aa_iload1 iX12_takes_20) ?_)))))
    refine aa_ic_neN iX12_takes_21 (by omega) (by omega) (fun g2 => ?_) (fun g2 => ?_)
    · skip
      refine aa_go (aa_iconst iX12_takes_28 ki_0) ?_
      refine fin false ?_
      rw [tkB, decide_eq_false (show ¬ tx p = s by omega), Bool.and_false]
    · skip
      refine aa_go (aa_iconst iX12_takes_24 ki_1) (aa_go (aa_goto iX12_takes_25) ?_)
      refine fin true ?_
      rw [tkB, decide_eq_true (show p < min n 76 by omega), decide_eq_true (show tx p = s by omega)]; rfl
theorem m_isDigit (hW : aa_W r dy σ) (hT : RT tx n p σ.1) : aa_SX mX12_isDigit 2 [.ref 63] σ (some (.int (nI (dgB tx n p).toNat))) σ := by
  have n80 := hT.2.2.1
  have pl := hT.2.2.2.1
  refine aa_E_of (by decide) 0 [some (.ref 63)] rfl rfl ?_
  refine aa_go (aa_aload0 iX12_isDigit_0) (aa_go (aa_getE iX12_isDigit_1 fl_X12_25 (sh_63 hW) rfl hT.1) (aa_go (aa_aload0 iX12_isDigit_4) (aa_go (aa_getE iX12_isDigit_5 fl_X12_28 (sh_63 hW) rfl hT.2.1) ?_)))
  refine aa_ic_geN iX12_isDigit_8 (by omega) (by omega) (fun g1 => ?_) (fun g1 => ?_)
  · skip
    refine aa_go (aa_iconst iX12_isDigit_37 ki_0) ?_
    refine aa_zretF iX12_isDigit_38 rfl ?_
    exact ⟨by rw [dgB, decide_eq_false (by omega)]; rfl, rfl⟩
  · skip
    have q := hT.2.2.2.2 p (by omega)
    have hI : aa_SX mX12_in 1 [.long (lN (tx p)), .long (lN 48), .long (lN 57)] σ (some (.int (nI (isD (tx p)).toNat))) σ := by
      have := m_in (σ := σ) (v := tx p) (lo := 48) (hi := 57) (by omega) (by omega) (by omega)
      rw [show decide ((48 : Int) ≤ tx p ∧ (tx p : Int) ≤ 57) = isD (tx p) by rw [isD, decide_eq_decide]; omega] at this
      rw [lZ_N, lZ_N, lZ_N]
      exact this
    have dp : decide (p < min n 76) = true := decide_eq_true (by omega)
    refine aa_go (aa_aload0 iX12_isDigit_11) (aa_go (aa_getR iX12_isDigit_12 fl_X12_17 (sh_63 hW) rfl) (aa_go (aa_aload0 iX12_isDigit_15) (aa_go (aa_getE iX12_isDigit_16 fl_X12_25 (sh_63 hW) rfl hT.1) (aa_go (aa_ialE iX12_isDigit_19 (sh_72 hW) (by omega) (by omega) (q.1)) (aa_go (aa_i2lN iX12_isDigit_20 (by omega)) (aa_go (aa_ldc2 iX12_isDigit_21 ld_X12_35) (aa_go (aa_ldc2 iX12_isDigit_24 ld_X12_37) ?_)))))))
    refine aa_go (aa_cSi iX12_isDigit_27 (hI) (by decide) lc_X12_in lk_X12_21 rfl (Nat.le_of_ble_eq_true rfl)) ?_
    refine aa_if_eqB iX12_isDigit_30 (fun g2 => ?_) (fun g2 => ?_)
    · skip
      refine aa_go (aa_iconst iX12_isDigit_37 ki_0) ?_
      refine aa_zretF iX12_isDigit_38 rfl ?_
      exact ⟨by rw [dgB, dp, g2]; rfl, rfl⟩
    · skip
      refine aa_go (aa_iconst iX12_isDigit_33 ki_1) (aa_go (aa_goto iX12_isDigit_34) ?_)
      refine aa_zretT iX12_isDigit_38 rfl ?_
      exact ⟨by rw [dgB, dp, g2]; rfl, rfl⟩
theorem nm_fin (hW : aa_W r dy σ) {dg lo v k q : Nat} {hi : Int} (hq : σ.1 63 18 = nI (q + 1)) (hv : v ≤ 99) (hl : lo ≤ 100) (h1 : -1 ≤ hi) (h2 : hi ≤ 100) (hq2 : q ≤ 100) : aa_V mX12_number 3 62 [some (.ref 63), some (.int (nI dg)), some (.int (nI lo)), some (.int (iZ hi)), some (.int (nI v)), some (.int (nI k))] [] σ (fun ra σ' => ra = some (.int (oI (if lo ≤ v ∧ (v : Int) ≤ hi then some v else none))) ∧ σ' = if lo ≤ v ∧ (v : Int) ≤ hi then σ else SA σ q) := by
  have hI : aa_SX mX12_in 1 [.long (lN v), .long (lN lo), .long (lZ hi)] σ (some (.int (nI (decide (lo ≤ v ∧ (v : Int) ≤ hi)).toNat))) σ := by
    have := m_in (σ := σ) (v := v) (lo := lo) (hi := hi) (by omega) (by omega) (by omega)
    rw [show decide ((lo : Int) ≤ v ∧ (v : Int) ≤ hi) = decide (lo ≤ v ∧ (v : Int) ≤ hi) by rw [decide_eq_decide]; omega] at this
    rw [lZ_N, lZ_N]
    exact this
  refine aa_go (aa_iload4 iX12_number_62) (aa_go (aa_i2lN iX12_number_64 (by omega)) (aa_go (aa_iload2 iX12_number_65) (aa_go (aa_i2lN iX12_number_66 (by omega)) (aa_go (aa_iload3 iX12_number_67) (aa_go (aa_i2l iX12_number_68) ?_)))))
  refine aa_go (aa_topl (y := lZ hi) (iZ_l (by omega) (by omega))) ?_
  refine aa_go (aa_cSi iX12_number_69 (hI) (by decide) lc_X12_in lk_X12_21 rfl (Nat.le_of_ble_eq_true rfl)) ?_
  refine aa_if_neB iX12_number_72 (fun g1 => ?_) (fun g1 => ?_)
  · skip
    have g1 := of_decide_eq_true g1
    refine aa_go (aa_iload4 iX12_number_87) ?_
    refine aa_iret iX12_number_89 rfl ?_
    rw [if_pos g1, if_pos g1]
    exact ⟨rfl, rfl⟩
  · skip
    have g1 := of_decide_eq_false g1
    refine aa_go (aa_aload0 iX12_number_75) (aa_go (aa_dup iX12_number_76 rfl) (aa_go (aa_getE iX12_number_77 fl_X12_25 (sh_63 hW) rfl hq) (aa_go (aa_iconst iX12_number_80 ki_1) (aa_go (aa_isubN iX12_number_81 (by omega)) (aa_go (aa_putI iX12_number_82 fl_X12_25 (fun h => nomatch h) (sh_63 hW) rfl ⟨rfl, rfl⟩) (aa_go (aa_iconst iX12_number_85 ki_m1) ?_))))))
    refine aa_iret iX12_number_86 rfl ?_
    rw [if_neg g1, if_neg g1]
    exact ⟨rfl, by rw [SA, Nat.add_sub_cancel]⟩
theorem m_number (hW : aa_W r dy σ) (hT : RT tx n p σ.1) {dg lo : Nat} {hi : Int} (hd : dg = 1 ∨ dg = 2) (hl : lo ≤ 100) (h1 : -1 ≤ hi) (h2 : hi ≤ 100) : aa_SX mX12_number 3 [.ref 63, .int (nI dg), .int (nI lo), .int (iZ hi)] σ (some (.int (oI (nmf tx n dg lo hi p).1))) (SA σ (nmf tx n dg lo hi p).2) := by
  have n80 := hT.2.2.1
  have pl := hT.2.2.2.1
  have key : aa_V mX12_number 3 0 [some (.ref 63), some (.int (nI dg)), some (.int (nI lo)), some (.int (iZ hi)), none, none] [] σ (fun ra σ' => ra = some (.int (oI (nmf tx n dg lo hi p).1)) ∧ σ' = SA σ (nmf tx n dg lo hi p).2) := by
    refine aa_go (aa_iconst iX12_number_0 ki_0) (aa_go (aa_istore4 iX12_number_1 rfl (by decide)) (aa_go (aa_iconst iX12_number_3 ki_0) (aa_go (aa_istore5 iX12_number_4 rfl (by decide)) (aa_go (aa_iload5 iX12_number_6) (aa_go (aa_iload1 iX12_number_8) ?_)))))
    refine aa_ic_geN iX12_number_9 (by omega) (by omega) (fun g1 => ?_) (fun g1 => ?_)
    · skip
      omega
    · skip
      refine aa_go (aa_aload0 iX12_number_12) (aa_go (aa_cVi iX12_number_13 (m_isDigit hW hT) (by decide) lc_X12_isDigit lk_X12_39 (sh_63 hW) rfl rfl (Nat.le_of_ble_eq_true rfl)) ?_)
      refine aa_if_eqB iX12_number_16 (fun g2 => ?_) (fun g2 => ?_)
      · skip
        refine aa_go (aa_iload5 iX12_number_55) ?_
        refine aa_go (aa_if_neF iX12_number_57 (by decide)) ?_
        refine aa_go (aa_iconst iX12_number_60 ki_m1) ?_
        refine aa_iret iX12_number_61 rfl ?_
        rw [nmf, if_neg (by rw [g2]; decide)]
        exact ⟨rfl, (SA_id hT.1).symm⟩
      · skip
        obtain ⟨d1, d2, d3⟩ := dg_v g2
        have q := hT.2.2.2.2 p (by omega)
        have hT1 := hT.sa (q := p + 1) (by omega)
        have hW1 : aa_W r dy (SA σ (p + 1)) := hW.sI _ _ _
        refine aa_go (aa_bipush iX12_number_19 kb_10) (aa_go (aa_iload4 iX12_number_21) (aa_go (aa_imulN iX12_number_23 ) (aa_go (aa_aload0 iX12_number_24) (aa_go (aa_getR iX12_number_25 fl_X12_17 (sh_63 hW) rfl) (aa_go (aa_aload0 iX12_number_28) (aa_go (aa_getE iX12_number_29 fl_X12_25 (sh_63 hW) rfl hT.1) (aa_go (aa_ialE iX12_number_32 (sh_72 hW) (by omega) (by omega) (q.1)) ?_)))))))
        refine aa_go (aa_iaddN iX12_number_33 ) (aa_go (aa_bipush iX12_number_34 kb_48) (aa_go (aa_isubN iX12_number_36 (by omega)) ?_))
        refine aa_go (aa_top (y := nI (tx p - 48)) (by rw [Nat.mul_zero, Nat.zero_add])) ?_
        refine aa_go (aa_istore4 iX12_number_37 rfl (by decide)) (aa_go (aa_aload0 iX12_number_39) (aa_go (aa_dup iX12_number_40 rfl) (aa_go (aa_getE iX12_number_41 fl_X12_25 (sh_63 hW) rfl hT.1) (aa_go (aa_iconst iX12_number_44 ki_1) (aa_go (aa_iaddN iX12_number_45 ) (aa_go (aa_putI iX12_number_46 fl_X12_25 (fun h => nomatch h) (sh_63 hW) rfl ⟨rfl, rfl⟩) ?_))))))
        refine aa_go (aa_iincN5 (k := 1) iX12_number_49 rfl (by decide)) (aa_go (aa_goto iX12_number_52) (aa_go (aa_iload5 iX12_number_6) (aa_go (aa_iload1 iX12_number_8) ?_)))
        refine aa_ic_geN iX12_number_9 (by omega) (by omega) (fun g3 => ?_) (fun g3 => ?_)
        · skip
          have e : dg = 1 := by omega
          refine aa_go (aa_iload5 iX12_number_55) ?_
          refine aa_go (aa_if_neT iX12_number_57 (by decide)) ?_
          have := nm_fin (dg := dg) (k := 0 + 1) (v := tx p - 48) (lo := lo) (hi := hi) hW1 (q := p) sI_eq (by omega) hl h1 h2 (by omega)
          rw [nmf, if_pos g2, if_neg (by omega)]
          by_cases c : lo ≤ tx p - 48 ∧ ((tx p - 48 : Nat) : Int) ≤ hi
          · rw [if_pos c, if_pos c] at this
            rw [if_pos c]; exact this
          · rw [if_neg c, if_neg c, SA_SA] at this
            rw [if_neg c]; exact this
        · skip
          have e : dg = 2 := by omega
          refine aa_go (aa_aload0 iX12_number_12) (aa_go (aa_cVi iX12_number_13 (m_isDigit hW1 hT1) (by decide) lc_X12_isDigit lk_X12_39 (sh_63 hW1) rfl rfl (Nat.le_of_ble_eq_true rfl)) ?_)
          refine aa_if_eqB iX12_number_16 (fun g4 => ?_) (fun g4 => ?_)
          · skip
            refine aa_go (aa_iload5 iX12_number_55) ?_
            refine aa_go (aa_if_neT iX12_number_57 (by decide)) ?_
            have := nm_fin (dg := dg) (k := 0 + 1) (v := tx p - 48) (lo := lo) (hi := hi) hW1 (q := p) sI_eq (by omega) hl h1 h2 (by omega)
            rw [nmf, if_pos g2, if_neg (by rw [g4]; exact fun x => absurd x.2 (by decide))]
            by_cases c : lo ≤ tx p - 48 ∧ ((tx p - 48 : Nat) : Int) ≤ hi
            · rw [if_pos c, if_pos c] at this
              rw [if_pos c]; exact this
            · rw [if_neg c, if_neg c, SA_SA] at this
              rw [if_neg c]; exact this
          · skip
            obtain ⟨e1, e2, e3⟩ := dg_v g4
            have q1 := hT1.2.2.2.2 (p + 1) (by omega)
            have hW2 : aa_W r dy (SA (SA σ (p + 1)) (p + 2)) := hW1.sI _ _ _
            refine aa_go (aa_bipush iX12_number_19 kb_10) (aa_go (aa_iload4 iX12_number_21) (aa_go (aa_imulN iX12_number_23 ) (aa_go (aa_aload0 iX12_number_24) (aa_go (aa_getR iX12_number_25 fl_X12_17 (sh_63 hW1) rfl) (aa_go (aa_aload0 iX12_number_28) (aa_go (aa_getE iX12_number_29 fl_X12_25 (sh_63 hW1) rfl hT1.1) (aa_go (aa_ialE iX12_number_32 (sh_72 hW1) (by omega) (by omega) (q1.1)) ?_)))))))
            refine aa_go (aa_iaddN iX12_number_33 ) (aa_go (aa_bipush iX12_number_34 kb_48) (aa_go (aa_isubN iX12_number_36 (by omega)) ?_))
            refine aa_go (aa_top (y := nI ((tx p - 48) * 10 + tx (p + 1) - 48)) (by rw [Nat.mul_comm])) ?_
            refine aa_go (aa_istore4 iX12_number_37 rfl (by decide)) (aa_go (aa_aload0 iX12_number_39) (aa_go (aa_dup iX12_number_40 rfl) (aa_go (aa_getE iX12_number_41 fl_X12_25 (sh_63 hW1) rfl hT1.1) (aa_go (aa_iconst iX12_number_44 ki_1) (aa_go (aa_iaddN iX12_number_45 ) (aa_go (aa_putI iX12_number_46 fl_X12_25 (fun h => nomatch h) (sh_63 hW1) rfl ⟨rfl, rfl⟩) ?_))))))
            refine aa_go (aa_iincN5 (k := 1) iX12_number_49 rfl (by decide)) (aa_go (aa_goto iX12_number_52) (aa_go (aa_iload5 iX12_number_6) (aa_go (aa_iload1 iX12_number_8) ?_)))
            refine aa_ic_geN iX12_number_9 (by omega) (by omega) (fun g5 => ?_) (fun g5 => ?_)
            · skip
              refine aa_go (aa_iload5 iX12_number_55) ?_
              refine aa_go (aa_if_neT iX12_number_57 (by decide)) ?_
              have := nm_fin (dg := dg) (k := 0 + 1 + 1) (v := (tx p - 48) * 10 + tx (p + 1) - 48) (lo := lo) (hi := hi) hW2 (q := p + 1) sI_eq (by omega) hl h1 h2 (by omega)
              rw [nmf, if_pos g2, if_pos ⟨e, g4⟩]
              rw [SA_SA] at this
              rw [show aa_sI (aa_sI σ 63 18 (nI (p + 1))) 63 18 (nI (p + 1 + 1)) = SA σ (p + 2) from sI_sI]
              by_cases c : lo ≤ (tx p - 48) * 10 + tx (p + 1) - 48 ∧ (((tx p - 48) * 10 + tx (p + 1) - 48 : Nat) : Int) ≤ hi
              · rw [if_pos c, if_pos c] at this
                rw [if_pos c]; exact this
              · rw [if_neg c, if_neg c, SA_SA] at this
                rw [if_neg c]; exact this
            · skip
              omega
  obtain ⟨ra, σ', ⟨rfl, rfl⟩, hS9⟩ := aa_S_of (avs := [.ref 63, .int (nI dg), .int (nI lo), .int (iZ hi)]) (by decide) 2 [some (.ref 63), some (.int (nI dg)), some (.int (nI lo)), some (.int (iZ hi)), none, none] rfl rfl key
  exact hS9
end
