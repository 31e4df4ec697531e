/-! THE REFERENCE: its small methods -/
theorem i2lZ (x : Int32) : x.toInt64 = lZ x.toInt := by
  rw [← Int64.toInt_inj, Int32.toInt_toInt64, lZ]
  have h1 := Int32.le_toInt x
  have h2 := Int32.toInt_lt x
  rw [Int64.toInt_ofInt_of_le (by omega) (by omega)]
theorem lZ_lt {a b : Int} (h1 : -9223372036854775808 ≤ a) (h2 : a < 9223372036854775808) (h3 : -9223372036854775808 ≤ b) (h4 : b < 9223372036854775808) : lZ a < lZ b ↔ a < b := by
  rw [Int64.lt_iff_toInt_lt, lZ, lZ, Int64.toInt_ofInt_of_le h1 h2, Int64.toInt_ofInt_of_le h3 h4]
def MP (P : pl_T) (i : Nat → Nat → Int32) : Prop := pl_ok P ∧ i 63 3 = nI (pl_n P) ∧ i 63 8 = nI (pl_b P) ∧ (∀ k, k < pl_n P → i 65 k = nI (pl_w P k) ∧ i 66 k = nI (pl_h P k) ∧ i 67 k = nI (pl_u P k) ∧ i 68 k = nI (pl_ab P k)) ∧ ∀ j, j < pl_b P → i 69 j = nI (pl_k P j)
theorem MP.fr {P : pl_T} {i i' : Nat → Nat → Int32} (h : MP P i) (h3 : i' 63 3 = i 63 3) (h8 : i' 63 8 = i 63 8) (hr : ∀ x, x = 65 ∨ x = 66 ∨ x = 67 ∨ x = 68 ∨ x = 69 → i' x = i x) : MP P i' := by
  obtain ⟨a0, a1, a2, a3, a4⟩ := h
  refine ⟨a0, by rw [h3]; exact a1, by rw [h8]; exact a2, fun k hk => ?_, fun j hj => by rw [hr 69 (by decide)]; exact a4 j hj⟩
  rw [hr 65 (by decide), hr 66 (by decide), hr 67 (by decide), hr 68 (by decide)]; exact a3 k hk
section
variable {r : Nat → Nat} {dy : List aa_Shp} {σ : aa_St} {P : pl_T}
theorem m_in {v lo hi : Int} (h1 : -4611686018427387904 ≤ v ∧ v ≤ 4611686018427387904) (h2 : -4611686018427387904 ≤ lo ∧ lo ≤ 4611686018427387904) (h3 : -4611686018427387904 ≤ hi ∧ hi ≤ 4611686018427387904) : aa_SX mX12_in 1 [.long (lZ v), .long (lZ lo), .long (lZ hi)] σ (some (.int (nI (decide (lo ≤ v ∧ v ≤ hi)).toNat))) σ := by
  have e1 := lZ_lt (a := v) (b := lo) (by omega) (by omega) (by omega) (by omega)
  have e2 := lZ_lt (a := hi) (b := v) (by omega) (by omega) (by omega) (by omega)
  refine aa_E_of (by decide) 0 [some (.long (lZ v)), none, some (.long (lZ lo)), none, some (.long (lZ hi)), none] rfl rfl ?_
  refine aa_go (aa_lload0 iX12_in_0) (aa_go (aa_lload2 iX12_in_1) (aa_go (aa_lcmp iX12_in_2) ?_))
  refine aa_if_ltJ iX12_in_3 (fun g1 => ?_) (fun g1 => ?_)
  · skip
    rw [e1] at g1
    refine aa_go (aa_iconst iX12_in_17 ki_0) ?_
    refine aa_zretF iX12_in_18 rfl ?_
    exact ⟨by rw [decide_eq_false (by omega)]; rfl, rfl⟩
  · skip
    rw [e1] at g1
    refine aa_go (aa_lload0 iX12_in_6) (aa_go (aa_lload4 iX12_in_7) (aa_go (aa_lcmp iX12_in_9) ?_))
    refine aa_if_gtJ iX12_in_10 (fun g2 => ?_) (fun g2 => ?_)
    · skip
      rw [e2] at g2
      refine aa_go (aa_iconst iX12_in_17 ki_0) ?_
      refine aa_zretF iX12_in_18 rfl ?_
      exact ⟨by rw [decide_eq_false (by omega)]; rfl, rfl⟩
    · skip
      rw [e2] at g2
      refine aa_go (aa_iconst iX12_in_13 ki_1) (aa_go (aa_goto iX12_in_14) ?_)
      refine aa_zretT iX12_in_18 rfl ?_
      exact ⟨by rw [decide_eq_true (by omega)]; rfl, rfl⟩
theorem m_inN {v hi : Nat} (hv : v < 2147483648) (hh : hi < 2147483648) : aa_SX mX12_in 1 [.long (lN v), .long (lN 0), .long (lN hi)] σ (some (.int (nI (decide (v ≤ hi)).toNat))) σ := by
  have := m_in (σ := σ) (v := v) (lo := 0) (hi := hi) (by omega) (by omega) (by omega)
  rw [show decide ((0 : Int) ≤ v ∧ (v : Int) ≤ hi) = decide (v ≤ hi) from decide_eq_decide.mpr (by omega)] at this
  exact this
theorem m_has {t k : Nat} (ht : t < 2147483648) (hk : k < 32) : aa_SX mX12_has 1 [.int (nI t), .int (nI k)] σ (some (.int (nI (t.testBit k).toNat))) σ := by
  have tb : (t.testBit k).toNat ≤ 1 := Bool.toNat_le _
  refine aa_E_of (by decide) 0 [some (.int (nI t)), some (.int (nI k))] rfl rfl ?_
  refine aa_go (aa_iload0 iX12_has_0) (aa_go (aa_iload1 iX12_has_1) (aa_go (aa_ishrN iX12_has_2 (by omega) (by omega)) (aa_go (aa_iconst iX12_has_3 ki_1) (aa_go (aa_ibit iX12_has_4) (aa_go (aa_iconst iX12_has_5 ki_1) ?_)))))
  refine aa_ic_neN iX12_has_6 (by omega) (by omega) (fun g1 => ?_) (fun g1 => ?_)
  · skip
    refine aa_go (aa_iconst iX12_has_13 ki_0) ?_
    refine aa_zretF iX12_has_14 rfl ?_
    refine ⟨?_, rfl⟩
    cases q : t.testBit k with
    | false => rfl
    | true => rw [q] at g1; exact absurd rfl g1
  · skip
    refine aa_go (aa_iconst iX12_has_9 ki_1) (aa_go (aa_goto iX12_has_10) ?_)
    refine aa_zretT iX12_has_14 rfl ?_
    refine ⟨?_, rfl⟩
    cases q : t.testBit k with
    | true => rfl
    | false => rw [q] at g1; exact absurd g1 (by decide)
theorem m_flag (b : Bool) : aa_SX mX12_flag 1 [.int (nI b.toNat)] σ (some (.int (nI b.toNat))) σ := by
  refine aa_E_of (by decide) 0 [some (.int (nI b.toNat))] rfl rfl ?_
  refine aa_go (aa_iload0 iX12_flag_0) ?_
  refine aa_if_eqB iX12_flag_1 (fun g1 => ?_) (fun g1 => ?_)
  · skip
    refine aa_go (aa_iconst iX12_flag_8 ki_0) ?_
    refine aa_iret iX12_flag_9 rfl ?_
    exact ⟨by rw [g1]; rfl, rfl⟩
  · skip
    refine aa_go (aa_iconst iX12_flag_4 ki_1) (aa_go (aa_goto iX12_flag_5) ?_)
    refine aa_iret iX12_flag_9 rfl ?_
    exact ⟨by rw [g1]; rfl, rfl⟩
theorem m_enters (hW : aa_W r dy σ) {k : Nat} (hk : σ.1 63 1 = nI k) (h20 : k < 20) (x : Int64) : aa_SX mX12_enters 1 [.ref 63, .long x] σ none (aa_sI (aa_sL σ 64 k x) 63 1 (nI (k + 1))) := by
  have h1 : (aa_sL σ 64 k x).1 63 1 = nI k := hk
  refine aa_E_of (by decide) 0 [some (.ref 63), some (.long (x)), none] rfl rfl ?_
  refine aa_go (aa_aload0 iX12_enters_0) (aa_go (aa_getR iX12_enters_1 fl_X12_7 (sh_63 hW) rfl) (aa_go (aa_aload0 iX12_enters_4) (aa_go (aa_getE iX12_enters_5 fl_X12_11 (sh_63 hW) rfl hk) (aa_go (aa_lload1 iX12_enters_8) (aa_go (aa_lasN iX12_enters_9 (sh_64 hW) (by omega) (by omega)) (aa_go (aa_aload0 iX12_enters_10) (aa_go (aa_dup iX12_enters_11 rfl) ?_)))))))
  refine aa_go (aa_getE iX12_enters_12 fl_X12_11 (sh_63 hW) rfl h1) (aa_go (aa_iconst iX12_enters_15 ki_1) (aa_go (aa_iaddN iX12_enters_16 ) (aa_go (aa_putI iX12_enters_17 fl_X12_11 (fun h => nomatch h) (sh_63 hW) rfl ⟨rfl, rfl⟩) ?_)))
  refine aa_vret iX12_enters_20 rfl ?_
  exact ⟨rfl, rfl⟩
theorem m_asks (hW : aa_W r dy σ) {k : Nat} (hk : σ.1 63 24 = nI k) : aa_SX mX12_asks 1 [.ref 63] σ none (aa_sI σ 63 24 (nI (k + 1))) := by
  refine aa_E_of (by decide) 0 [some (.ref 63)] rfl rfl ?_
  refine aa_go (aa_aload0 iX12_asks_0) (aa_go (aa_dup iX12_asks_1 rfl) (aa_go (aa_getE iX12_asks_2 fl_X12_167 (sh_63 hW) rfl hk) (aa_go (aa_iconst iX12_asks_5 ki_1) (aa_go (aa_iaddN iX12_asks_6 ) (aa_go (aa_putI iX12_asks_7 fl_X12_167 (fun h => nomatch h) (sh_63 hW) rfl ⟨rfl, rfl⟩) ?_)))))
  refine aa_vret iX12_asks_10 rfl ?_
  exact ⟨rfl, rfl⟩
theorem m_placeOf (hW : aa_W r dy σ) {t w : Nat} : aa_SX mX12_placeOf 1 [.ref 63, .int (nI t), .int (nI w)] σ (some (.int (nI (w * 65536 + t)))) σ := by
  refine aa_E_of (by decide) 0 [some (.ref 63), some (.int (nI t)), some (.int (nI w))] rfl rfl ?_
  refine aa_go (aa_iload2 iX12_placeOf_0) (aa_go (aa_ldc iX12_placeOf_1 ld_X12_170) (aa_go (aa_imulN iX12_placeOf_3 ) (aa_go (aa_iload1 iX12_placeOf_4) (aa_go (aa_iaddN iX12_placeOf_5 ) ?_))))
  refine aa_iret iX12_placeOf_6 rfl ?_
  exact ⟨rfl, rfl⟩
theorem m_isKnown (hW : aa_W r dy σ) {p q Q : Nat} (hp : p < 196608) (hq : σ.1 74 p = nI q) (hQ : σ.1 63 24 = nI Q) (h1 : q < 1000000) (h2 : Q < 1000000) : aa_SX mX12_isKnown 1 [.ref 63, .int (nI p)] σ (some (.int (nI (decide (q = Q)).toNat))) σ := by
  refine aa_E_of (by decide) 0 [some (.ref 63), some (.int (nI p))] rfl rfl ?_
  refine aa_go (aa_aload0 iX12_isKnown_0) (aa_go (aa_getR iX12_isKnown_1 fl_X12_171 (sh_63 hW) rfl) (aa_go (aa_iload1 iX12_isKnown_4) (aa_go (aa_ialE iX12_isKnown_5 (sh_74 hW) (by omega) (by omega) (hq)) (aa_go (aa_aload0 iX12_isKnown_6) (aa_go (aa_getE iX12_isKnown_7 fl_X12_167 (sh_63 hW) rfl hQ) ?_)))))
  refine aa_ic_neN iX12_isKnown_10 (by omega) (by omega) (fun g1 => ?_) (fun g1 => ?_)
  · skip
    refine aa_go (aa_iconst iX12_isKnown_17 ki_0) ?_
    refine aa_zretF iX12_isKnown_18 rfl ?_
    exact ⟨by rw [decide_eq_false g1]; rfl, rfl⟩
  · skip
    refine aa_go (aa_iconst iX12_isKnown_13 ki_1) (aa_go (aa_goto iX12_isKnown_14) ?_)
    refine aa_zretT iX12_isKnown_18 rfl ?_
    exact ⟨by rw [decide_eq_true g1]; rfl, rfl⟩
theorem m_keeps (hW : aa_W r dy σ) {p Q : Nat} (hp : p < 196608) (hQ : σ.1 63 24 = nI Q) (x : Int32) : aa_SX mX12_keeps 1 [.ref 63, .int (nI p), .int x] σ (some (.int x)) (aa_sI (aa_sI σ 74 p (nI Q)) 75 p x) := by
  refine aa_E_of (by decide) 0 [some (.ref 63), some (.int (nI p)), some (.int (x))] rfl rfl ?_
  refine aa_go (aa_aload0 iX12_keeps_0) (aa_go (aa_getR iX12_keeps_1 fl_X12_171 (sh_63 hW) rfl) (aa_go (aa_iload1 iX12_keeps_4) (aa_go (aa_aload0 iX12_keeps_5) (aa_go (aa_getE iX12_keeps_6 fl_X12_167 (sh_63 hW) rfl hQ) (aa_go (aa_iasN iX12_keeps_9 (sh_74 hW) (by omega) (by omega)) (aa_go (aa_aload0 iX12_keeps_10) (aa_go (aa_getR iX12_keeps_11 fl_X12_174 (sh_63 hW) rfl) ?_)))))))
  refine aa_go (aa_iload1 iX12_keeps_14) (aa_go (aa_iload2 iX12_keeps_15) (aa_go (aa_iasN iX12_keeps_16 (sh_75 hW) (by omega) (by omega)) (aa_go (aa_iload2 iX12_keeps_17) ?_)))
  refine aa_iret iX12_keeps_18 rfl ?_
  exact ⟨rfl, rfl⟩
theorem m_backOf (hW : aa_W r dy σ) (hM : MP P σ.1) {i : Nat} (hi : i < 32) : aa_SX mX12_backOf 1 [.ref 63, .int (nI i)] σ (some (.int (oI (bkO P i)))) σ := by
  obtain ⟨ok, a1, a2, a3, a4⟩ := hM
  have h2 := ok.2.1
  have h1 := ok.1
  have loop : ∀ f k, pl_b P - k < f → k ≤ pl_b P → (List.range k).find? (fun j => pl_k P j == i) = none → aa_V mX12_backOf 1 2 [some (.ref 63), some (.int (nI i)), some (.int (nI k))] [] σ (fun ra σ' => ra = some (.int (oI (bkO P i))) ∧ σ' = σ) := by
    intro f
    induction f with
    | zero => intro k g1; omega
    | succ f ih =>
      intro k g1 g2 hno
      have nxt := rfind_n hno
      refine aa_go (aa_iload2 iX12_backOf_2) (aa_go (aa_aload0 iX12_backOf_3) (aa_go (aa_getE iX12_backOf_4 fl_X12_63 (sh_63 hW) rfl a2) ?_))
      refine aa_ic_geN iX12_backOf_7 (by omega) (by omega) (fun g3 => ?_) (fun g3 => ?_)
      · skip
        have e : k = pl_b P := by omega
        subst e
        refine aa_go (aa_iconst iX12_backOf_28 ki_m1) ?_
        refine aa_iret iX12_backOf_29 rfl ?_
        exact ⟨by rw [bkO, hno]; rfl, rfl⟩
      · skip
        have kn := ok.2.2.2.2.1 k g3
        refine aa_go (aa_aload0 iX12_backOf_10) (aa_go (aa_getR iX12_backOf_11 fl_X12_69 (sh_63 hW) rfl) (aa_go (aa_iload2 iX12_backOf_14) (aa_go (aa_ialE iX12_backOf_15 (sh_69 hW) (by omega) (by omega) (a4 k g3)) (aa_go (aa_iload1 iX12_backOf_16) ?_))))
        refine aa_ic_neN iX12_backOf_17 (by omega) (by omega) (fun g4 => ?_) (fun g4 => ?_)
        · skip
          refine aa_go (aa_iincN2 (k := 1) iX12_backOf_22 rfl (by decide)) (aa_go (aa_goto iX12_backOf_25) ?_)
          exact ih (k + 1) (by omega) (by omega) (by rw [nxt, if_neg (by rw [beq_iff_eq]; exact g4)])
        · skip
          refine aa_go (aa_iload2 iX12_backOf_20) ?_
          refine aa_iret iX12_backOf_21 rfl ?_
          exact ⟨by rw [bkO, rfind_d (by omega : k + 1 ≤ pl_b P) (by rw [nxt, if_pos (by rw [beq_iff_eq]; exact g4)])]; rfl, rfl⟩
  have key : aa_V mX12_backOf 1 0 [some (.ref 63), some (.int (nI i)), none] [] σ (fun ra σ' => ra = some (.int (oI (bkO P i))) ∧ σ' = σ) := by
    refine aa_go (aa_iconst iX12_backOf_0 ki_0) (aa_go (aa_istore2 iX12_backOf_1 rfl (by decide)) ?_)
    exact loop (pl_b P + 1) 0 (by omega) (by omega) rfl
  obtain ⟨ra, σ', ⟨rfl, rfl⟩, hS9⟩ := aa_S_of (avs := [.ref 63, .int (nI i)]) (by decide) 1 [some (.ref 63), some (.int (nI i)), none] rfl rfl key
  exact hS9
def cpB (P : pl_T) (t i : Nat) : Bool := match bkO P i with
  | none => false
  | some q => !t.testBit i && !t.testBit (14 + q) && decide (bd (pl_u P i) t = 0)
theorem m_canPut (hW : aa_W r dy σ) (hM : MP P σ.1) {t i : Nat} (ht : t < 65536) (hi : i < pl_n P) : aa_SX mX12_canPut 2 [.ref 63, .int (nI t), .int (nI i)] σ (some (.int (nI (cpB P t i).toNat))) σ := by
  obtain ⟨ok, a1, a2, a3, a4⟩ := id hM
  have h1 := ok.1
  have h2 := ok.2.1
  have hS1 := m_backOf hW hM (i := i) (by omega)
  have ul := (ok.2.2.1 i hi).2.2.2
  have p14 := pw14 (show i ≤ 14 by omega)
  have bl : bd (pl_u P i) t < 2147483648 := Nat.lt_of_lt_of_le (bb_bd ul) (by omega)
  cases q : bkO P i with
  | none =>
    rw [q] at hS1
    have hS2 : aa_SX mX12_backOf 1 [.ref 63, .int (nI i)] σ (some (.int (-1))) σ := hS1
    have e0 : cpB P t i = false := by rw [cpB, q]
    rw [e0]
    refine aa_E_of (by decide) 1 [some (.ref 63), some (.int (nI t)), some (.int (nI i)), none] rfl rfl ?_
    refine aa_go (aa_aload0 iX12_canPut_0) (aa_go (aa_iload2 iX12_canPut_1) (aa_go (aa_cVi iX12_canPut_2 (hS2) (by decide) lc_X12_backOf lk_X12_117 (sh_63 hW) rfl rfl (Nat.le_of_ble_eq_true rfl)) (aa_go (aa_istore3 iX12_canPut_5 rfl (by decide)) (aa_go (aa_iload3 iX12_canPut_6) ?_))))
    refine aa_if_lt iX12_canPut_7 (fun g1 => ?_) (fun g1 => ?_)
    · skip
      refine aa_go (aa_iconst iX12_canPut_46 ki_0) ?_
      refine aa_zretF iX12_canPut_47 rfl ?_
      exact ⟨rfl, rfl⟩
    · skip
      exact absurd (by decide : (-1 : Int32) < 0) g1
  | some k =>
    have kb := (bkO_some q).1
    rw [q] at hS1
    have hS2 : aa_SX mX12_backOf 1 [.ref 63, .int (nI i)] σ (some (.int (nI k))) σ := hS1
    have e0 : cpB P t i = (!t.testBit i && !t.testBit (14 + k) && decide (bd (pl_u P i) t = 0)) := by rw [cpB, q]
    rw [e0]
    refine aa_E_of (by decide) 1 [some (.ref 63), some (.int (nI t)), some (.int (nI i)), none] rfl rfl ?_
    refine aa_go (aa_aload0 iX12_canPut_0) (aa_go (aa_iload2 iX12_canPut_1) (aa_go (aa_cVi iX12_canPut_2 (hS2) (by decide) lc_X12_backOf lk_X12_117 (sh_63 hW) rfl rfl (Nat.le_of_ble_eq_true rfl)) (aa_go (aa_istore3 iX12_canPut_5 rfl (by decide)) (aa_go (aa_iload3 iX12_canPut_6) ?_))))
    refine aa_go (aa_if_ltN iX12_canPut_7 (by omega)) ?_
    refine aa_go (aa_iload1 iX12_canPut_10) (aa_go (aa_iload2 iX12_canPut_11) (aa_go (aa_cSi iX12_canPut_12 (m_has (by omega) (by omega)) (by decide) lc_X12_has lk_X12_95 rfl (Nat.le_of_ble_eq_true rfl)) ?_))
    refine aa_if_neB iX12_canPut_15 (fun g1 => ?_) (fun g1 => ?_)
    · skip
      refine aa_go (aa_iconst iX12_canPut_46 ki_0) ?_
      refine aa_zretF iX12_canPut_47 rfl ?_
      exact ⟨by rw [g1]; rfl, rfl⟩
    · skip
      refine aa_go (aa_iload1 iX12_canPut_18) (aa_go (aa_bipush iX12_canPut_19 kb_14) (aa_go (aa_iload3 iX12_canPut_21) (aa_go (aa_iaddN iX12_canPut_22 ) (aa_go (aa_cSi iX12_canPut_23 (m_has (by omega) (by omega)) (by decide) lc_X12_has lk_X12_95 rfl (Nat.le_of_ble_eq_true rfl)) ?_))))
      refine aa_if_neB iX12_canPut_26 (fun g2 => ?_) (fun g2 => ?_)
      · skip
        refine aa_go (aa_iconst iX12_canPut_46 ki_0) ?_
        refine aa_zretF iX12_canPut_47 rfl ?_
        exact ⟨by rw [g1, g2]; rfl, rfl⟩
      · skip
        refine aa_go (aa_aload0 iX12_canPut_29) (aa_go (aa_getR iX12_canPut_30 fl_X12_47 (sh_63 hW) rfl) (aa_go (aa_iload2 iX12_canPut_33) (aa_go (aa_ialE iX12_canPut_34 (sh_67 hW) (by omega) (by omega) ((a3 i hi).2.2.1)) (aa_go (aa_iload1 iX12_canPut_35) (aa_go (aa_iconst iX12_canPut_36 ki_m1) (aa_go (aa_ixor iX12_canPut_37) (aa_go (aa_iandC iX12_canPut_38) ?_)))))))
        refine aa_if_neN iX12_canPut_39 (by omega) (fun g3 => ?_) (fun g3 => ?_)
        · skip
          refine aa_go (aa_iconst iX12_canPut_46 ki_0) ?_
          refine aa_zretF iX12_canPut_47 rfl ?_
          exact ⟨by rw [g1, g2, decide_eq_false g3]; rfl, rfl⟩
        · skip
          refine aa_go (aa_iconst iX12_canPut_42 ki_1) (aa_go (aa_goto iX12_canPut_43) ?_)
          refine aa_zretT iX12_canPut_47 rfl ?_
          exact ⟨by rw [g1, g2, decide_eq_true g3]; rfl, rfl⟩
theorem cp_lg (ok : pl_ok P) {h t i : Nat} (hi : i < pl_n P) : cpB P t i = (match pl_sp P (14 + i) with
    | some j => pl_lg P h (dv P t) j
    | none => false) := by
  rw [sp_hi ok, cpB]
  cases q : bkO P i with
  | none => rfl
  | some k =>
    obtain ⟨kb, kk⟩ := bkO_some q
    show _ = pl_lg P h (dv P t) (pl_n P + k)
    have ul := (ok.2.2.1 i hi).2.2.2
    have e : (bd (pl_u P i) t = 0) = (bd (pl_u P i) (dv P t) = 0) := by
      have : bd (pl_u P i) t = bd (pl_u P i) (dv P t) := by
        apply bb_ext
        intro x
        rw [bd_bit, bd_bit]
        by_cases c : x < i
        · rw [dv_lo (show x < pl_n P by omega)]
        · rw [bb_hi ul (by omega)]; rfl
      rw [this]
    rw [pl_lg, if_neg (by omega), Nat.add_sub_cancel_left, kk, dv_lo hi, dv_hi kb, decide_eq_true (show pl_n P + k < pl_n P + pl_b P by omega)]
    simp only [e, Bool.true_and]
theorem m_can (hW : aa_W r dy σ) (hM : MP P σ.1) {t h m : Nat} (ht : t < 65536) (hh : h ≤ 3) (hm : m < 64) : aa_SX mX12_can 3 [.ref 63, .int (nI t), .int (nI h), .int (nI m)] σ (some (.int (nI (cnM P h t m).toNat))) σ := by
  obtain ⟨ok, a1, a2, a3, a4⟩ := id hM
  have h1 := ok.1
  have key : aa_V mX12_can 3 0 [some (.ref 63), some (.int (nI t)), some (.int (nI h)), some (.int (nI m)), none] [] σ (fun ra σ' => ra = some (.int (nI (cnM P h t m).toNat)) ∧ σ' = σ) := by
    refine aa_go (aa_iload3 iX12_can_0) (aa_go (aa_i2lN iX12_can_1 (by omega)) (aa_go (aa_lconst iX12_can_2 kl_0) (aa_go (aa_ldc2 iX12_can_3 ld_X12_132) (aa_go (aa_cSi iX12_can_6 (m_inN (by omega) (by omega)) (by decide) lc_X12_in lk_X12_21 rfl (Nat.le_of_ble_eq_true rfl)) ?_))))
    refine aa_if_neB iX12_can_9 (fun g1 => ?_) (fun g1 => ?_)
    · skip
      have m28 : m < 28 := by have := of_decide_eq_true g1; omega
      refine aa_go (aa_iload3 iX12_can_14) (aa_go (aa_bipush iX12_can_15 kb_14) (aa_go (aa_iremN iX12_can_17 (by omega) (by omega) (by omega)) (aa_go (aa_istore4 iX12_can_18 rfl (by decide)) (aa_go (aa_iload4 iX12_can_20) (aa_go (aa_aload0 iX12_can_22) (aa_go (aa_getE iX12_can_23 fl_X12_78 (sh_63 hW) rfl a1) ?_))))))
      refine aa_ic_ltN iX12_can_26 (by omega) (by omega) (fun g2 => ?_) (fun g2 => ?_)
      · skip
        refine aa_go (aa_iload3 iX12_can_31) (aa_go (aa_bipush iX12_can_32 kb_14) ?_)
        refine aa_ic_geN iX12_can_34 (by omega) (by omega) (fun g3 => ?_) (fun g3 => ?_)
        · skip
          obtain ⟨i, rfl⟩ : ∃ i, m = 14 + i := ⟨m - 14, by omega⟩
          have em : (14 + i) % 14 = i := by omega
          rw [em] at g2 ⊢
          have e0 : cnM P h t (14 + i) = cpB P t i := by rw [cnM, decide_eq_true m28, cp_lg (h := h) ok g2]; rfl
          rw [e0]
          refine aa_go (aa_aload0 iX12_can_73) (aa_go (aa_iload1 iX12_can_74) (aa_go (aa_iload4 iX12_can_75) (aa_go (aa_cVi iX12_can_77 (m_canPut hW hM ht g2) (by decide) lc_X12_canPut lk_X12_134 (sh_63 hW) rfl rfl (Nat.le_of_ble_eq_true rfl)) ?_)))
          refine aa_zretB iX12_can_80 rfl ?_
          exact ⟨rfl, rfl⟩
        · skip
          have em : m % 14 = m := by omega
          rw [em] at g2 ⊢
          have e0 : cnM P h t m = (t.testBit m && (h == 3 || (pl_h P m).testBit h)) := by
            rw [cnM, decide_eq_true m28, sp_lo g2]
            show pl_lg P h (dv P t) m = _
            rw [pl_lg, if_pos g2, dv_lo g2]
          have hl := (ok.2.2.1 m g2).2.2.1
          rw [e0]
          refine aa_go (aa_iload1 iX12_can_37) (aa_go (aa_iload4 iX12_can_38) (aa_go (aa_cSi iX12_can_40 (m_has (by omega) (by omega)) (by decide) lc_X12_has lk_X12_95 rfl (Nat.le_of_ble_eq_true rfl)) ?_))
          refine aa_if_eqB iX12_can_43 (fun g4 => ?_) (fun g4 => ?_)
          · skip
            refine aa_go (aa_iconst iX12_can_69 ki_0) (aa_go (aa_goto iX12_can_70) ?_)
            refine aa_zretF iX12_can_80 rfl ?_
            exact ⟨by rw [g4]; rfl, rfl⟩
          · skip
            refine aa_go (aa_iload2 iX12_can_46) (aa_go (aa_iconst iX12_can_47 ki_3) ?_)
            refine aa_ic_eqN iX12_can_48 (by omega) (by omega) (fun g5 => ?_) (fun g5 => ?_)
            · skip
              refine aa_go (aa_iconst iX12_can_65 ki_1) (aa_go (aa_goto iX12_can_66) ?_)
              refine aa_zretT iX12_can_80 rfl ?_
              exact ⟨by rw [g4, g5]; rfl, rfl⟩
            · skip
              refine aa_go (aa_aload0 iX12_can_51) (aa_go (aa_getR iX12_can_52 fl_X12_57 (sh_63 hW) rfl) (aa_go (aa_iload4 iX12_can_55) (aa_go (aa_ialE iX12_can_57 (sh_66 hW) (by omega) (by omega) ((a3 m g2).2.1)) (aa_go (aa_iload2 iX12_can_58) (aa_go (aa_cSi iX12_can_59 (m_has (by omega) (by omega)) (by decide) lc_X12_has lk_X12_95 rfl (Nat.le_of_ble_eq_true rfl)) ?_)))))
              refine aa_if_eqB iX12_can_62 (fun g6 => ?_) (fun g6 => ?_)
              · skip
                refine aa_go (aa_iconst iX12_can_69 ki_0) (aa_go (aa_goto iX12_can_70) ?_)
                refine aa_zretF iX12_can_80 rfl ?_
                exact ⟨by rw [g4, g6, beq_eq_false_iff_ne.mpr g5]; rfl, rfl⟩
              · skip
                refine aa_go (aa_iconst iX12_can_65 ki_1) (aa_go (aa_goto iX12_can_66) ?_)
                refine aa_zretT iX12_can_80 rfl ?_
                exact ⟨by rw [g4, g6]; simp, rfl⟩
      · skip
        have e0 : cnM P h t m = false := by
          rw [cnM]
          by_cases c14 : m < 14
          · rw [sp_mid ok (by omega) c14]; simp
          · obtain ⟨i, rfl⟩ : ∃ i, m = 14 + i := ⟨m - 14, by omega⟩
            rw [sp_hi ok]
            have : bkO P i = none := by
              rw [bkO, List.find?_eq_none]
              intro x hx
              have := ok.2.2.2.2.1 x (List.mem_range.mp hx)
              simp; omega
            rw [this]; simp
        rw [e0]
        refine aa_go (aa_iconst iX12_can_29 ki_0) ?_
        refine aa_zretF iX12_can_30 rfl ?_
        exact ⟨rfl, rfl⟩
    · skip
      have : ¬ m < 28 := fun c => by rw [decide_eq_true (by omega : m ≤ 27)] at g1; exact absurd g1 (by decide)
      refine aa_go (aa_iconst iX12_can_12 ki_0) ?_
      refine aa_zretF iX12_can_13 rfl ?_
      exact ⟨by rw [cnM, decide_eq_false this]; rfl, rfl⟩
  obtain ⟨ra, σ', ⟨rfl, rfl⟩, hS9⟩ := aa_S_of (avs := [.ref 63, .int (nI t), .int (nI h), .int (nI m)]) (by decide) 1 [some (.ref 63), some (.int (nI t)), some (.int (nI h)), some (.int (nI m)), none] rfl rfl key
  exact hS9
theorem m_after (hW : aa_W r dy σ) (hM : MP P σ.1) {t m j : Nat} (hm : m < 28) (hj : pl_sp P m = some j) : aa_SX mX12_after 2 [.ref 63, .int (nI t), .int (nI m)] σ (some (.int (nI (af P t m)))) σ := by
  obtain ⟨ok, a1, a2, a3, a4⟩ := id hM
  have h1 := ok.1
  by_cases c14 : m < 14
  · have mn : m < pl_n P := by
      apply Classical.byContradiction
      intro c
      rw [sp_mid ok c c14] at hj; simp at hj
    have em : m % 14 = m := by omega
    rw [af_lo c14]
    refine aa_E_of (by decide) 1 [some (.ref 63), some (.int (nI t)), some (.int (nI m)), none] rfl rfl ?_
    refine aa_go (aa_iload2 iX12_after_0) (aa_go (aa_bipush iX12_after_1 kb_14) ?_)
    refine aa_go (aa_iremN iX12_after_3 (by omega) (by omega) (by omega)) ?_
    refine aa_go (aa_top (y := nI m) (by rw [em])) ?_
    refine aa_go (aa_istore3 iX12_after_4 rfl (by decide)) (aa_go (aa_iload2 iX12_after_5) (aa_go (aa_bipush iX12_after_6 kb_14) ?_))
    refine aa_ic_geN iX12_after_8 (by omega) (by omega) (fun g1 => ?_) (fun g1 => ?_)
    · skip
      omega
    · skip
      refine aa_go (aa_iload1 iX12_after_11) (aa_go (aa_iconst iX12_after_12 ki_1) (aa_go (aa_iload3 iX12_after_13) (aa_go (aa_ishlN iX12_after_14 (by omega)) (aa_go (aa_aload0 iX12_after_15) (aa_go (aa_getR iX12_after_16 fl_X12_92 (sh_63 hW) rfl) (aa_go (aa_iload3 iX12_after_19) (aa_go (aa_ialE iX12_after_20 (sh_68 hW) (by omega) (by omega) ((a3 m mn).2.2.2)) ?_)))))))
      refine aa_go (aa_iorN iX12_after_21 ) ?_
      refine aa_go (aa_top (y := nI (pl_cl P m)) (by rw [Nat.one_shiftLeft, Nat.or_comm]; rfl)) ?_
      refine aa_go (aa_iconst iX12_after_22 ki_m1) (aa_go (aa_ixor iX12_after_23) (aa_go (aa_iandC iX12_after_24) (aa_go (aa_goto iX12_after_25) ?_)))
      refine aa_iret iX12_after_44 rfl ?_
      exact ⟨rfl, rfl⟩
  · obtain ⟨i, rfl⟩ : ∃ i, m = 14 + i := ⟨m - 14, by omega⟩
    have em : (14 + i) % 14 = i := by omega
    rw [sp_hi ok] at hj
    cases q : bkO P i with
    | none => rw [q] at hj; simp at hj
    | some k =>
      have kb := (bkO_some q).1
      have h2 := ok.2.1
      have hS1 := m_backOf hW hM (i := i) (by omega)
      rw [q] at hS1
      have hS2 : aa_SX mX12_backOf 1 [.ref 63, .int (nI i)] σ (some (.int (nI k))) σ := hS1
      rw [af_hi, q]
      refine aa_E_of (by decide) 1 [some (.ref 63), some (.int (nI t)), some (.int (nI (14 + i))), none] rfl rfl ?_
      refine aa_go (aa_iload2 iX12_after_0) (aa_go (aa_bipush iX12_after_1 kb_14) (aa_go (aa_iremN iX12_after_3 (by omega) (by omega) (by omega)) ?_))
      refine aa_go (aa_top (y := nI i) (by rw [em])) ?_
      refine aa_go (aa_istore3 iX12_after_4 rfl (by decide)) (aa_go (aa_iload2 iX12_after_5) (aa_go (aa_bipush iX12_after_6 kb_14) ?_))
      refine aa_ic_geN iX12_after_8 (by omega) (by omega) (fun g1 => ?_) (fun g1 => ?_)
      · skip
        refine aa_go (aa_iload1 iX12_after_28) (aa_go (aa_iconst iX12_after_29 ki_1) (aa_go (aa_iload3 iX12_after_30) (aa_go (aa_ishlN iX12_after_31 (by omega)) (aa_go (aa_iorN iX12_after_32 ) (aa_go (aa_iconst iX12_after_33 ki_1) (aa_go (aa_bipush iX12_after_34 kb_14) (aa_go (aa_aload0 iX12_after_36) ?_)))))))
        refine aa_go (aa_iload3 iX12_after_37) (aa_go (aa_cVi iX12_after_38 (hS2) (by decide) lc_X12_backOf lk_X12_117 (sh_63 hW) rfl rfl (Nat.le_of_ble_eq_true rfl)) (aa_go (aa_iaddN iX12_after_41 ) (aa_go (aa_ishlN iX12_after_42 (by omega)) (aa_go (aa_iorN iX12_after_43 ) ?_))))
        refine aa_go (aa_top (y := nI (t ||| 2 ^ i ||| 2 ^ (14 + k))) (by rw [Nat.one_shiftLeft, Nat.one_shiftLeft])) ?_
        refine aa_iret iX12_after_44 rfl ?_
        exact ⟨rfl, rfl⟩
      · skip
        omega
theorem wo_bd (ok : pl_ok P) {t m j : Nat} (hm : m < 28) (hj : pl_sp P m = some j) : (if m < 14 then pl_sm P (bd t (af P t m)) (pl_n P) else 0) = pl_wo P (bd (dv P t) (pl_nx P (dv P t) j)) := by
  rw [← dv_af ok hj]
  by_cases c : m < 14
  · rw [if_pos c, pl_wo]
    refine pl_sm_congr _ (fun i hi => ?_)
    rw [bd_bit, bd_bit, dv_lo hi, dv_lo hi]
  · rw [if_neg c]
    have e : bd (dv P t) (dv P (af P t m)) = 0 := by
      apply bb_ext
      intro i
      rw [bd_bit, dv_bit, dv_bit, Nat.zero_testBit, af, if_neg c]
      simp only [Nat.testBit_or]
      by_cases ci : i < pl_n P
      · simp only [ci, if_true]
        cases t.testBit i <;> simp
      · simp only [ci, if_false]
        cases t.testBit (14 + (i - pl_n P)) <;> simp
    rw [e, pl_wo, sm_0]
theorem m_worthOf (hW : aa_W r dy σ) (hM : MP P σ.1) {t m j : Nat} (ht : t < 65536) (hm : m < 28) (hj : pl_sp P m = some j) : aa_SX mX12_worthOf 3 [.ref 63, .int (nI t), .int (nI m)] σ (some (.int (nI (pl_wo P (bd (dv P t) (pl_nx P (dv P t) j)))))) σ := by
  obtain ⟨ok, a1, a2, a3, a4⟩ := id hM
  have h1 := ok.1
  rw [← wo_bd (t := t) ok hm hj]
  have al := af_lt ok ht hm
  have bl : bd t (af P t m) < 65536 := bb_bd ht
  have loop : ∀ f k, m < 14 → pl_n P - k < f → k ≤ pl_n P → aa_V mX12_worthOf 3 13 [some (.ref 63), some (.int (nI t)), some (.int (nI m)), some (.int (nI (pl_sm P (bd t (af P t m)) k))), some (.int (nI k))] [] σ (fun ra σ' => ra = some (.int (nI (if m < 14 then pl_sm P (bd t (af P t m)) (pl_n P) else 0))) ∧ σ' = σ) := by
    intro f
    induction f with
    | zero => intro k _ g1; omega
    | succ f ih =>
      intro k hm14 g1 g2
      refine aa_go (aa_iload4 iX12_worthOf_13) (aa_go (aa_aload0 iX12_worthOf_15) (aa_go (aa_getE iX12_worthOf_16 fl_X12_78 (sh_63 hW) rfl a1) ?_))
      refine aa_ic_geN iX12_worthOf_19 (by omega) (by omega) (fun g3 => ?_) (fun g3 => ?_)
      · skip
        have e : k = pl_n P := by omega
        subst e
        refine aa_go (aa_iload3 iX12_worthOf_60) ?_
        refine aa_iret iX12_worthOf_61 rfl ?_
        exact ⟨by rw [if_pos hm14], rfl⟩
      · skip
        have nxt := ih (k + 1) hm14 (by omega) (by omega)
        rw [pl_sm] at nxt
        refine aa_go (aa_iload3 iX12_worthOf_22) (aa_go (aa_iload1 iX12_worthOf_23) (aa_go (aa_aload0 iX12_worthOf_24) (aa_go (aa_iload1 iX12_worthOf_25) (aa_go (aa_iload2 iX12_worthOf_26) (aa_go (aa_cVi iX12_worthOf_27 (m_after hW hM hm hj) (by decide) lc_X12_after lk_X12_137 (sh_63 hW) rfl rfl (Nat.le_of_ble_eq_true rfl)) (aa_go (aa_iconst iX12_worthOf_30 ki_m1) (aa_go (aa_ixor iX12_worthOf_31) ?_)))))))
        refine aa_go (aa_iandC iX12_worthOf_32) (aa_go (aa_iload4 iX12_worthOf_33) (aa_go (aa_cSi iX12_worthOf_35 (m_has (by omega) (by omega)) (by decide) lc_X12_has lk_X12_95 rfl (Nat.le_of_ble_eq_true rfl)) ?_))
        refine aa_if_eqB iX12_worthOf_38 (fun g4 => ?_) (fun g4 => ?_)
        · skip
          rw [g4] at nxt
          refine aa_go (aa_iconst iX12_worthOf_51 ki_0) (aa_go (aa_iaddN iX12_worthOf_52 ) (aa_go (aa_istore3 iX12_worthOf_53 rfl (by decide)) (aa_go (aa_iincN4 (k := 1) iX12_worthOf_54 rfl (by decide)) (aa_go (aa_goto iX12_worthOf_57) ?_))))
          exact nxt
        · skip
          rw [g4] at nxt
          refine aa_go (aa_aload0 iX12_worthOf_41) (aa_go (aa_getR iX12_worthOf_42 fl_X12_54 (sh_63 hW) rfl) (aa_go (aa_iload4 iX12_worthOf_45) (aa_go (aa_ialE iX12_worthOf_47 (sh_65 hW) (by omega) (by omega) ((a3 k g3).1)) (aa_go (aa_goto iX12_worthOf_48) (aa_go (aa_iaddN iX12_worthOf_52 ) (aa_go (aa_istore3 iX12_worthOf_53 rfl (by decide)) (aa_go (aa_iincN4 (k := 1) iX12_worthOf_54 rfl (by decide)) ?_)))))))
          refine aa_go (aa_goto iX12_worthOf_57) ?_
          exact nxt
  have key : aa_V mX12_worthOf 3 0 [some (.ref 63), some (.int (nI t)), some (.int (nI m)), none, none] [] σ (fun ra σ' => ra = some (.int (nI (if m < 14 then pl_sm P (bd t (af P t m)) (pl_n P) else 0))) ∧ σ' = σ) := by
    refine aa_go (aa_iload2 iX12_worthOf_0) (aa_go (aa_bipush iX12_worthOf_1 kb_14) ?_)
    refine aa_ic_ltN iX12_worthOf_3 (by omega) (by omega) (fun g1 => ?_) (fun g1 => ?_)
    · skip
      refine aa_go (aa_iconst iX12_worthOf_8 ki_0) (aa_go (aa_istore3 iX12_worthOf_9 rfl (by decide)) (aa_go (aa_iconst iX12_worthOf_10 ki_0) (aa_go (aa_istore4 iX12_worthOf_11 rfl (by decide)) ?_)))
      exact loop (pl_n P + 1) 0 g1 (by omega) (by omega)
    · skip
      refine aa_go (aa_iconst iX12_worthOf_6 ki_0) ?_
      refine aa_iret iX12_worthOf_7 rfl ?_
      exact ⟨by rw [if_neg (by omega)], rfl⟩
  obtain ⟨ra, σ', ⟨rfl, rfl⟩, hS9⟩ := aa_S_of (avs := [.ref 63, .int (nI t), .int (nI m)]) (by decide) 2 [some (.ref 63), some (.int (nI t)), some (.int (nI m)), none, none] rfl rfl key
  exact hS9
end
