/-! THE TEXT: the walks -/
def TX (ah : Nat) (m : tm_T) (i : Nat → Nat → Int32) : Prop := i 1 6 = nI m.2.1 ∧ i 1 7 = nI ah ∧ i 1 8 = nI m.2.2.2.1 ∧ i 1 9 = nI m.1 ∧ (m.1 = 5 → i 1 10 = nI m.2.2.2.2.1) ∧ (1 ≤ m.2.1 → i 1 11 = dI m.2.2.2.2.2) ∧
  ∀ k, k < m.2.1 → i 3 k = nI (m.2.2.1 k).1 ∧ (k + 1 < m.2.1 ∨ (m.1 ≠ 1 ∧ m.1 ≠ 2) → i 4 k = nI (m.2.2.1 k).2.1) ∧ i 5 k = nI (m.2.2.1 k).2.2.1 ∧ i 6 k = nI (m.2.2.1 k).2.2.2.toNat
def FT (σ σ' : aa_St) : Prop := FrA [1, 3, 4, 5, 6] σ σ' ∧ σ'.1 1 1 = σ.1 1 1
theorem FT.rf {σ : aa_St} : FT σ σ := ⟨FrA.rf, rfl⟩
theorem FT.tr {σ σ1 σ2 : aa_St} (h : FT σ σ1) (g : FT σ1 σ2) : FT σ σ2 := ⟨h.1.tr g.1, g.2.trans h.2⟩
theorem FT.s1 {σ σ1 : aa_St} (h : FT σ σ1) {k : Nat} (hk : k ≠ 1) (x : Int32) : FT σ (aa_sI σ1 1 k x) := ⟨h.1.s (by decide) k x, by rw [sI_nk (Ne.symm hk)]; exact h.2⟩
theorem FT.s {σ σ1 : aa_St} (h : FT σ σ1) {c : Nat} (hc : c ∈ [3, 4, 5, 6]) (k : Nat) (x : Int32) : FT σ (aa_sI σ1 c k x) := ⟨h.1.s (List.mem_cons_of_mem _ hc) k x, by rw [sI_ne (by rintro rfl; revert hc; decide)]; exact h.2⟩
theorem dI_le {n a : Nat} (hn : n < 2147483648) (ha : a ≤ 2147483648) : nI n ≤ dI a ↔ n < a := by
  cases a with
  | zero =>
    show nI n ≤ -1 ↔ n < 0
    constructor
    · intro h
      have h0 := nI_ge0 hn
      rw [Int32.le_iff_toInt_le] at h h0
      have e1 : (-1 : Int32).toInt = -1 := by decide
      have e2 : (0 : Int32).toInt = 0 := by decide
      omega
    · intro h; omega
  | succ a => rw [show dI (a + 1) = nI a from rfl, nI_lei hn (by omega)]; omega
section
variable {r : Nat → Nat} {dy : List aa_Shp} {σ : aa_St} {P : pl_T} {hs : List Nat} {m : tm_T} {ah c : Nat}
theorem c_X7_isDigit (hc : c < 2147483648) : aa_SX mX7_isDigit 1 [.int (nI c)] σ (some (.int (nI (isD c).toNat))) σ := by
  refine aa_E_of (by decide) 0 [some (.int (nI c))] rfl rfl ?_
  refine aa_go (aa_iload0 iX7_isDigit_0) (aa_go (aa_bipush iX7_isDigit_1 kb_48) ?_)
  refine aa_ic_ltN iX7_isDigit_3 (by omega) (by omega) (fun h1 => ?_) (fun h1 => ?_)
  · skip
    refine aa_go (aa_iconst iX7_isDigit_16 ki_0) ?_
    refine aa_zretF iX7_isDigit_17 rfl ?_
    exact ⟨by rw [isD, decide_eq_false (by omega)]; rfl, rfl⟩
  · skip
    refine aa_go (aa_iload0 iX7_isDigit_6) (aa_go (aa_bipush iX7_isDigit_7 kb_57) ?_)
    refine aa_ic_gtN iX7_isDigit_9 (by omega) (by omega) (fun h2 => ?_) (fun h2 => ?_)
    · skip
      refine aa_go (aa_iconst iX7_isDigit_16 ki_0) ?_
      refine aa_zretF iX7_isDigit_17 rfl ?_
      exact ⟨by rw [isD, decide_eq_false (by omega)]; rfl, rfl⟩
    · skip
      refine aa_go (aa_iconst iX7_isDigit_12 ki_1) (aa_go (aa_goto iX7_isDigit_13) ?_)
      refine aa_zretT iX7_isDigit_17 rfl ?_
      exact ⟨by rw [isD, decide_eq_true (by omega)]; rfl, rfl⟩
theorem c_X7_mayEnd (hW : aa_W r dy σ) {q : Nat} (hq : σ.1 1 9 = nI q) (h7 : q ≤ 7) : aa_SX mX7_mayEnd 1 [.ref 1] σ (some (.int (nI (mayE q).toNat))) σ := by
  refine aa_E_of (by decide) 0 [some (.ref 1)] rfl rfl ?_
  refine aa_go (aa_aload0 iX7_mayEnd_0) (aa_go (aa_getE iX7_mayEnd_1 fl_X7_41 (sh_1 hW) rfl hq) (aa_go (aa_iconst iX7_mayEnd_4 ki_3) ?_))
  refine aa_ic_eqN iX7_mayEnd_5 (by omega) (by omega) (fun h1 => ?_) (fun h1 => ?_)
  · skip
    refine aa_go (aa_iconst iX7_mayEnd_26 ki_1) (aa_go (aa_goto iX7_mayEnd_27) ?_)
    refine aa_zretT iX7_mayEnd_31 rfl ?_
    exact ⟨by rw [h1]; rfl, rfl⟩
  · skip
    refine aa_go (aa_aload0 iX7_mayEnd_8) (aa_go (aa_getE iX7_mayEnd_9 fl_X7_41 (sh_1 hW) rfl hq) (aa_go (aa_bipush iX7_mayEnd_12 kb_6) ?_))
    refine aa_ic_eqN iX7_mayEnd_14 (by omega) (by omega) (fun h2 => ?_) (fun h2 => ?_)
    · skip
      refine aa_go (aa_iconst iX7_mayEnd_26 ki_1) (aa_go (aa_goto iX7_mayEnd_27) ?_)
      refine aa_zretT iX7_mayEnd_31 rfl ?_
      exact ⟨by rw [h2]; rfl, rfl⟩
    · skip
      refine aa_go (aa_aload0 iX7_mayEnd_17) (aa_go (aa_getE iX7_mayEnd_18 fl_X7_41 (sh_1 hW) rfl hq) (aa_go (aa_bipush iX7_mayEnd_21 kb_7) ?_))
      refine aa_ic_neN iX7_mayEnd_23 (by omega) (by omega) (fun h3 => ?_) (fun h3 => ?_)
      · skip
        refine aa_go (aa_iconst iX7_mayEnd_30 ki_0) ?_
        refine aa_zretF iX7_mayEnd_31 rfl ?_
        exact ⟨by rw [show mayE q = false by simp [mayE, h1, h2, h3]]; rfl, rfl⟩
      · skip
        refine aa_go (aa_iconst iX7_mayEnd_26 ki_1) (aa_go (aa_goto iX7_mayEnd_27) ?_)
        refine aa_zretT iX7_mayEnd_31 rfl ?_
        exact ⟨by rw [h3]; rfl, rfl⟩
/-- what the reading of one sign gives -/
def TR (ah : Nat) (o : Option tm_T) (σ σ' : aa_St) : Prop := FT σ σ' ∧ ∀ m', o = some m' → TX ah m' σ'.1
theorem TX.next {q : Nat} (h : TX ah m σ.1) (hq : q ≠ 5) (h12 : (q = 1 ∨ q = 2) ∨ (m.1 ≠ 1 ∧ m.1 ≠ 2)) : TX ah (q, m.2) (aa_sI σ 1 9 (nI q)).1 := by
  obtain ⟨a1, a2, a3, a4, a5, a6, a7⟩ := h
  refine ⟨by rw [sI_nk (by decide)]; exact a1, by rw [sI_nk (by decide)]; exact a2, by rw [sI_nk (by decide)]; exact a3, sI_eq, fun e => absurd e hq, fun e => by rw [sI_nk (by decide)]; exact a6 e, fun k hk => ?_⟩
  rw [sI_ne (by decide), sI_ne (by decide), sI_ne (by decide), sI_ne (by decide)]
  have := a7 k hk
  refine ⟨this.1, fun e => this.2.1 ?_, this.2.2⟩
  dsimp only at e
  omega
theorem c_X7_takesLineEnd (hW : aa_W r dy σ) (hT : TX ah m σ.1) (h3 : 3 ≤ m.1) (hc : c < 256) : ∃ σ' : aa_St, TR ah (tmE c m) σ σ' ∧ aa_SX mX7_takesLineEnd 1 [.ref 1, .int (nI c)] σ (some (.int (nI (tmE c m).isSome.toNat))) σ' := by
  refine ⟨aa_sI σ 1 9 (nI 0), ⟨FT.rf.s1 (by decide) _, fun m' e => ?_⟩, ?_⟩
  · rw [tmE] at e
    split at e
    · cases e
      exact hT.next (by decide) (Or.inr ⟨by omega, by omega⟩)
    · simp at e
  refine aa_E_of (by decide) 0 [some (.ref 1), some (.int (nI c))] rfl rfl ?_
  refine aa_go (aa_aload0 iX7_takesLineEnd_0) (aa_go (aa_iconst iX7_takesLineEnd_1 ki_0) (aa_go (aa_putI iX7_takesLineEnd_2 fl_X7_41 (fun h => nomatch h) (sh_1 hW) rfl ⟨rfl, rfl⟩) (aa_go (aa_iload1 iX7_takesLineEnd_5) (aa_go (aa_bipush iX7_takesLineEnd_6 kb_59) ?_))))
  refine aa_ic_neN iX7_takesLineEnd_8 (by omega) (by omega) (fun h1 => ?_) (fun h1 => ?_)
  · skip
    refine aa_go (aa_iconst iX7_takesLineEnd_15 ki_0) ?_
    refine aa_zretF iX7_takesLineEnd_16 rfl ?_
    exact ⟨by rw [tmE, if_neg h1]; rfl, rfl⟩
  · skip
    refine aa_go (aa_iconst iX7_takesLineEnd_11 ki_1) (aa_go (aa_goto iX7_takesLineEnd_12) ?_)
    refine aa_zretT iX7_takesLineEnd_16 rfl ?_
    exact ⟨by rw [tmE, if_pos h1]; rfl, rfl⟩
theorem c_X7_takesTail (hW : aa_W r dy σ) (hT : TX ah m σ.1) (hTW : TW P m) (h3 : 3 ≤ m.1) (h6 : m.1 ≤ 6) (hc : c < 256) : ∃ σ' : aa_St, TR ah (tmB c m) σ σ' ∧ aa_SX mX7_takesTail 2 [.ref 1, .int (nI c)] σ (some (.int (nI (tmB c m).isSome.toNat))) σ' := by
  obtain ⟨a1, a2, a3, a4, a5, a6, a7⟩ := id hT
  obtain ⟨w1, w2, w3, w4, w5, w6, w7, w8, w9⟩ := id hTW
  have l1 := w2 (by omega)
  obtain ⟨σ0, hR0, hS0⟩ := c_X7_takesLineEnd hW hT h3 hc
  by_cases hc1 : c = 114
  · by_cases hb : m.2.2.2.1 < 2
    · have eo : tmB c m = some (7, m.2.1, dup m.2.2.1 (m.2.1 - 1) ((m.2.2.1 (m.2.1 - 1)).1, (m.2.2.1 (m.2.1 - 1)).2.1, (m.2.2.1 (m.2.1 - 1)).2.2.1, true), m.2.2.2.1 + 1, m.2.2.2.2) := by rw [tmB, if_pos hc1, if_pos hb]
      refine ⟨aa_sI (aa_sI (aa_sI σ 6 (m.2.1 - 1) (nI 1)) 1 8 (nI (m.2.2.2.1 + 1))) 1 9 (nI 7), ⟨((FT.rf.s (by decide) _ _).s1 (by decide) _).s1 (by decide) _, fun m' e => ?_⟩, ?_⟩
      · rw [eo] at e
        cases e
        refine ⟨?_, ?_, ?_, sI_eq, fun e => by simp at e, fun e => ?_, fun k hk => ?_⟩
        · rw [sI_nk (by decide), sI_nk (by decide), sI_ne (by decide)]; exact a1
        · rw [sI_nk (by decide), sI_nk (by decide), sI_ne (by decide)]; exact a2
        · rw [sI_nk (by decide), sI_eq]
        · rw [sI_nk (by decide), sI_nk (by decide), sI_ne (by decide)]; exact a6 e
        · have a7 := a7 k hk
          rw [sI_ne (by decide), sI_ne (by decide), sI_ne (by decide), sI_ne (by decide), sI_ne (by decide), sI_ne (by decide), sI_ne (by decide), sI_ne (by decide), sI_ne (by decide), sI_ne (by decide), sI_ne (by decide), sI_at]
          dsimp only
          by_cases ck : k = m.2.1 - 1
          · rw [if_pos ck, ck, dup_eq]
            rw [ck] at a7
            exact ⟨a7.1, fun _ => a7.2.1 (Or.inr ⟨by omega, by omega⟩), a7.2.2.1, rfl⟩
          · rw [if_neg ck, dup_ne ck]
            exact ⟨a7.1, fun _ => a7.2.1 (Or.inr ⟨by omega, by omega⟩), a7.2.2.1, a7.2.2.2⟩
      · rw [eo]
        have b8 : (aa_sI σ 6 (m.2.1 - 1) (nI 1)).1 1 8 = nI m.2.2.2.1 := by rw [sI_ne (by decide)]; exact a3
        refine aa_E_of (by decide) 0 [some (.ref 1), some (.int (nI c))] rfl rfl ?_
        refine aa_go (aa_iload1 iX7_takesTail_0) (aa_go (aa_bipush iX7_takesTail_1 kb_114) ?_)
        refine aa_ic_eqN iX7_takesTail_3 (by omega) (by omega) (fun h1 => ?_) (fun h1 => ?_)
        · skip
          refine aa_go (aa_aload0 iX7_takesTail_12) (aa_go (aa_getE iX7_takesTail_13 fl_X7_32 (sh_1 hW) rfl a1) (aa_go (aa_iconst iX7_takesTail_16 ki_1) ?_))
          refine aa_ic_ltN iX7_takesTail_17 (by omega) (by omega) (fun h2 => ?_) (fun h2 => ?_)
          · skip
            omega
          · skip
            refine aa_go (aa_aload0 iX7_takesTail_20) (aa_go (aa_getE iX7_takesTail_21 fl_X7_38 (sh_1 hW) rfl a3) (aa_go (aa_iconst iX7_takesTail_24 ki_2) ?_))
            refine aa_ic_ltN iX7_takesTail_25 (by omega) (by omega) (fun h3 => ?_) (fun h3 => ?_)
            · skip
              refine aa_go (aa_aload0 iX7_takesTail_30) (aa_go (aa_getR iX7_takesTail_31 fl_X7_28 (sh_1 hW) rfl) (aa_go (aa_aload0 iX7_takesTail_34) (aa_go (aa_getE iX7_takesTail_35 fl_X7_32 (sh_1 hW) rfl a1) (aa_go (aa_iconst iX7_takesTail_38 ki_1) (aa_go (aa_isubN iX7_takesTail_39 (by omega)) (aa_go (aa_iconst iX7_takesTail_40 ki_1) (aa_go (aa_zasN iX7_takesTail_41 (sh_6 hW) (by omega) (by omega) (aa_nz1)) ?_)))))))
              refine aa_go (aa_aload0 iX7_takesTail_42) (aa_go (aa_dup iX7_takesTail_43 rfl) (aa_go (aa_getE iX7_takesTail_44 fl_X7_38 (sh_1 hW) rfl b8) (aa_go (aa_iconst iX7_takesTail_47 ki_1) (aa_go (aa_iaddN iX7_takesTail_48 ) (aa_go (aa_putI iX7_takesTail_49 fl_X7_38 (fun h => nomatch h) (sh_1 hW) rfl ⟨rfl, rfl⟩) (aa_go (aa_aload0 iX7_takesTail_52) (aa_go (aa_bipush iX7_takesTail_53 kb_7) ?_)))))))
              refine aa_go (aa_putI iX7_takesTail_55 fl_X7_41 (fun h => nomatch h) (sh_1 hW) rfl ⟨rfl, rfl⟩) (aa_go (aa_iconst iX7_takesTail_58 ki_1) ?_)
              refine aa_zretT iX7_takesTail_59 rfl ?_
              exact ⟨rfl, rfl⟩
            · skip
              omega
        · skip
          exact absurd hc1 h1
    · have eo : tmB c m = none := by rw [tmB, if_pos hc1, if_neg hb]
      refine ⟨σ, ⟨FT.rf, fun m' e => by rw [eo] at e; simp at e⟩, ?_⟩
      rw [eo]
      refine aa_E_of (by decide) 0 [some (.ref 1), some (.int (nI c))] rfl rfl ?_
      refine aa_go (aa_iload1 iX7_takesTail_0) (aa_go (aa_bipush iX7_takesTail_1 kb_114) ?_)
      refine aa_ic_eqN iX7_takesTail_3 (by omega) (by omega) (fun h1 => ?_) (fun h1 => ?_)
      · skip
        refine aa_go (aa_aload0 iX7_takesTail_12) (aa_go (aa_getE iX7_takesTail_13 fl_X7_32 (sh_1 hW) rfl a1) (aa_go (aa_iconst iX7_takesTail_16 ki_1) ?_))
        refine aa_ic_ltN iX7_takesTail_17 (by omega) (by omega) (fun h2 => ?_) (fun h2 => ?_)
        · skip
          omega
        · skip
          refine aa_go (aa_aload0 iX7_takesTail_20) (aa_go (aa_getE iX7_takesTail_21 fl_X7_38 (sh_1 hW) rfl a3) (aa_go (aa_iconst iX7_takesTail_24 ki_2) ?_))
          refine aa_ic_ltN iX7_takesTail_25 (by omega) (by omega) (fun h3 => ?_) (fun h3 => ?_)
          · skip
            omega
          · skip
            refine aa_go (aa_iconst iX7_takesTail_28 ki_0) ?_
            refine aa_zretF iX7_takesTail_29 rfl ?_
            exact ⟨rfl, rfl⟩
      · skip
        exact absurd hc1 h1
  · have eo : tmB c m = tmE c m := by rw [tmB, if_neg hc1]
    refine ⟨σ0, by rw [eo]; exact hR0, ?_⟩
    rw [eo]
    refine aa_E_of (by decide) 0 [some (.ref 1), some (.int (nI c))] rfl rfl ?_
    refine aa_go (aa_iload1 iX7_takesTail_0) (aa_go (aa_bipush iX7_takesTail_1 kb_114) ?_)
    refine aa_ic_eqN iX7_takesTail_3 (by omega) (by omega) (fun h1 => ?_) (fun h1 => ?_)
    · skip
      exact absurd h1 hc1
    · skip
      refine aa_go (aa_aload0 iX7_takesTail_6) (aa_go (aa_iload1 iX7_takesTail_7) (aa_go (aa_cVi iX7_takesTail_8 (hS0) (by decide) lc_X7_takesLineEnd lk_X7_102 (sh_1 hW) rfl rfl (Nat.le_of_ble_eq_true rfl)) ?_))
      refine aa_zretB iX7_takesTail_11 rfl ?_
      exact ⟨rfl, rfl⟩
theorem c_X7_takesOnY (hW : aa_W r dy σ) {d : Nat} (hc : c < 256) (hd : d < 256) (e : c = d) : aa_SX mX7_takesOn 1 [.ref 1, .int (nI c), .int (nI d)] σ (some (.int (nI 1))) (aa_sI σ 1 9 (nI 4)) := by
  refine aa_E_of (by decide) 0 [some (.ref 1), some (.int (nI c)), some (.int (nI d))] rfl rfl ?_
  refine aa_go (aa_iload1 iX7_takesOn_0) (aa_go (aa_iload2 iX7_takesOn_1) ?_)
  refine aa_ic_eqN iX7_takesOn_2 (by omega) (by omega) (fun h1 => ?_) (fun h1 => ?_)
  · skip
    refine aa_go (aa_aload0 iX7_takesOn_7) (aa_go (aa_iconst iX7_takesOn_8 ki_4) (aa_go (aa_putI iX7_takesOn_9 fl_X7_41 (fun h => nomatch h) (sh_1 hW) rfl ⟨rfl, rfl⟩) (aa_go (aa_iconst iX7_takesOn_12 ki_1) ?_)))
    refine aa_zretT iX7_takesOn_13 rfl ?_
    exact ⟨rfl, rfl⟩
  · skip
    exact absurd e h1
theorem c_X7_takesOnN (hW : aa_W r dy σ) {d : Nat} (hc : c < 256) (hd : d < 256) (e : c ≠ d) : aa_SX mX7_takesOn 1 [.ref 1, .int (nI c), .int (nI d)] σ (some (.int (nI 0))) σ := by
  refine aa_E_of (by decide) 0 [some (.ref 1), some (.int (nI c)), some (.int (nI d))] rfl rfl ?_
  refine aa_go (aa_iload1 iX7_takesOn_0) (aa_go (aa_iload2 iX7_takesOn_1) ?_)
  refine aa_ic_eqN iX7_takesOn_2 (by omega) (by omega) (fun h1 => ?_) (fun h1 => ?_)
  · skip
    exact absurd h1 e
  · skip
    refine aa_go (aa_iconst iX7_takesOn_5 ki_0) ?_
    refine aa_zretF iX7_takesOn_6 rfl ?_
    exact ⟨rfl, rfl⟩
def TXs (ah : Nat) (m : tm_T) (i : Nat → Nat → Int32) : Prop := i 1 6 = nI m.2.1 ∧ i 1 7 = nI ah ∧ i 1 8 = nI m.2.2.2.1 ∧ (1 ≤ m.2.1 → i 1 11 = dI m.2.2.2.2.2) ∧
  ∀ k, k < m.2.1 → i 3 k = nI (m.2.2.1 k).1 ∧ (k + 1 < m.2.1 ∨ (m.1 ≠ 1 ∧ m.1 ≠ 2) → i 4 k = nI (m.2.2.1 k).2.1) ∧ i 5 k = nI (m.2.2.1 k).2.2.1 ∧ i 6 k = nI (m.2.2.1 k).2.2.2.toNat
theorem TX.to0 {i : Nat → Nat → Int32} (h : TX ah m i) : TXs ah m i := ⟨h.1, h.2.1, h.2.2.1, h.2.2.2.2.2.1, h.2.2.2.2.2.2⟩
theorem TXs.s10 (h : TXs ah m σ.1) (x : Int32) : TXs ah m (aa_sI σ 1 10 x).1 := by
  obtain ⟨a1, a2, a3, a6, a7⟩ := h
  refine ⟨by rw [sI_nk (by decide)]; exact a1, by rw [sI_nk (by decide)]; exact a2, by rw [sI_nk (by decide)]; exact a3, fun e => by rw [sI_nk (by decide)]; exact a6 e, fun k hk => ?_⟩
  rw [sI_ne (by decide), sI_ne (by decide), sI_ne (by decide), sI_ne (by decide)]
  exact a7 k hk
theorem c_X7_takesNumber (hW : aa_W r dy σ) (hT : TXs (pl_n P) m σ.1) (hTW : TW P m) (h4 : 3 ≤ m.1) (h6 : m.1 ≤ 6) {n : Nat} (hn : σ.1 1 10 = nI n) (hn99 : n < 100) : ∃ σ' : aa_St, TR (pl_n P) (tmN (pl_n P) n m) σ σ' ∧ aa_SX mX7_takesNumber 1 [.ref 1] σ (some (.int (nI (tmN (pl_n P) n m).isSome.toNat))) σ' := by
  obtain ⟨a1, a2, a3, a6, a7⟩ := id hT
  obtain ⟨w1, w2, w3, w4, w5, w6, w7, w8, w9⟩ := id hTW
  have l1 := w2 (by omega)
  have al := a6 l1
  have dl := dI_le (n := n) (a := m.2.2.2.2.2) (by omega) (by omega)
  by_cases hc : m.2.2.2.2.2 ≤ n ∧ n < pl_n P + m.2.1 - 1
  · have eo : tmN (pl_n P) n m = some (6, m.2.1, dup m.2.2.1 (m.2.1 - 1) ((m.2.2.1 (m.2.1 - 1)).1, (m.2.2.1 (m.2.1 - 1)).2.1, (m.2.2.1 (m.2.1 - 1)).2.2.1 ||| 2 ^ n, (m.2.2.1 (m.2.1 - 1)).2.2.2), m.2.2.2.1, n, n + 1) := by rw [tmN, if_pos hc]
    refine ⟨aa_sI (aa_sI (aa_sI σ 5 (m.2.1 - 1) (nI ((m.2.2.1 (m.2.1 - 1)).2.2.1 ||| 2 ^ n))) 1 11 (nI n)) 1 9 (nI 6), ⟨((FT.rf.s (by decide) _ _).s1 (by decide) _).s1 (by decide) _, fun m' e => ?_⟩, ?_⟩
    · rw [eo] at e
      cases e
      refine ⟨?_, ?_, ?_, sI_eq, fun e => by simp at e, fun _ => ?_, fun k hk => ?_⟩
      · rw [sI_nk (by decide), sI_nk (by decide), sI_ne (by decide)]; exact a1
      · rw [sI_nk (by decide), sI_nk (by decide), sI_ne (by decide)]; exact a2
      · rw [sI_nk (by decide), sI_nk (by decide), sI_ne (by decide)]; exact a3
      · rw [sI_nk (by decide), sI_eq]; rfl
      · have a7 := a7 k hk
        rw [sI_ne (by decide), sI_ne (by decide), sI_ne (by decide), sI_ne (by decide), sI_ne (by decide), sI_ne (by decide), sI_ne (by decide), sI_ne (by decide), sI_at, sI_ne (by decide), sI_ne (by decide), sI_ne (by decide)]
        dsimp only
        by_cases ck : k = m.2.1 - 1
        · rw [if_pos ck, ck, dup_eq]
          rw [ck] at a7
          exact ⟨a7.1, fun _ => a7.2.1 (Or.inr ⟨by omega, by omega⟩), rfl, a7.2.2.2⟩
        · rw [if_neg ck, dup_ne ck]
          exact ⟨a7.1, fun _ => a7.2.1 (Or.inr ⟨by omega, by omega⟩), a7.2.2.1, a7.2.2.2⟩
    · rw [eo]
      have b10 : (aa_sI σ 5 (m.2.1 - 1) (nI ((m.2.2.1 (m.2.1 - 1)).2.2.1 ||| 2 ^ n))).1 1 10 = nI n := by rw [sI_ne (by decide)]; exact hn
      have a75 := (a7 (m.2.1 - 1) (by omega)).2.2.1
      refine aa_E_of (by decide) 0 [some (.ref 1)] rfl rfl ?_
      refine aa_go (aa_aload0 iX7_takesNumber_0) (aa_go (aa_getE iX7_takesNumber_1 fl_X7_32 (sh_1 hW) rfl a1) (aa_go (aa_iconst iX7_takesNumber_4 ki_1) ?_))
      refine aa_ic_ltN iX7_takesNumber_5 (by omega) (by omega) (fun h1 => ?_) (fun h1 => ?_)
      · skip
        omega
      · skip
        refine aa_go (aa_aload0 iX7_takesNumber_8) (aa_go (aa_getE iX7_takesNumber_9 fl_X7_44 (sh_1 hW) rfl hn) (aa_go (aa_aload0 iX7_takesNumber_12) (aa_go (aa_getE iX7_takesNumber_13 fl_X7_47 (sh_1 hW) rfl al) ?_)))
        refine aa_ic_le iX7_takesNumber_16 (fun h2 => ?_) (fun h2 => ?_)
        · skip
          rw [dl] at h2; omega
        · skip
          refine aa_go (aa_aload0 iX7_takesNumber_19) (aa_go (aa_getE iX7_takesNumber_20 fl_X7_44 (sh_1 hW) rfl hn) (aa_go (aa_aload0 iX7_takesNumber_23) (aa_go (aa_getE iX7_takesNumber_24 fl_X7_35 (sh_1 hW) rfl a2) (aa_go (aa_aload0 iX7_takesNumber_27) (aa_go (aa_getE iX7_takesNumber_28 fl_X7_32 (sh_1 hW) rfl a1) (aa_go (aa_iaddN iX7_takesNumber_31 ) (aa_go (aa_iconst iX7_takesNumber_32 ki_1) ?_)))))))
          refine aa_go (aa_isubN iX7_takesNumber_33 (by omega)) ?_
          refine aa_ic_ltN iX7_takesNumber_34 (by omega) (by omega) (fun h3 => ?_) (fun h3 => ?_)
          · skip
            refine aa_go (aa_aload0 iX7_takesNumber_39) (aa_go (aa_getR iX7_takesNumber_40 fl_X7_25 (sh_1 hW) rfl) (aa_go (aa_aload0 iX7_takesNumber_43) (aa_go (aa_getE iX7_takesNumber_44 fl_X7_32 (sh_1 hW) rfl a1) (aa_go (aa_iconst iX7_takesNumber_47 ki_1) (aa_go (aa_isubN iX7_takesNumber_48 (by omega)) (aa_go (aa_dup2 iX7_takesNumber_49 rfl rfl) (aa_go (aa_ialE iX7_takesNumber_50 (sh_5 hW) (by omega) (by omega) (a75)) ?_)))))))
            refine aa_go (aa_iconst iX7_takesNumber_51 ki_1) (aa_go (aa_aload0 iX7_takesNumber_52) (aa_go (aa_getE iX7_takesNumber_53 fl_X7_44 (sh_1 hW) rfl hn) (aa_go (aa_ishlN iX7_takesNumber_56 (by omega)) (aa_go (aa_iorN iX7_takesNumber_57 ) ?_))))
            refine aa_go (aa_top (y := nI ((m.2.2.1 (m.2.1 - 1)).2.2.1 ||| 2 ^ n)) (by rw [Nat.one_shiftLeft])) ?_
            refine aa_go (aa_iasN iX7_takesNumber_58 (sh_5 hW) (by omega) (by omega)) ?_
            refine aa_go (aa_aload0 iX7_takesNumber_59) (aa_go (aa_aload0 iX7_takesNumber_60) (aa_go (aa_getE iX7_takesNumber_61 fl_X7_44 (sh_1 hW) rfl b10) (aa_go (aa_putI iX7_takesNumber_64 fl_X7_47 (fun h => nomatch h) (sh_1 hW) rfl ⟨rfl, rfl⟩) (aa_go (aa_aload0 iX7_takesNumber_67) (aa_go (aa_bipush iX7_takesNumber_68 kb_6) (aa_go (aa_putI iX7_takesNumber_70 fl_X7_41 (fun h => nomatch h) (sh_1 hW) rfl ⟨rfl, rfl⟩) (aa_go (aa_iconst iX7_takesNumber_73 ki_1) ?_)))))))
            refine aa_zretT iX7_takesNumber_74 rfl ?_
            exact ⟨rfl, rfl⟩
          · skip
            omega
  · have eo : tmN (pl_n P) n m = none := by rw [tmN, if_neg hc]
    refine ⟨σ, ⟨FT.rf, fun m' e => by rw [eo] at e; simp at e⟩, ?_⟩
    rw [eo]
    refine aa_E_of (by decide) 0 [some (.ref 1)] rfl rfl ?_
    refine aa_go (aa_aload0 iX7_takesNumber_0) (aa_go (aa_getE iX7_takesNumber_1 fl_X7_32 (sh_1 hW) rfl a1) (aa_go (aa_iconst iX7_takesNumber_4 ki_1) ?_))
    refine aa_ic_ltN iX7_takesNumber_5 (by omega) (by omega) (fun h1 => ?_) (fun h1 => ?_)
    · skip
      omega
    · skip
      refine aa_go (aa_aload0 iX7_takesNumber_8) (aa_go (aa_getE iX7_takesNumber_9 fl_X7_44 (sh_1 hW) rfl hn) (aa_go (aa_aload0 iX7_takesNumber_12) (aa_go (aa_getE iX7_takesNumber_13 fl_X7_47 (sh_1 hW) rfl al) ?_)))
      refine aa_ic_le iX7_takesNumber_16 (fun h2 => ?_) (fun h2 => ?_)
      · skip
        refine aa_go (aa_iconst iX7_takesNumber_37 ki_0) ?_
        refine aa_zretF iX7_takesNumber_38 rfl ?_
        exact ⟨rfl, rfl⟩
      · skip
        rw [dl] at h2
        refine aa_go (aa_aload0 iX7_takesNumber_19) (aa_go (aa_getE iX7_takesNumber_20 fl_X7_44 (sh_1 hW) rfl hn) (aa_go (aa_aload0 iX7_takesNumber_23) (aa_go (aa_getE iX7_takesNumber_24 fl_X7_35 (sh_1 hW) rfl a2) (aa_go (aa_aload0 iX7_takesNumber_27) (aa_go (aa_getE iX7_takesNumber_28 fl_X7_32 (sh_1 hW) rfl a1) (aa_go (aa_iaddN iX7_takesNumber_31 ) (aa_go (aa_iconst iX7_takesNumber_32 ki_1) ?_)))))))
        refine aa_go (aa_isubN iX7_takesNumber_33 (by omega)) ?_
        refine aa_ic_ltN iX7_takesNumber_34 (by omega) (by omega) (fun h3 => ?_) (fun h3 => ?_)
        · skip
          omega
        · skip
          refine aa_go (aa_iconst iX7_takesNumber_37 ki_0) ?_
          refine aa_zretF iX7_takesNumber_38 rfl ?_
          exact ⟨rfl, rfl⟩
theorem TX.s10 (h : TX ah m σ.1) (hq : m.1 ≠ 5) (x : Int32) : TX ah m (aa_sI σ 1 10 x).1 := by
  obtain ⟨a1, a2, a3, a4, a5, a6, a7⟩ := h
  refine ⟨by rw [sI_nk (by decide)]; exact a1, by rw [sI_nk (by decide)]; exact a2, by rw [sI_nk (by decide)]; exact a3, by rw [sI_nk (by decide)]; exact a4, fun e => absurd e hq, fun e => by rw [sI_nk (by decide)]; exact a6 e, fun k hk => ?_⟩
  rw [sI_ne (by decide), sI_ne (by decide), sI_ne (by decide), sI_ne (by decide)]
  exact a7 k hk
theorem c_X7_takesFirstDigit (hW : aa_W r dy σ) (hT : TX (pl_n P) m σ.1) (hTW : TW P m) (h4 : m.1 = 4) (hc : c < 256) (g : Bool) : ∃ σ' : aa_St, TR (pl_n P) (tmS (pl_n P) c g m) σ σ' ∧ aa_SX mX7_takesFirstDigit 2 [.ref 1, .int (nI c), .int (nI g.toNat)] σ (some (.int (nI (tmS (pl_n P) c g m).isSome.toNat))) σ' := by
  have e0 : tmS (pl_n P) c g m = if isD c = true then (if g = true then some (5, m.2.1, m.2.2.1, m.2.2.2.1, c - 48, m.2.2.2.2.2) else tmN (pl_n P) (c - 48) m) else none := by rw [tmS, h4]; rfl
  by_cases hd : isD c = true
  · have dc := isD_iff.mp hd
    have hT1 := hT.to0.s10 (nI (c - 48))
    have hW1 := hW.sI 1 10 (nI (c - 48))
    cases g with
    | true =>
      rw [if_pos hd, if_pos rfl] at e0
      rw [e0]
      refine ⟨aa_sI (aa_sI σ 1 10 (nI (c - 48))) 1 9 (nI 5), ⟨(FT.rf.s1 (by decide) _).s1 (by decide) _, fun m' e => ?_⟩, ?_⟩
      · cases e
        obtain ⟨a1, a2, a3, a4, a5, a6, a7⟩ := hT
        refine ⟨?_, ?_, ?_, sI_eq, fun _ => ?_, fun e => ?_, fun k hk => ?_⟩
        · rw [sI_nk (by decide), sI_nk (by decide)]; exact a1
        · rw [sI_nk (by decide), sI_nk (by decide)]; exact a2
        · rw [sI_nk (by decide), sI_nk (by decide)]; exact a3
        · rw [sI_nk (by decide), sI_eq]
        · rw [sI_nk (by decide), sI_nk (by decide)]; exact a6 e
        · rw [sI_ne (by decide), sI_ne (by decide), sI_ne (by decide), sI_ne (by decide), sI_ne (by decide), sI_ne (by decide), sI_ne (by decide), sI_ne (by decide)]
          have a7 := a7 k hk
          exact ⟨a7.1, fun _ => a7.2.1 (Or.inr ⟨by omega, by omega⟩), a7.2.2⟩
      · skip
        refine aa_E_of (by decide) 0 [some (.ref 1), some (.int (nI c)), some (.int (nI true.toNat))] rfl rfl ?_
        refine aa_go (aa_iload1 iX7_takesFirstDigit_0) (aa_go (aa_cSi iX7_takesFirstDigit_1 (c_X7_isDigit (by omega)) (by decide) lc_X7_isDigit lk_X7_64 rfl (Nat.le_of_ble_eq_true rfl)) ?_)
        refine aa_if_neB iX7_takesFirstDigit_4 (fun h1 => ?_) (fun h1 => ?_)
        · skip
          refine aa_go (aa_aload0 iX7_takesFirstDigit_9) (aa_go (aa_iload1 iX7_takesFirstDigit_10) (aa_go (aa_bipush iX7_takesFirstDigit_11 kb_48) (aa_go (aa_isubN iX7_takesFirstDigit_13 (by omega)) (aa_go (aa_putI iX7_takesFirstDigit_14 fl_X7_44 (fun h => nomatch h) (sh_1 hW) rfl ⟨rfl, rfl⟩) (aa_go (aa_iload2 iX7_takesFirstDigit_17) ?_)))))
          refine aa_if_eqB iX7_takesFirstDigit_18 (fun h2 => ?_) (fun h2 => ?_)
          · skip
            exact absurd h2 (by decide)
          · skip
            refine aa_go (aa_aload0 iX7_takesFirstDigit_21) (aa_go (aa_iconst iX7_takesFirstDigit_22 ki_5) (aa_go (aa_putI iX7_takesFirstDigit_23 fl_X7_41 (fun h => nomatch h) (sh_1 hW) rfl ⟨rfl, rfl⟩) (aa_go (aa_iconst iX7_takesFirstDigit_26 ki_1) ?_)))
            refine aa_zretT iX7_takesFirstDigit_27 rfl ?_
            exact ⟨rfl, rfl⟩
        · skip
          rw [hd] at h1; exact absurd h1 (by decide)
    | false =>
      rw [if_pos hd, if_neg (by decide)] at e0
      rw [e0]
      obtain ⟨σ2, hR2, hS2⟩ := c_X7_takesNumber hW1 hT1 hTW (by omega) (by omega) (n := c - 48) sI_eq (by omega)
      refine ⟨σ2, ⟨(FT.rf.s1 (by decide) _).tr hR2.1, hR2.2⟩, ?_⟩
      refine aa_E_of (by decide) 0 [some (.ref 1), some (.int (nI c)), some (.int (nI false.toNat))] rfl rfl ?_
      refine aa_go (aa_iload1 iX7_takesFirstDigit_0) (aa_go (aa_cSi iX7_takesFirstDigit_1 (c_X7_isDigit (by omega)) (by decide) lc_X7_isDigit lk_X7_64 rfl (Nat.le_of_ble_eq_true rfl)) ?_)
      refine aa_if_neB iX7_takesFirstDigit_4 (fun h1 => ?_) (fun h1 => ?_)
      · skip
        refine aa_go (aa_aload0 iX7_takesFirstDigit_9) (aa_go (aa_iload1 iX7_takesFirstDigit_10) (aa_go (aa_bipush iX7_takesFirstDigit_11 kb_48) (aa_go (aa_isubN iX7_takesFirstDigit_13 (by omega)) (aa_go (aa_putI iX7_takesFirstDigit_14 fl_X7_44 (fun h => nomatch h) (sh_1 hW) rfl ⟨rfl, rfl⟩) (aa_go (aa_iload2 iX7_takesFirstDigit_17) ?_)))))
        refine aa_if_eqB iX7_takesFirstDigit_18 (fun h2 => ?_) (fun h2 => ?_)
        · skip
          refine aa_go (aa_aload0 iX7_takesFirstDigit_28) (aa_go (aa_cVi iX7_takesFirstDigit_29 (hS2) (by decide) lc_X7_takesNumber lk_X7_99 (sh_1 hW) rfl rfl (Nat.le_of_ble_eq_true rfl)) ?_)
          refine aa_zretB iX7_takesFirstDigit_32 rfl ?_
          exact ⟨rfl, rfl⟩
        · skip
          exact absurd h2 (by decide)
      · skip
        rw [hd] at h1; exact absurd h1 (by decide)
  · rw [if_neg hd] at e0
    rw [e0]
    refine ⟨σ, ⟨FT.rf, fun m' e => by simp at e⟩, ?_⟩
    refine aa_E_of (by decide) 0 [some (.ref 1), some (.int (nI c)), some (.int (nI g.toNat))] rfl rfl ?_
    refine aa_go (aa_iload1 iX7_takesFirstDigit_0) (aa_go (aa_cSi iX7_takesFirstDigit_1 (c_X7_isDigit (by omega)) (by decide) lc_X7_isDigit lk_X7_64 rfl (Nat.le_of_ble_eq_true rfl)) ?_)
    refine aa_if_neB iX7_takesFirstDigit_4 (fun h1 => ?_) (fun h1 => ?_)
    · skip
      exact absurd h1 hd
    · skip
      refine aa_go (aa_iconst iX7_takesFirstDigit_7 ki_0) ?_
      refine aa_zretF iX7_takesFirstDigit_8 rfl ?_
      exact ⟨rfl, rfl⟩
theorem c_X7_takesHeirs (hW : aa_W r dy σ) (hT : TX (pl_n P) m σ.1) (hTW : TW P m) (h2 : m.1 = 2) (hc : c < 256) (g : Bool) : ∃ σ' : aa_St, TR (pl_n P) (tmS (pl_n P) c g m) σ σ' ∧ aa_SX mX7_takesHeirs 1 [.ref 1, .int (nI c)] σ (some (.int (nI (tmS (pl_n P) c g m).isSome.toNat))) σ' := by
  obtain ⟨a1, a2, a3, a4, a5, a6, a7⟩ := id hT
  obtain ⟨w1, w2, w3, w4, w5, w6, w7, w8, w9⟩ := id hTW
  have l1 := w2 (by omega)
  have e0 : tmS (pl_n P) c g m = if 49 ≤ c ∧ c ≤ 55 then some (3, m.2.1, dup m.2.2.1 (m.2.1 - 1) ((m.2.2.1 (m.2.1 - 1)).1, c - 48, (m.2.2.1 (m.2.1 - 1)).2.2.1, (m.2.2.1 (m.2.1 - 1)).2.2.2), m.2.2.2) else none := by rw [tmS, h2]; rfl
  by_cases hd : 49 ≤ c ∧ c ≤ 55
  · rw [if_pos hd] at e0
    rw [e0]
    refine ⟨aa_sI (aa_sI σ 4 (m.2.1 - 1) (nI (c - 48))) 1 9 (nI 3), ⟨(FT.rf.s (by decide) _ _).s1 (by decide) _, fun m' e => ?_⟩, ?_⟩
    · cases e
      refine ⟨?_, ?_, ?_, sI_eq, fun e => by simp at e, fun e => ?_, fun k hk => ?_⟩
      · rw [sI_nk (by decide), sI_ne (by decide)]; exact a1
      · rw [sI_nk (by decide), sI_ne (by decide)]; exact a2
      · rw [sI_nk (by decide), sI_ne (by decide)]; exact a3
      · rw [sI_nk (by decide), sI_ne (by decide)]; exact a6 e
      · have a7 := a7 k hk
        rw [sI_ne (by decide), sI_ne (by decide), sI_ne (by decide), sI_at, sI_ne (by decide), sI_ne (by decide), sI_ne (by decide), sI_ne (by decide)]
        dsimp only at hk ⊢
        by_cases ck : k = m.2.1 - 1
        · rw [if_pos ck, ck, dup_eq]
          rw [ck] at a7
          exact ⟨a7.1, fun _ => rfl, a7.2.2.1, a7.2.2.2⟩
        · rw [if_neg ck, dup_ne ck]
          exact ⟨a7.1, fun _ => a7.2.1 (Or.inl (by omega)), a7.2.2.1, a7.2.2.2⟩
    · skip
      refine aa_E_of (by decide) 0 [some (.ref 1), some (.int (nI c))] rfl rfl ?_
      refine aa_go (aa_iload1 iX7_takesHeirs_0) (aa_go (aa_bipush iX7_takesHeirs_1 kb_49) ?_)
      refine aa_ic_ltN iX7_takesHeirs_3 (by omega) (by omega) (fun h1 => ?_) (fun h1 => ?_)
      · skip
        omega
      · skip
        refine aa_go (aa_iload1 iX7_takesHeirs_6) (aa_go (aa_bipush iX7_takesHeirs_7 kb_55) ?_)
        refine aa_ic_gtN iX7_takesHeirs_9 (by omega) (by omega) (fun h3 => ?_) (fun h3 => ?_)
        · skip
          omega
        · skip
          refine aa_go (aa_aload0 iX7_takesHeirs_12) (aa_go (aa_getE iX7_takesHeirs_13 fl_X7_32 (sh_1 hW) rfl a1) (aa_go (aa_iconst iX7_takesHeirs_16 ki_1) ?_))
          refine aa_ic_geN iX7_takesHeirs_17 (by omega) (by omega) (fun h5 => ?_) (fun h5 => ?_)
          · skip
            refine aa_go (aa_aload0 iX7_takesHeirs_22) (aa_go (aa_getR iX7_takesHeirs_23 fl_X7_22 (sh_1 hW) rfl) (aa_go (aa_aload0 iX7_takesHeirs_26) (aa_go (aa_getE iX7_takesHeirs_27 fl_X7_32 (sh_1 hW) rfl a1) (aa_go (aa_iconst iX7_takesHeirs_30 ki_1) (aa_go (aa_isubN iX7_takesHeirs_31 (by omega)) (aa_go (aa_iload1 iX7_takesHeirs_32) (aa_go (aa_bipush iX7_takesHeirs_33 kb_48) ?_)))))))
            refine aa_go (aa_isubN iX7_takesHeirs_35 (by omega)) (aa_go (aa_iasN iX7_takesHeirs_36 (sh_4 hW) (by omega) (by omega)) (aa_go (aa_aload0 iX7_takesHeirs_37) (aa_go (aa_iconst iX7_takesHeirs_38 ki_3) (aa_go (aa_putI iX7_takesHeirs_39 fl_X7_41 (fun h => nomatch h) (sh_1 hW) rfl ⟨rfl, rfl⟩) (aa_go (aa_iconst iX7_takesHeirs_42 ki_1) ?_)))))
            refine aa_zretT iX7_takesHeirs_43 rfl ?_
            exact ⟨rfl, rfl⟩
          · skip
            omega
  · rw [if_neg hd] at e0
    rw [e0]
    refine ⟨σ, ⟨FT.rf, fun m' e => by simp at e⟩, ?_⟩
    refine aa_E_of (by decide) 0 [some (.ref 1), some (.int (nI c))] rfl rfl ?_
    refine aa_go (aa_iload1 iX7_takesHeirs_0) (aa_go (aa_bipush iX7_takesHeirs_1 kb_49) ?_)
    refine aa_ic_ltN iX7_takesHeirs_3 (by omega) (by omega) (fun h1 => ?_) (fun h1 => ?_)
    · skip
      refine aa_go (aa_iconst iX7_takesHeirs_20 ki_0) ?_
      refine aa_zretF iX7_takesHeirs_21 rfl ?_
      exact ⟨rfl, rfl⟩
    · skip
      refine aa_go (aa_iload1 iX7_takesHeirs_6) (aa_go (aa_bipush iX7_takesHeirs_7 kb_55) ?_)
      refine aa_ic_gtN iX7_takesHeirs_9 (by omega) (by omega) (fun h3 => ?_) (fun h3 => ?_)
      · skip
        refine aa_go (aa_iconst iX7_takesHeirs_20 ki_0) ?_
        refine aa_zretF iX7_takesHeirs_21 rfl ?_
        exact ⟨rfl, rfl⟩
      · skip
        omega
theorem c_X7_takesWorth (hW : aa_W r dy σ) (hT : TX (pl_n P) m σ.1) (hTW : TW P m) (h0 : m.1 = 0) (hc : c < 256) (g : Bool) : ∃ σ' : aa_St, TR (pl_n P) (tmS (pl_n P) c g m) σ σ' ∧ aa_SX mX7_takesWorth 2 [.ref 1, .int (nI c)] σ (some (.int (nI (tmS (pl_n P) c g m).isSome.toNat))) σ' := by
  obtain ⟨a1, a2, a3, a4, a5, a6, a7⟩ := id hT
  obtain ⟨w1, w2, w3, w4, w5, w6, w7, w8, w9⟩ := id hTW
  have e0 : tmS (pl_n P) c g m = if isD c = true ∧ pl_n P + m.2.1 < 14 then some (1, m.2.1 + 1, dup m.2.2.1 m.2.1 (c - 48, 0, 0, false), m.2.2.2.1, m.2.2.2.2.1, 0) else none := by rw [tmS, h0]; rfl
  by_cases hd : isD c = true ∧ pl_n P + m.2.1 < 14
  · have dc := isD_iff.mp hd.1
    rw [if_pos hd] at e0
    rw [e0]
    refine ⟨aa_sI (aa_sI (aa_sI (aa_sI (aa_sI (aa_sI σ 3 m.2.1 (nI (c - 48))) 5 m.2.1 (nI 0)) 6 m.2.1 (nI 0)) 1 6 (nI (m.2.1 + 1))) 1 11 (-1)) 1 9 (nI 1), ⟨((((((FT.rf.s (by decide) _ _).s (by decide) _ _).s (by decide) _ _).s1 (by decide) _).s1 (by decide) _).s1 (by decide) _), fun m' e => ?_⟩, ?_⟩
    · cases e
      refine ⟨?_, ?_, ?_, sI_eq, fun e => by simp at e, fun e => ?_, fun k hk => ?_⟩
      · rw [sI_nk (by decide), sI_nk (by decide), sI_eq]
      · rw [sI_nk (by decide), sI_nk (by decide), sI_nk (by decide), sI_ne (by decide), sI_ne (by decide), sI_ne (by decide)]; exact a2
      · rw [sI_nk (by decide), sI_nk (by decide), sI_nk (by decide), sI_ne (by decide), sI_ne (by decide), sI_ne (by decide)]; exact a3
      · rw [sI_nk (by decide), sI_eq]; rfl
      · have b3 : (aa_sI (aa_sI (aa_sI (aa_sI (aa_sI (aa_sI σ 3 m.2.1 (nI (c - 48))) 5 m.2.1 (nI 0)) 6 m.2.1 (nI 0)) 1 6 (nI (m.2.1 + 1))) 1 11 (-1)) 1 9 (nI 1)).1 3 k = if k = m.2.1 then nI (c - 48) else σ.1 3 k := by
          rw [sI_ne (by decide), sI_ne (by decide), sI_ne (by decide), sI_ne (by decide), sI_ne (by decide), sI_at]
        have b4 : (aa_sI (aa_sI (aa_sI (aa_sI (aa_sI (aa_sI σ 3 m.2.1 (nI (c - 48))) 5 m.2.1 (nI 0)) 6 m.2.1 (nI 0)) 1 6 (nI (m.2.1 + 1))) 1 11 (-1)) 1 9 (nI 1)).1 4 k = σ.1 4 k := by
          rw [sI_ne (by decide), sI_ne (by decide), sI_ne (by decide), sI_ne (by decide), sI_ne (by decide), sI_ne (by decide)]
        have b5 : (aa_sI (aa_sI (aa_sI (aa_sI (aa_sI (aa_sI σ 3 m.2.1 (nI (c - 48))) 5 m.2.1 (nI 0)) 6 m.2.1 (nI 0)) 1 6 (nI (m.2.1 + 1))) 1 11 (-1)) 1 9 (nI 1)).1 5 k = if k = m.2.1 then nI 0 else σ.1 5 k := by
          rw [sI_ne (by decide), sI_ne (by decide), sI_ne (by decide), sI_ne (by decide), sI_at, sI_ne (by decide)]
        have b6 : (aa_sI (aa_sI (aa_sI (aa_sI (aa_sI (aa_sI σ 3 m.2.1 (nI (c - 48))) 5 m.2.1 (nI 0)) 6 m.2.1 (nI 0)) 1 6 (nI (m.2.1 + 1))) 1 11 (-1)) 1 9 (nI 1)).1 6 k = if k = m.2.1 then nI 0 else σ.1 6 k := by
          rw [sI_ne (by decide), sI_ne (by decide), sI_ne (by decide), sI_at, sI_ne (by decide), sI_ne (by decide)]
        rw [b3, b4, b5, b6]
        dsimp only at hk ⊢
        by_cases ck : k = m.2.1
        · rw [if_pos ck, if_pos ck, if_pos ck, ck, dup_eq]
          exact ⟨rfl, fun q => by omega, rfl, rfl⟩
        · have a7 := a7 k (by omega)
          rw [if_neg ck, if_neg ck, if_neg ck, dup_ne ck]
          exact ⟨a7.1, fun _ => a7.2.1 (Or.inr ⟨by omega, by omega⟩), a7.2.2.1, a7.2.2.2⟩
    · have c1 : (aa_sI σ 3 m.2.1 (nI (c - 48))).1 1 6 = nI m.2.1 := by rw [sI_ne (by decide)]; exact a1
      have c2 : (aa_sI (aa_sI σ 3 m.2.1 (nI (c - 48))) 5 m.2.1 (nI 0)).1 1 6 = nI m.2.1 := by rw [sI_ne (by decide)]; exact c1
      have c3 : (aa_sI (aa_sI (aa_sI σ 3 m.2.1 (nI (c - 48))) 5 m.2.1 (nI 0)) 6 m.2.1 (nI 0)).1 1 6 = nI m.2.1 := by rw [sI_ne (by decide)]; exact c2
      refine aa_E_of (by decide) 0 [some (.ref 1), some (.int (nI c))] rfl rfl ?_
      refine aa_go (aa_iload1 iX7_takesWorth_0) (aa_go (aa_cSi iX7_takesWorth_1 (c_X7_isDigit (by omega)) (by decide) lc_X7_isDigit lk_X7_64 rfl (Nat.le_of_ble_eq_true rfl)) ?_)
      refine aa_if_eqB iX7_takesWorth_4 (fun h1 => ?_) (fun h1 => ?_)
      · skip
        rw [hd.1] at h1; exact absurd h1 (by decide)
      · skip
        refine aa_go (aa_aload0 iX7_takesWorth_7) (aa_go (aa_getE iX7_takesWorth_8 fl_X7_35 (sh_1 hW) rfl a2) (aa_go (aa_aload0 iX7_takesWorth_11) (aa_go (aa_getE iX7_takesWorth_12 fl_X7_32 (sh_1 hW) rfl a1) (aa_go (aa_iaddN iX7_takesWorth_15 ) (aa_go (aa_bipush iX7_takesWorth_16 kb_14) ?_)))))
        refine aa_ic_ltN iX7_takesWorth_18 (by omega) (by omega) (fun h2 => ?_) (fun h2 => ?_)
        · skip
          refine aa_go (aa_aload0 iX7_takesWorth_23) (aa_go (aa_getR iX7_takesWorth_24 fl_X7_19 (sh_1 hW) rfl) (aa_go (aa_aload0 iX7_takesWorth_27) (aa_go (aa_getE iX7_takesWorth_28 fl_X7_32 (sh_1 hW) rfl a1) (aa_go (aa_iload1 iX7_takesWorth_31) (aa_go (aa_bipush iX7_takesWorth_32 kb_48) (aa_go (aa_isubN iX7_takesWorth_34 (by omega)) (aa_go (aa_iasN iX7_takesWorth_35 (sh_3 hW) (by omega) (by omega)) ?_)))))))
          refine aa_go (aa_aload0 iX7_takesWorth_36) (aa_go (aa_getR iX7_takesWorth_37 fl_X7_25 (sh_1 hW) rfl) (aa_go (aa_aload0 iX7_takesWorth_40) (aa_go (aa_getE iX7_takesWorth_41 fl_X7_32 (sh_1 hW) rfl c1) (aa_go (aa_iconst iX7_takesWorth_44 ki_0) (aa_go (aa_iasN iX7_takesWorth_45 (sh_5 hW) (by omega) (by omega)) (aa_go (aa_aload0 iX7_takesWorth_46) (aa_go (aa_getR iX7_takesWorth_47 fl_X7_28 (sh_1 hW) rfl) ?_)))))))
          refine aa_go (aa_aload0 iX7_takesWorth_50) (aa_go (aa_getE iX7_takesWorth_51 fl_X7_32 (sh_1 hW) rfl c2) (aa_go (aa_iconst iX7_takesWorth_54 ki_0) (aa_go (aa_zasN iX7_takesWorth_55 (sh_6 hW) (by omega) (by omega) (aa_nz0)) (aa_go (aa_aload0 iX7_takesWorth_56) (aa_go (aa_dup iX7_takesWorth_57 rfl) (aa_go (aa_getE iX7_takesWorth_58 fl_X7_32 (sh_1 hW) rfl c3) (aa_go (aa_iconst iX7_takesWorth_61 ki_1) ?_)))))))
          refine aa_go (aa_iaddN iX7_takesWorth_62 ) (aa_go (aa_putI iX7_takesWorth_63 fl_X7_32 (fun h => nomatch h) (sh_1 hW) rfl ⟨rfl, rfl⟩) (aa_go (aa_aload0 iX7_takesWorth_66) (aa_go (aa_iconst iX7_takesWorth_67 ki_m1) (aa_go (aa_putI iX7_takesWorth_68 fl_X7_47 (fun h => nomatch h) (sh_1 hW) rfl ⟨rfl, rfl⟩) (aa_go (aa_aload0 iX7_takesWorth_71) (aa_go (aa_iconst iX7_takesWorth_72 ki_1) (aa_go (aa_putI iX7_takesWorth_73 fl_X7_41 (fun h => nomatch h) (sh_1 hW) rfl ⟨rfl, rfl⟩) ?_)))))))
          refine aa_go (aa_iconst iX7_takesWorth_76 ki_1) ?_
          refine aa_zretT iX7_takesWorth_77 rfl ?_
          exact ⟨rfl, rfl⟩
        · skip
          omega
  · rw [if_neg hd] at e0
    rw [e0]
    refine ⟨σ, ⟨FT.rf, fun m' e => by simp at e⟩, ?_⟩
    refine aa_E_of (by decide) 0 [some (.ref 1), some (.int (nI c))] rfl rfl ?_
    refine aa_go (aa_iload1 iX7_takesWorth_0) (aa_go (aa_cSi iX7_takesWorth_1 (c_X7_isDigit (by omega)) (by decide) lc_X7_isDigit lk_X7_64 rfl (Nat.le_of_ble_eq_true rfl)) ?_)
    refine aa_if_eqB iX7_takesWorth_4 (fun h1 => ?_) (fun h1 => ?_)
    · skip
      refine aa_go (aa_iconst iX7_takesWorth_21 ki_0) ?_
      refine aa_zretF iX7_takesWorth_22 rfl ?_
      exact ⟨rfl, rfl⟩
    · skip
      refine aa_go (aa_aload0 iX7_takesWorth_7) (aa_go (aa_getE iX7_takesWorth_8 fl_X7_35 (sh_1 hW) rfl a2) (aa_go (aa_aload0 iX7_takesWorth_11) (aa_go (aa_getE iX7_takesWorth_12 fl_X7_32 (sh_1 hW) rfl a1) (aa_go (aa_iaddN iX7_takesWorth_15 ) (aa_go (aa_bipush iX7_takesWorth_16 kb_14) ?_)))))
      refine aa_ic_ltN iX7_takesWorth_18 (by omega) (by omega) (fun h2 => ?_) (fun h2 => ?_)
      · skip
        exact absurd ⟨h1, h2⟩ hd
      · skip
        refine aa_go (aa_iconst iX7_takesWorth_21 ki_0) ?_
        refine aa_zretF iX7_takesWorth_22 rfl ?_
        exact ⟨rfl, rfl⟩
end
