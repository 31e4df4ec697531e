section
variable {r : Nat → Nat} {dy : List aa_Shp} {P : pl_T} {hs : List Nat}
theorem XP.frI {c : Nat} {σ σ' : aa_St} (hX : XP P hs σ.1) (hF : FrI c σ σ') (hc : 19 < c) : XP P hs σ'.1 := hX.fr ⟨by rw [hF.2 7 (by omega)], by rw [hF.2 7 (by omega)], by rw [hF.2 7 (by omega)]⟩ (fun a h1 h2 => hF.2 a (by omega))
theorem FrI.tr {c : Nat} {σ σ1 σ2 : aa_St} (h : FrI c σ σ1) (g : FrI c σ1 σ2) : FrI c σ σ2 := ⟨g.1.trans h.1, fun x hx => (g.2 x hx).trans (h.2 x hx)⟩
theorem FrI.W {c : Nat} {σ σ' : aa_St} (hF : FrI c σ σ') (hW : aa_W r dy σ) : aa_W r dy σ' := hW.of2 (by rw [hF.1])
theorem c_X3_pairs {lf rf : Nat → Nat} {many : Nat} (hm : many ≤ 6) (hl2 : ∀ j, j < many → lf j < pl_n P) (hr2 : ∀ j, j < many → rf j < pl_n P) : ∀ d k used ρ (σ : aa_St), k + d = many → used < 64 → aa_W r dy σ → XP P hs σ.1 → (∀ j, j < many → σ.1 33 j = nI (lf j) ∧ σ.1 34 j = nI (rf j)) → (∀ j, j < k → σ.1 35 j = nI (ρ j) ∧ ρ j < pl_n P) →
    ∃ σ' : aa_St, (FrI 35 σ σ' ∧ ∀ j, j < k → σ'.1 35 j = σ.1 35 j) ∧ aa_SX mX3_pairs (4 + d) [.ref 29, .int (nI k), .int (nI many), .int (nI used)] σ (some (.int (nI (prB P lf rf many d k used ρ).toNat))) σ' := by
  intro d
  induction d with
  | zero =>
    intro k used ρ σ hd hu hW hX hl hρ
    refine ⟨σ, ⟨FrI.rf, fun _ _ => rfl⟩, ?_⟩
    refine aa_E_of (by decide) 1 [some (.ref 29), some (.int (nI k)), some (.int (nI many)), some (.int (nI used)), none] rfl rfl ?_
    refine aa_go (aa_iload1 iX3_pairs_0) (aa_go (aa_iload2 iX3_pairs_1) ?_)
    refine aa_ic_geN iX3_pairs_2 (by omega) (by omega) (fun h1 => ?_) (fun h1 => ?_)
    · skip
      refine aa_go (aa_iconst iX3_pairs_11 ki_1) ?_
      refine aa_zretT iX3_pairs_12 rfl ?_
      exact ⟨rfl, rfl⟩
    · skip
      omega
  | succ d ih =>
    intro k used ρ σ hd hu hW hX hl hρ
    have hn := hX.n14
    have loop : ∀ f p (σ1 : aa_St), many - p < f → p ≤ many → FrI 35 σ σ1 → (∀ j, j < k → σ1.1 35 j = σ.1 35 j) → ((List.range p).any (fun p => !used.testBit p && (fitB P lf ρ k (rf p) && prB P lf rf many d (k + 1) (used ||| 2 ^ p) (nup ρ k (rf p)))) = false) → aa_V mX3_pairs (4 + (d + 1)) 16 [some (.ref 29), some (.int (nI k)), some (.int (nI many)), some (.int (nI used)), some (.int (nI p))] [] σ1 (fun ra σ' => ra = some (.int (nI (prB P lf rf many (d + 1) k used ρ).toNat)) ∧ (FrI 35 σ σ' ∧ ∀ j, j < k → σ'.1 35 j = σ.1 35 j)) := by
      intro f
      induction f with
      | zero => intro p σ1 g1; omega
      | succ f ihf =>
        intro p σ1 g1 g2 hF hk hno
        have hW1 := hF.W hW
        have hX1 := hX.frI hF (by decide)
        have hl1 : ∀ j, j < many → σ1.1 33 j = nI (lf j) ∧ σ1.1 34 j = nI (rf j) := fun j hj => by rw [hF.2 33 (by decide), hF.2 34 (by decide)]; exact hl j hj
        have hρ1 : ∀ j, j < k → σ1.1 35 j = nI (ρ j) ∧ ρ j < pl_n P := fun j hj => ⟨by rw [hk j hj]; exact (hρ j hj).1, (hρ j hj).2⟩
        have nxt : ∀ q : Bool, q = false → ((List.range (p + 1)).any (fun p => !used.testBit p && (fitB P lf ρ k (rf p) && prB P lf rf many d (k + 1) (used ||| 2 ^ p) (nup ρ k (rf p)))) = (!used.testBit p && (fitB P lf ρ k (rf p) && prB P lf rf many d (k + 1) (used ||| 2 ^ p) (nup ρ k (rf p))))) := by
          intro _ _
          rw [List.range_succ, List.any_append, hno]; simp
        have nxt := nxt false rfl
        refine aa_go (aa_iload4 iX3_pairs_16) (aa_go (aa_iload2 iX3_pairs_18) ?_)
        refine aa_ic_geN iX3_pairs_19 (by omega) (by omega) (fun g3 => ?_) (fun g3 => ?_)
        · skip
          have e : p = many := by omega
          subst e
          refine aa_go (aa_iconst iX3_pairs_91 ki_0) ?_
          refine aa_zretF iX3_pairs_92 rfl ?_
          exact ⟨by rw [prB, hno]; rfl, hF, hk⟩
        · skip
          refine aa_go (aa_iload4 iX3_pairs_22) (aa_go (aa_bipush iX3_pairs_24 kb_6) ?_)
          refine aa_ic_geN iX3_pairs_26 (by omega) (by omega) (fun g4 => ?_) (fun g4 => ?_)
          · skip
            omega
          · skip
            refine aa_go (aa_iload3 iX3_pairs_29) (aa_go (aa_iload4 iX3_pairs_30) (aa_go (aa_ishrN iX3_pairs_32 (by omega) (by omega)) (aa_go (aa_iconst iX3_pairs_33 ki_1) (aa_go (aa_ibit iX3_pairs_34) ?_))))
            refine aa_if_neB iX3_pairs_35 (fun g5 => ?_) (fun g5 => ?_)
            · skip
              refine aa_go (aa_iincN4 (k := 1) iX3_pairs_85 rfl (by decide)) (aa_go (aa_goto iX3_pairs_88) ?_)
              exact ihf (p + 1) σ1 (by omega) (by omega) hF hk (by rw [nxt, g5]; rfl)
            · skip
              have rp := (hl1 p g3).2
              have fl := c_X3_fits hW1 hX1 (lf := lf) (ρ := ρ) (k := k) (x := rf p) (by omega) (fun j hj => ⟨(hl1 j (by omega)).1, hl2 j (by omega)⟩) hρ1 (hr2 p g3)
              refine aa_go (aa_aload0 iX3_pairs_38) (aa_go (aa_iload1 iX3_pairs_39) (aa_go (aa_aload0 iX3_pairs_40) (aa_go (aa_getR iX3_pairs_41 fl_X3_25 (sh_29 hW1) rfl) (aa_go (aa_iload4 iX3_pairs_44) (aa_go (aa_ialE iX3_pairs_46 (sh_34 hW1) (by omega) (by omega) (rp)) (aa_go (aa_cVi iX3_pairs_47 (fl) (by omega) lc_X3_fits lk_X3_92 (sh_29 hW1) rfl rfl (Nat.le_of_ble_eq_true rfl)) ?_))))))
              refine aa_if_eqB iX3_pairs_50 (fun g6 => ?_) (fun g6 => ?_)
              · skip
                refine aa_go (aa_iincN4 (k := 1) iX3_pairs_85 rfl (by decide)) (aa_go (aa_goto iX3_pairs_88) ?_)
                exact ihf (p + 1) σ1 (by omega) (by omega) hF hk (by rw [nxt, g6]; simp)
              · skip
                have hF2 := hF.s k (nI (rf p))
                have hW2 := hF2.W hW
                have hX2 := hX.frI hF2 (by decide)
                have u2 : used ||| 2 ^ p < 64 := bb_or (k := 6) hu (bb_p2 (by omega))
                obtain ⟨σ3, ⟨hF3, hk3⟩, hS3⟩ := ih (k + 1) (used ||| 2 ^ p) (nup ρ k (rf p)) (aa_sI σ1 35 k (nI (rf p))) (by omega) u2 hW2 hX2 (fun j hj => by rw [hF2.2 33 (by decide), hF2.2 34 (by decide)]; exact hl j hj) (fun j hj => by
                  rw [sI_at]
                  by_cases c : j = k
                  · rw [if_pos c, c, nup_eq]; exact ⟨rfl, hr2 p g3⟩
                  · rw [if_neg c, nup_ne c]; exact hρ1 j (by omega))
                have hk4 : ∀ j, j < k → σ3.1 35 j = σ.1 35 j := fun j hj => by
                  rw [hk3 j (by omega), sI_at, if_neg (by omega)]; exact hk j hj
                refine aa_go (aa_aload0 iX3_pairs_53) (aa_go (aa_getR iX3_pairs_54 fl_X3_28 (sh_29 hW1) rfl) (aa_go (aa_iload1 iX3_pairs_57) (aa_go (aa_aload0 iX3_pairs_58) (aa_go (aa_getR iX3_pairs_59 fl_X3_25 (sh_29 hW1) rfl) (aa_go (aa_iload4 iX3_pairs_62) (aa_go (aa_ialE iX3_pairs_64 (sh_34 hW1) (by omega) (by omega) (rp)) (aa_go (aa_iasN iX3_pairs_65 (sh_35 hW1) (by omega) (by omega)) ?_)))))))
                refine aa_go (aa_aload0 iX3_pairs_66) (aa_go (aa_iload1 iX3_pairs_67) (aa_go (aa_iconst iX3_pairs_68 ki_1) (aa_go (aa_iaddN iX3_pairs_69 ) (aa_go (aa_iload2 iX3_pairs_70) (aa_go (aa_iload3 iX3_pairs_71) (aa_go (aa_iconst iX3_pairs_72 ki_1) (aa_go (aa_iload4 iX3_pairs_73) ?_)))))))
                refine aa_go (aa_ishlN iX3_pairs_75 (by omega)) (aa_go (aa_iorN iX3_pairs_76 ) ?_)
                refine aa_go (aa_top (y := nI (used ||| 2 ^ p)) (by rw [Nat.one_shiftLeft])) ?_
                refine aa_go (aa_cVi iX3_pairs_77 (hS3) (by omega) lc_X3_pairs lk_X3_88 (sh_29 hW2) rfl rfl (Nat.le_of_ble_eq_true rfl)) ?_
                refine aa_if_eqB iX3_pairs_80 (fun g7 => ?_) (fun g7 => ?_)
                · skip
                  refine aa_go (aa_iincN4 (k := 1) iX3_pairs_85 rfl (by decide)) (aa_go (aa_goto iX3_pairs_88) ?_)
                  exact ihf (p + 1) σ3 (by omega) (by omega) (hF2.tr hF3) hk4 (by rw [nxt, g7]; simp)
                · skip
                  refine aa_go (aa_iconst iX3_pairs_83 ki_1) ?_
                  refine aa_zretT iX3_pairs_84 rfl ?_
                  refine ⟨?_, hF2.tr hF3, hk4⟩
                  have : prB P lf rf many (d + 1) k used ρ = true := by
                    rw [prB, List.any_eq_true]
                    exact ⟨p, List.mem_range.mpr g3, by rw [g5, g6, g7]; rfl⟩
                  rw [this]; rfl
    have key : aa_V mX3_pairs (4 + (d + 1)) 0 [some (.ref 29), some (.int (nI k)), some (.int (nI many)), some (.int (nI used)), none] [] σ (fun ra σ' => ra = some (.int (nI (prB P lf rf many (d + 1) k used ρ).toNat)) ∧ (FrI 35 σ σ' ∧ ∀ j, j < k → σ'.1 35 j = σ.1 35 j)) := by
      refine aa_go (aa_iload1 iX3_pairs_0) (aa_go (aa_iload2 iX3_pairs_1) ?_)
      refine aa_ic_geN iX3_pairs_2 (by omega) (by omega) (fun h1 => ?_) (fun h1 => ?_)
      · skip
        omega
      · skip
        refine aa_go (aa_iload1 iX3_pairs_5) (aa_go (aa_bipush iX3_pairs_6 kb_6) ?_)
        refine aa_ic_ltN iX3_pairs_8 (by omega) (by omega) (fun h2 => ?_) (fun h2 => ?_)
        · skip
          refine aa_go (aa_iconst iX3_pairs_13 ki_0) (aa_go (aa_istore4 iX3_pairs_14 rfl (by decide)) ?_)
          exact loop (many + 1) 0 σ (by omega) (by omega) FrI.rf (fun _ _ => rfl) rfl
        · skip
          omega
    obtain ⟨ra, σ', ⟨rfl, h1⟩, hS9⟩ := aa_S_of (avs := [.ref 29, .int (nI k), .int (nI many), .int (nI used)]) (by decide) 1 [some (.ref 29), some (.int (nI k)), some (.int (nI many)), some (.int (nI used)), none] rfl rfl key
    exact ⟨σ', h1, hS9⟩
def FrA (A : List Nat) (σ σ' : aa_St) : Prop := σ'.2 = σ.2 ∧ ∀ x, x ∉ A → σ'.1 x = σ.1 x
theorem FrI.A {c : Nat} {A : List Nat} {σ σ' : aa_St} (h : FrI c σ σ') (hc : c ∈ A) : FrA A σ σ' := ⟨h.1, fun x hx => h.2 x (fun e => hx (e ▸ hc))⟩
theorem FrA.tr {A : List Nat} {σ σ1 σ2 : aa_St} (h : FrA A σ σ1) (g : FrA A σ1 σ2) : FrA A σ σ2 := ⟨g.1.trans h.1, fun x hx => (g.2 x hx).trans (h.2 x hx)⟩
def cpA (P : pl_T) (a b : Nat) : Int32 := if 6 < (blk a 14).length ∨ 6 < (blk b 14).length then -3 else nI (decide ((blk a 14).length = (blk b 14).length) && prB P (fun j => (blk a 14)[j]?.getD 0) (fun j => (blk b 14)[j]?.getD 0) (blk a 14).length (blk a 14).length 0 0 (fun _ => 0)).toNat
theorem blk_mem {h k x : Nat} {p : Nat} (e : (blk h k)[p]? = some x) : h.testBit x = true := by
  have := List.mem_of_getElem? e
  rw [blk, List.mem_filter] at this
  exact this.2
theorem c_X3_compare {σ : aa_St} (hW : aa_W r dy σ) (hX : XP P hs σ.1) {a b : Nat} (ha : a < 2 ^ pl_n P) (hb : b < 2 ^ pl_n P) : ∃ σ' : aa_St, FrA [33, 34, 35] σ σ' ∧ aa_SX mX3_compare 15 [.ref 29, .int (nI a), .int (nI b)] σ (some (.int (cpA P a b))) σ' := by
  have hn := hX.n14
  have p14 := pw14 hn
  have la := cn_le a 14
  rw [← blk_len] at la
  have lb := cn_le b 14
  rw [← blk_len] at lb
  have get : ∀ h p, h < 2 ^ pl_n P → p < (blk h 14).length → (blk h 14)[p]? = some ((blk h 14)[p]?.getD 0) ∧ (blk h 14)[p]?.getD 0 < pl_n P := by
    intro h p hh hp
    have e : (blk h 14)[p]? = some (blk h 14)[p] := List.getElem?_eq_getElem hp
    rw [e]
    refine ⟨rfl, ?_⟩
    apply Classical.byContradiction
    intro c
    have := blk_mem e
    rw [bb_hi hh (by simpa using c)] at this
    exact absurd this (by decide)
  obtain ⟨σ1, ⟨hF1, hL1⟩, hS1⟩ := c_X3_list33 hW (h := a) (by omega)
  have hW1 := hF1.W hW
  obtain ⟨σ2, ⟨hF2, hL2⟩, hS2⟩ := c_X3_list34 hW1 (h := b) (by omega)
  have hW2 := hF2.W hW1
  have hX2 := (hX.frI hF1 (by decide)).frI hF2 (by decide)
  have hA2 : FrA [33, 34, 35] σ σ2 := (hF1.A (by decide)).tr (hF2.A (by decide))
  have key : aa_V mX3_compare 15 0 [some (.ref 29), some (.int (nI a)), some (.int (nI b)), none, none] [] σ (fun ra σ' => ra = some (.int (cpA P a b)) ∧ FrA [33, 34, 35] σ σ') := by
    refine aa_go (aa_iload1 iX3_compare_0) (aa_go (aa_aload0 iX3_compare_1) (aa_go (aa_getR iX3_compare_2 fl_X3_22 (sh_29 hW) rfl) (aa_go (aa_cSi iX3_compare_5 (hS1) (by decide) lc_X3_list lk_X3_84 rfl (Nat.le_of_ble_eq_true rfl)) ?_)))
    refine aa_go (aa_istore3 iX3_compare_8 rfl (by decide)) (aa_go (aa_iload2 iX3_compare_9) (aa_go (aa_aload0 iX3_compare_10) (aa_go (aa_getR iX3_compare_11 fl_X3_25 (sh_29 hW1) rfl) (aa_go (aa_cSi iX3_compare_14 (hS2) (by decide) lc_X3_list lk_X3_84 rfl (Nat.le_of_ble_eq_true rfl)) ?_))))
    refine aa_go (aa_istore4 iX3_compare_17 rfl (by decide)) (aa_go (aa_iload3 iX3_compare_19) (aa_go (aa_bipush iX3_compare_20 kb_6) ?_))
    refine aa_ic_gtN iX3_compare_22 (by omega) (by omega) (fun h1 => ?_) (fun h1 => ?_)
    · skip
      refine aa_go (aa_bipush iX3_compare_32 kb_m3) ?_
      refine aa_iret iX3_compare_34 rfl ?_
      exact ⟨by rw [cpA, if_pos (Or.inl h1)], hA2⟩
    · skip
      refine aa_go (aa_iload4 iX3_compare_25) (aa_go (aa_bipush iX3_compare_27 kb_6) ?_)
      refine aa_ic_leN iX3_compare_29 (by omega) (by omega) (fun h2 => ?_) (fun h2 => ?_)
      · skip
        have hc : ¬ (6 < (blk a 14).length ∨ 6 < (blk b 14).length) := by omega
        rw [cpA, if_neg hc]
        refine aa_go (aa_iload3 iX3_compare_35) (aa_go (aa_iload4 iX3_compare_36) ?_)
        refine aa_ic_neN iX3_compare_38 (by omega) (by omega) (fun h3 => ?_) (fun h3 => ?_)
        · skip
          refine aa_go (aa_iconst iX3_compare_55 ki_0) ?_
          refine aa_iret iX3_compare_56 rfl ?_
          exact ⟨by rw [decide_eq_false h3]; rfl, hA2⟩
        · skip
          have hl : ∀ j, j < (blk a 14).length → σ2.1 33 j = nI ((blk a 14)[j]?.getD 0) ∧ σ2.1 34 j = nI ((blk b 14)[j]?.getD 0) := fun j hj => ⟨by rw [hF2.2 33 (by decide)]; exact hL1 j _ (by omega) (get a j ha hj).1, hL2 j _ (by omega) (get b j hb (by omega)).1⟩
          obtain ⟨σ3, ⟨hF3, -⟩, hS3⟩ := c_X3_pairs (lf := fun j => (blk a 14)[j]?.getD 0) (rf := fun j => (blk b 14)[j]?.getD 0) (many := (blk a 14).length) (by omega) (fun j hj => (get a j ha hj).2) (fun j hj => (get b j hb (by omega)).2) (blk a 14).length 0 0 (fun _ => 0) σ2 (by omega) (by decide) hW2 hX2 hl (fun j hj => absurd hj (by omega))
          rw [decide_eq_true h3, Bool.true_and]
          refine aa_go (aa_aload0 iX3_compare_41) (aa_go (aa_iconst iX3_compare_42 ki_0) (aa_go (aa_iload3 iX3_compare_43) (aa_go (aa_iconst iX3_compare_44 ki_0) (aa_go (aa_cVi iX3_compare_45 (hS3) (by omega) lc_X3_pairs lk_X3_88 (sh_29 hW2) rfl rfl (Nat.le_of_ble_eq_true rfl)) ?_))))
          refine aa_if_eqB iX3_compare_48 (fun h4 => ?_) (fun h4 => ?_)
          · skip
            rw [h4]
            refine aa_go (aa_iconst iX3_compare_55 ki_0) ?_
            refine aa_iret iX3_compare_56 rfl ?_
            exact ⟨rfl, hA2.tr (hF3.A (by decide))⟩
          · skip
            rw [h4]
            refine aa_go (aa_iconst iX3_compare_51 ki_1) (aa_go (aa_goto iX3_compare_52) ?_)
            refine aa_iret iX3_compare_56 rfl ?_
            exact ⟨rfl, hA2.tr (hF3.A (by decide))⟩
      · skip
        refine aa_go (aa_bipush iX3_compare_32 kb_m3) ?_
        refine aa_iret iX3_compare_34 rfl ?_
        exact ⟨by rw [cpA, if_pos (Or.inr h2)], hA2⟩
  obtain ⟨ra, σ', ⟨rfl, h1⟩, hS9⟩ := aa_S_of (avs := [.ref 29, .int (nI a), .int (nI b)]) (by decide) 2 [some (.ref 29), some (.int (nI a)), some (.int (nI b)), none, none] rfl rfl key
  exact ⟨σ', h1, hS9⟩
end
