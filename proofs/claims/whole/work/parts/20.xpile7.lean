section
variable {r : Nat → Nat} {dy : List aa_Shp} {σ : aa_St} {P : pl_T} {hs : List Nat}
theorem XA.fr {i i' : Nat → Nat → Int32} (h : XA P i) (h7 : i' 7 13 = i 7 13 ∧ i' 7 14 = i 7 14) (hr : ∀ a, 8 ≤ a → a ≤ 14 → i' a = i a) : XA P i' := by
  obtain ⟨a1, a2, a3, a4, a5, a6⟩ := h
  refine ⟨by rw [h7.1]; exact a1, by rw [h7.2]; exact a2, fun k hk => ?_, fun k hk => ?_, fun j hj => ?_, fun q hq => ?_⟩
  · rw [hr 8 (by decide) (by decide), hr 9 (by decide) (by decide), hr 10 (by decide) (by decide), hr 11 (by decide) (by decide), hr 12 (by decide) (by decide)]; exact a3 k hk
  · rw [hr 8 (by decide) (by decide)]; exact a4 k hk
  · rw [hr 13 (by decide) (by decide)]; exact a5 j hj
  · rw [hr 14 (by decide) (by decide)]; exact a6 q hq
theorem c_X6_settle (hW : aa_W r dy σ) (ok : pl_ok P) (hA : XA P σ.1) {v : Nat} (hv : σ.1 7 15 = nI v) (h17 : σ.1 17 0 = nI 0) (h18 : σ.1 18 0 = nI 0) : ∃ σ' : aa_St, (σ'.2 = σ.2 ∧ XP P (pl_hl P (pl_n P)).1 σ'.1 ∧ σ'.1 7 15 = nI (v + 1) ∧ (∀ a, (a < 7 ∨ 19 < a) → σ'.1 a = σ.1 a)) ∧ aa_SX mX6_settle 3 [.ref 7] σ none σ' := by
  obtain ⟨a1, a2, a3, a4, a5, a6⟩ := id hA
  have hn := ok.1
  have hb2 := ok.2.1
  have hkk := ok.2.2.2.2.1
  have p14 : 2 ^ pl_n P ≤ 16384 := pw14 (by omega)
  generalize hQd : (fun (r1 : Option Value) (σ' : aa_St) => r1 = none ∧ (σ'.2 = σ.2 ∧ XP P (pl_hl P (pl_n P)).1 σ'.1 ∧ σ'.1 7 15 = nI (v + 1) ∧ (∀ a, (a < 7 ∨ 19 < a) → σ'.1 a = σ.1 a))) = Q
  have L2 : ∀ f k (σ1 : aa_St), pl_b P - k < f → k ≤ pl_b P → σ1.2 = σ.2 → (∀ a, a ≠ 7 → a ≠ 15 → a ≠ 16 → σ1.1 a = σ.1 a) → (∀ j, j ≠ 15 → σ1.1 7 j = σ.1 7 j) → σ1.1 7 15 = nI (v + 1) → (∀ j, j < pl_n P → σ1.1 15 j = nI (pl_cl P j) ∧ σ1.1 16 j = nI 0) → (∀ j, pl_n P ≤ j → j < pl_n P + k → σ1.1 15 j = nI 0 ∧ σ1.1 16 j = nI (pl_st P j)) → aa_V mX6_settle 3 51 [some (.ref 7), some (.int (nI k))] [] σ1 Q := by
    intro f
    induction f with
    | zero => intro k σ1 g1; omega
    | succ f ih =>
      intro k σ1 g1 g2 e0 e1 e2 e3 e4 e5
      have hW1 : aa_W r dy σ1 := by unfold aa_W; rw [e0]; exact hW
      have f1 : σ1.1 7 13 = nI (pl_n P) := (e2 13 (by decide)).trans a1
      have f2 : σ1.1 7 14 = nI (pl_b P) := (e2 14 (by decide)).trans a2
      refine aa_go (aa_iload1 iX6_settle_51) (aa_go (aa_aload0 iX6_settle_52) (aa_go (aa_getE iX6_settle_53 fl_X6_55 (sh_7 hW1) rfl f2) ?_))
      refine aa_ic_geN iX6_settle_56 (by omega) (by omega) (fun g3 => ?_) (fun g3 => ?_)
      · skip
        have e : k = pl_b P := by omega
        subst e
        have hA1 : XA P σ1.1 := hA.fr ⟨e2 13 (by decide), e2 14 (by decide)⟩ (fun a h1 h2 => e1 a (by omega) (by omega) (by omega))
        obtain ⟨σ2, ⟨k0, k1, k2, k3⟩, hS2⟩ := c_X6_splitHeaps hW1 ok hA1
        have hW2 : aa_W r dy σ2 := by unfold aa_W; rw [k0]; exact hW1
        have hA2 : XA P σ2.1 := hA1.fr ⟨k3 13 (by decide), k3 14 (by decide)⟩ (fun a h1 h2 => k2 a (by omega) (by omega))
        have q8 : ∀ q, q < 14 → σ2.1 8 q = nI (pl_w P q) ∧ pl_w P q ≤ 9 := by
          intro q hq
          rw [k2 8 (by decide) (by decide), e1 8 (by decide) (by decide) (by decide)]
          by_cases hq2 : q < pl_n P
          · exact ⟨(a3 q hq2).1, (ok.2.2.1 q hq2).1⟩
          · rw [ok.2.2.2.1 q (by omega)]; exact ⟨a4 q (by omega), by omega⟩
        have q17 : σ2.1 17 0 = nI 0 := by rw [k2 17 (by decide) (by decide), e1 17 (by decide) (by decide) (by decide)]; exact h17
        have q18 : σ2.1 18 0 = nI 0 := by rw [k2 18 (by decide) (by decide), e1 18 (by decide) (by decide) (by decide)]; exact h18
        obtain ⟨σ3, ⟨j0, j1, j2⟩, hS3⟩ := c_X6_addUp (P := P) hW2 q8 q17 q18
        refine aa_go (aa_aload0 iX6_settle_105) (aa_go (aa_cVv iX6_settle_106 (hS2) (by decide) lc_X6_splitHeaps lk_X6_67 (sh_7 hW1) rfl rfl (Nat.le_of_ble_eq_true rfl)) ?_)
        have hW2' := hW2
        refine aa_go (aa_aload0 iX6_settle_109) (aa_go (aa_cVv iX6_settle_110 (hS3) (by decide) lc_X6_addUp lk_X6_70 (sh_7 hW2) rfl rfl (Nat.le_of_ble_eq_true rfl)) ?_)
        refine aa_vret iX6_settle_113 rfl ?_
        rw [← hQd]
        refine ⟨rfl, j0.trans (k0.trans e0), ⟨ok, ?_, ⟨fun j hj => ?_, fun j hj hj2 => ?_⟩, j2, ?_, ?_, fun q h hq => ?_⟩, ?_, fun a ha => ?_⟩
        · exact hA2.fr ⟨by rw [j1 7 (by decide) (by decide)], by rw [j1 7 (by decide) (by decide)]⟩ (fun a h1 h2 => j1 a (by omega) (by omega))
        · rw [j1 15 (by decide) (by decide), j1 16 (by decide) (by decide), k2 15 (by decide) (by decide), k2 16 (by decide) (by decide)]; exact e4 j hj
        · rw [j1 15 (by decide) (by decide), j1 16 (by decide) (by decide), k2 15 (by decide) (by decide), k2 16 (by decide) (by decide)]; exact e5 j hj hj2
        · rw [j1 7 (by decide) (by decide)]; exact k1.1
        · exact k1.2.1
        · rw [j1 19 (by decide) (by decide)]; exact k1.2.2 q h hq
        · rw [j1 7 (by decide) (by decide), k3 15 (by decide)]; exact e3
        · rw [j1 a (by omega) (by omega), k2 a (by omega) (by omega), e1 a (by omega) (by omega) (by omega)]
      · skip
        have hkq := hkk k g3
        refine aa_go (aa_aload0 iX6_settle_59) (aa_go (aa_getR iX6_settle_60 fl_X6_33 (sh_7 hW1) rfl) (aa_go (aa_aload0 iX6_settle_63) (aa_go (aa_getE iX6_settle_64 fl_X6_52 (sh_7 hW1) rfl f1) (aa_go (aa_iload1 iX6_settle_67) (aa_go (aa_iaddN iX6_settle_68 ) (aa_go (aa_iconst iX6_settle_69 ki_0) (aa_go (aa_iasN iX6_settle_70 (sh_15 hW1) (by omega) (by omega)) ?_)))))))
        refine aa_go (aa_aload0 iX6_settle_71) (aa_go (aa_getR iX6_settle_72 fl_X6_36 (sh_7 hW1) rfl) (aa_go (aa_aload0 iX6_settle_75) (aa_go (aa_getE iX6_settle_76 fl_X6_52 (sh_7 hW1) rfl f1) (aa_go (aa_iload1 iX6_settle_79) (aa_go (aa_iaddN iX6_settle_80 ) (aa_go (aa_iconst iX6_settle_81 ki_1) (aa_go (aa_aload0 iX6_settle_82) ?_)))))))
        refine aa_go (aa_getR iX6_settle_83 fl_X6_27 (sh_7 hW1) rfl) (aa_go (aa_iload1 iX6_settle_86) (aa_go (aa_ialE iX6_settle_87 (sh_13 hW1) (by omega) (by omega) ((congrFun (e1 13 (by decide) (by decide) (by decide)) k).trans (a5 k g3))) (aa_go (aa_ishlN iX6_settle_88 (by omega)) (aa_go (aa_iconst iX6_settle_89 ki_1) (aa_go (aa_aload0 iX6_settle_90) (aa_go (aa_getE iX6_settle_91 fl_X6_52 (sh_7 hW1) rfl f1) (aa_go (aa_iload1 iX6_settle_94) ?_)))))))
        refine aa_go (aa_iaddN iX6_settle_95 ) (aa_go (aa_ishlN iX6_settle_96 (by omega)) (aa_go (aa_iorN iX6_settle_97 ) (aa_go (aa_iasN iX6_settle_98 (sh_16 hW1) (by omega) (by omega)) (aa_go (aa_iincN1 (k := 1) iX6_settle_99 rfl (by decide)) (aa_go (aa_goto iX6_settle_102) ?_)))))
        refine ih (k + 1) _ (by omega) (by omega) e0 (fun a h1 h2 h3 => Eq.trans (aa_u2_ne h3) ((aa_u2_ne h2).trans (e1 a h1 h2 h3))) e2 e3 (fun j hj => ?_) (fun j h1 h2 => ?_)
        · show (if j = pl_n P + k then _ else σ1.1 15 j) = _ ∧ (if j = pl_n P + k then _ else σ1.1 16 j) = _
          rw [if_neg (by omega), if_neg (by omega)]; exact e4 j hj
        · show (if j = pl_n P + k then nI 0 else σ1.1 15 j) = _ ∧ (if j = pl_n P + k then nI (1 <<< pl_k P k ||| 1 <<< (pl_n P + k)) else σ1.1 16 j) = _
          by_cases hj : j = pl_n P + k
          · rw [if_pos hj, if_pos hj, hj, pl_st, Nat.one_shiftLeft, Nat.one_shiftLeft, Nat.add_sub_cancel_left]
            exact ⟨rfl, rfl⟩
          · rw [if_neg hj, if_neg hj]; exact e5 j h1 (by omega)
  have L1 : ∀ f k (σ1 : aa_St), pl_n P - k < f → k ≤ pl_n P → σ1.2 = σ.2 → (∀ a, a ≠ 7 → a ≠ 15 → a ≠ 16 → σ1.1 a = σ.1 a) → (∀ j, j ≠ 15 → σ1.1 7 j = σ.1 7 j) → σ1.1 7 15 = nI (v + 1) → (∀ j, j < k → σ1.1 15 j = nI (pl_cl P j) ∧ σ1.1 16 j = nI 0) → aa_V mX6_settle 3 12 [some (.ref 7), some (.int (nI k))] [] σ1 Q := by
    intro f
    induction f with
    | zero => intro k σ1 g1; omega
    | succ f ih =>
      intro k σ1 g1 g2 e0 e1 e2 e3 e4
      have hW1 : aa_W r dy σ1 := by unfold aa_W; rw [e0]; exact hW
      have f1 : σ1.1 7 13 = nI (pl_n P) := (e2 13 (by decide)).trans a1
      refine aa_go (aa_iload1 iX6_settle_12) (aa_go (aa_aload0 iX6_settle_13) (aa_go (aa_getE iX6_settle_14 fl_X6_52 (sh_7 hW1) rfl f1) ?_))
      refine aa_ic_geN iX6_settle_17 (by omega) (by omega) (fun g3 => ?_) (fun g3 => ?_)
      · skip
        have e : k = pl_n P := by omega
        subst e
        refine aa_go (aa_iconst iX6_settle_49 ki_0) (aa_go (aa_istore1 iX6_settle_50 rfl (by decide)) ?_)
        exact L2 (pl_b P + 1) 0 σ1 (by omega) (by omega) e0 e1 e2 e3 e4 (fun j h1 h2 => by omega)
      · skip
        refine aa_go (aa_aload0 iX6_settle_20) (aa_go (aa_getR iX6_settle_21 fl_X6_33 (sh_7 hW1) rfl) (aa_go (aa_iload1 iX6_settle_24) (aa_go (aa_aload0 iX6_settle_25) (aa_go (aa_getR iX6_settle_26 fl_X6_21 (sh_7 hW1) rfl) (aa_go (aa_iload1 iX6_settle_29) (aa_go (aa_ialE iX6_settle_30 (sh_11 hW1) (by omega) (by omega) ((congrFun (e1 11 (by decide) (by decide) (by decide)) k).trans (a3 k g3).2.2.2.1)) (aa_go (aa_iconst iX6_settle_31 ki_1) ?_)))))))
        refine aa_go (aa_iload1 iX6_settle_32) (aa_go (aa_ishlN iX6_settle_33 (by omega)) (aa_go (aa_iorN iX6_settle_34 ) (aa_go (aa_iasN iX6_settle_35 (sh_15 hW1) (by omega) (by omega)) (aa_go (aa_aload0 iX6_settle_36) (aa_go (aa_getR iX6_settle_37 fl_X6_36 (sh_7 hW1) rfl) (aa_go (aa_iload1 iX6_settle_40) (aa_go (aa_iconst iX6_settle_41 ki_0) ?_)))))))
        refine aa_go (aa_iasN iX6_settle_42 (sh_16 hW1) (by omega) (by omega)) (aa_go (aa_iincN1 (k := 1) iX6_settle_43 rfl (by decide)) (aa_go (aa_goto iX6_settle_46) ?_))
        refine ih (k + 1) _ (by omega) (by omega) e0 (fun a h1 h2 h3 => Eq.trans (aa_u2_ne h3) ((aa_u2_ne h2).trans (e1 a h1 h2 h3))) e2 e3 (fun j hj => ?_)
        show (if j = k then nI (pl_ab P k ||| 1 <<< k) else σ1.1 15 j) = _ ∧ (if j = k then nI 0 else σ1.1 16 j) = _
        by_cases hj2 : j = k
        · rw [if_pos hj2, if_pos hj2, hj2, pl_cl, Nat.one_shiftLeft]
          exact ⟨rfl, rfl⟩
        · rw [if_neg hj2, if_neg hj2]; exact e4 j (by omega)
  have key : aa_V mX6_settle 3 0 [some (.ref 7), none] [] σ Q := by
    refine aa_go (aa_aload0 iX6_settle_0) (aa_go (aa_dup iX6_settle_1 rfl) (aa_go (aa_getE iX6_settle_2 fl_X6_58 (sh_7 hW) rfl hv) (aa_go (aa_iconst iX6_settle_5 ki_1) (aa_go (aa_iaddN iX6_settle_6 ) (aa_go (aa_putI iX6_settle_7 fl_X6_58 (fun h => nomatch h) (sh_7 hW) rfl ⟨rfl, rfl⟩) (aa_go (aa_iconst iX6_settle_10 ki_0) (aa_go (aa_istore1 iX6_settle_11 rfl (by decide)) ?_)))))))
    refine L1 (pl_n P + 1) 0 _ (by omega) (by omega) rfl (fun a h1 _ _ => aa_u2_ne h1) (fun j hj => ?_) rfl (fun j hj => by omega)
    show (if j = 15 then _ else σ.1 7 j) = _
    rw [if_neg hj]
  rw [← hQd] at key
  obtain ⟨r1, σ', ⟨rfl, h1⟩, hS⟩ := aa_S_of (avs := [.ref 7]) (by decide) 1 [some (.ref 7), none] rfl rfl key
  exact ⟨σ', h1, hS⟩
end
