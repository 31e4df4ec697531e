section
variable {r : Nat → Nat} {dy : List aa_Shp} {σ : aa_St}
theorem c_copy_20_57 (hW : aa_W r dy σ) : ∃ σ' : aa_St, (σ'.2 = σ.2 ∧ (∀ x, x ≠ 20 → x ≠ 21 → σ'.1 x = σ.1 x) ∧ (∀ k, k < 18 → σ'.1 21 k = σ.1 58 k) ∧ σ'.1 20 2 = σ.1 57 2 ∧ σ'.1 20 3 = σ.1 57 3 ∧ σ'.1 20 4 = σ.1 57 4) ∧ aa_SX mX2_copy 1 [.ref 20, .ref 57] σ none σ' := by
  have loop : ∀ f k (σ1 : aa_St), 18 - k < f → k ≤ 18 → σ1.2 = σ.2 → (∀ x, x ≠ 21 → σ1.1 x = σ.1 x) → (∀ j, j < k → σ1.1 21 j = σ.1 58 j) → aa_V mX2_copy 1 2 [some (.ref 20), some (.ref 57), some (.int (nI k))] [] σ1 (fun r1 σ' => r1 = none ∧ (σ'.2 = σ.2 ∧ (∀ x, x ≠ 20 → x ≠ 21 → σ'.1 x = σ.1 x) ∧ (∀ k, k < 18 → σ'.1 21 k = σ.1 58 k) ∧ σ'.1 20 2 = σ.1 57 2 ∧ σ'.1 20 3 = σ.1 57 3 ∧ σ'.1 20 4 = σ.1 57 4)) := by
    intro f
    induction f with
    | zero => intro k σ1 g1; omega
    | succ f ih =>
      intro k σ1 g1 g2 e0 e1 e2
      have hW1 : aa_W r dy σ1 := by unfold aa_W; rw [e0]; exact hW
      refine aa_go (aa_iload2 iX2_copy_2) (aa_go (aa_aload0 iX2_copy_3) (aa_go (aa_getR iX2_copy_4 fl_X2_9 (sh_20 hW1) rfl) (aa_go (aa_alen iX2_copy_7 (sh_21 hW1) (by decide)) ?_)))
      refine aa_ic_geN iX2_copy_8 (by omega) (by omega) (fun h1 => ?_) (fun h1 => ?_)
      · skip
        have hk : k = 18 := by omega
        subst hk
        refine aa_go (aa_aload0 iX2_copy_29) (aa_go (aa_aload1 iX2_copy_30) (aa_go (aa_getI iX2_copy_31 fl_X2_15 (sh_57 hW1) rfl) (aa_go (aa_putI iX2_copy_34 fl_X2_15 (fun h => nomatch h) (sh_20 hW1) rfl ⟨rfl, rfl⟩) (aa_go (aa_aload0 iX2_copy_37) (aa_go (aa_aload1 iX2_copy_38) (aa_go (aa_getI iX2_copy_39 fl_X2_19 (sh_57 hW1) rfl) (aa_go (aa_putI iX2_copy_42 fl_X2_19 (fun h => nomatch h) (sh_20 hW1) rfl ⟨rfl, rfl⟩) ?_)))))))
        refine aa_go (aa_aload0 iX2_copy_45) (aa_go (aa_aload1 iX2_copy_46) (aa_go (aa_getI iX2_copy_47 fl_X2_22 (sh_57 hW1) rfl) (aa_go (aa_putI iX2_copy_50 fl_X2_22 (fun h => nomatch h) (sh_20 hW1) rfl ⟨rfl, rfl⟩) ?_)))
        refine aa_vret iX2_copy_53 rfl ?_
        refine ⟨rfl, e0, fun x h1 h2 => Eq.trans (aa_u2_ne h1) (Eq.trans (aa_u2_ne h1) (Eq.trans (aa_u2_ne h1) (e1 x h2))), e2, ?_, ?_, ?_⟩
        · exact congrFun (e1 57 (by decide)) 2
        · exact congrFun (e1 57 (by decide)) 3
        · exact congrFun (e1 57 (by decide)) 4
      · skip
        refine aa_go (aa_aload0 iX2_copy_11) (aa_go (aa_getR iX2_copy_12 fl_X2_9 (sh_20 hW1) rfl) (aa_go (aa_iload2 iX2_copy_15) (aa_go (aa_aload1 iX2_copy_16) (aa_go (aa_getR iX2_copy_17 fl_X2_9 (sh_57 hW1) rfl) (aa_go (aa_iload2 iX2_copy_20) (aa_go (aa_ialN iX2_copy_21 (sh_58 hW1) (by omega) (by omega)) (aa_go (aa_iasN iX2_copy_22 (sh_21 hW1) (by omega) (by omega)) ?_)))))))
        refine aa_go (aa_iincN2 (k := 1) iX2_copy_23 rfl (by decide)) (aa_go (aa_goto iX2_copy_26) ?_)
        refine ih (k + 1) _ (by omega) (by omega) e0 (fun x h1 => (aa_u2_ne h1).trans (e1 x h1)) (fun j hj => ?_)
        show (if j = k then σ1.1 58 k else σ1.1 21 j) = _
        by_cases hj2 : j = k
        · rw [if_pos hj2, hj2]; exact congrFun (e1 58 (by decide)) k
        · rw [if_neg hj2]; exact e2 j (by omega)
  have key : aa_V mX2_copy 1 0 [some (.ref 20), some (.ref 57), none] [] σ (fun r1 σ' => r1 = none ∧ (σ'.2 = σ.2 ∧ (∀ x, x ≠ 20 → x ≠ 21 → σ'.1 x = σ.1 x) ∧ (∀ k, k < 18 → σ'.1 21 k = σ.1 58 k) ∧ σ'.1 20 2 = σ.1 57 2 ∧ σ'.1 20 3 = σ.1 57 3 ∧ σ'.1 20 4 = σ.1 57 4)) := by
    refine aa_go (aa_iconst iX2_copy_0 ki_0) (aa_go (aa_istore2 iX2_copy_1 rfl (by decide)) ?_)
    exact loop 19 0 σ (by omega) (by omega) rfl (fun _ _ => rfl) (fun j hj => by omega)
  obtain ⟨r1, σ', ⟨rfl, h1⟩, hS⟩ := aa_S_of (avs := [.ref 20, .ref 57]) (by decide) 1 [some (.ref 20), some (.ref 57), none] rfl rfl key
  exact ⟨σ', h1, hS⟩
theorem c_copy_20_59 (hW : aa_W r dy σ) : ∃ σ' : aa_St, (σ'.2 = σ.2 ∧ (∀ x, x ≠ 20 → x ≠ 21 → σ'.1 x = σ.1 x) ∧ (∀ k, k < 18 → σ'.1 21 k = σ.1 60 k) ∧ σ'.1 20 2 = σ.1 59 2 ∧ σ'.1 20 3 = σ.1 59 3 ∧ σ'.1 20 4 = σ.1 59 4) ∧ aa_SX mX2_copy 1 [.ref 20, .ref 59] σ none σ' := by
  have loop : ∀ f k (σ1 : aa_St), 18 - k < f → k ≤ 18 → σ1.2 = σ.2 → (∀ x, x ≠ 21 → σ1.1 x = σ.1 x) → (∀ j, j < k → σ1.1 21 j = σ.1 60 j) → aa_V mX2_copy 1 2 [some (.ref 20), some (.ref 59), some (.int (nI k))] [] σ1 (fun r1 σ' => r1 = none ∧ (σ'.2 = σ.2 ∧ (∀ x, x ≠ 20 → x ≠ 21 → σ'.1 x = σ.1 x) ∧ (∀ k, k < 18 → σ'.1 21 k = σ.1 60 k) ∧ σ'.1 20 2 = σ.1 59 2 ∧ σ'.1 20 3 = σ.1 59 3 ∧ σ'.1 20 4 = σ.1 59 4)) := by
    intro f
    induction f with
    | zero => intro k σ1 g1; omega
    | succ f ih =>
      intro k σ1 g1 g2 e0 e1 e2
      have hW1 : aa_W r dy σ1 := by unfold aa_W; rw [e0]; exact hW
      refine aa_go (aa_iload2 iX2_copy_2) (aa_go (aa_aload0 iX2_copy_3) (aa_go (aa_getR iX2_copy_4 fl_X2_9 (sh_20 hW1) rfl) (aa_go (aa_alen iX2_copy_7 (sh_21 hW1) (by decide)) ?_)))
      refine aa_ic_geN iX2_copy_8 (by omega) (by omega) (fun h1 => ?_) (fun h1 => ?_)
      · skip
        have hk : k = 18 := by omega
        subst hk
        refine aa_go (aa_aload0 iX2_copy_29) (aa_go (aa_aload1 iX2_copy_30) (aa_go (aa_getI iX2_copy_31 fl_X2_15 (sh_59 hW1) rfl) (aa_go (aa_putI iX2_copy_34 fl_X2_15 (fun h => nomatch h) (sh_20 hW1) rfl ⟨rfl, rfl⟩) (aa_go (aa_aload0 iX2_copy_37) (aa_go (aa_aload1 iX2_copy_38) (aa_go (aa_getI iX2_copy_39 fl_X2_19 (sh_59 hW1) rfl) (aa_go (aa_putI iX2_copy_42 fl_X2_19 (fun h => nomatch h) (sh_20 hW1) rfl ⟨rfl, rfl⟩) ?_)))))))
        refine aa_go (aa_aload0 iX2_copy_45) (aa_go (aa_aload1 iX2_copy_46) (aa_go (aa_getI iX2_copy_47 fl_X2_22 (sh_59 hW1) rfl) (aa_go (aa_putI iX2_copy_50 fl_X2_22 (fun h => nomatch h) (sh_20 hW1) rfl ⟨rfl, rfl⟩) ?_)))
        refine aa_vret iX2_copy_53 rfl ?_
        refine ⟨rfl, e0, fun x h1 h2 => Eq.trans (aa_u2_ne h1) (Eq.trans (aa_u2_ne h1) (Eq.trans (aa_u2_ne h1) (e1 x h2))), e2, ?_, ?_, ?_⟩
        · exact congrFun (e1 59 (by decide)) 2
        · exact congrFun (e1 59 (by decide)) 3
        · exact congrFun (e1 59 (by decide)) 4
      · skip
        refine aa_go (aa_aload0 iX2_copy_11) (aa_go (aa_getR iX2_copy_12 fl_X2_9 (sh_20 hW1) rfl) (aa_go (aa_iload2 iX2_copy_15) (aa_go (aa_aload1 iX2_copy_16) (aa_go (aa_getR iX2_copy_17 fl_X2_9 (sh_59 hW1) rfl) (aa_go (aa_iload2 iX2_copy_20) (aa_go (aa_ialN iX2_copy_21 (sh_60 hW1) (by omega) (by omega)) (aa_go (aa_iasN iX2_copy_22 (sh_21 hW1) (by omega) (by omega)) ?_)))))))
        refine aa_go (aa_iincN2 (k := 1) iX2_copy_23 rfl (by decide)) (aa_go (aa_goto iX2_copy_26) ?_)
        refine ih (k + 1) _ (by omega) (by omega) e0 (fun x h1 => (aa_u2_ne h1).trans (e1 x h1)) (fun j hj => ?_)
        show (if j = k then σ1.1 60 k else σ1.1 21 j) = _
        by_cases hj2 : j = k
        · rw [if_pos hj2, hj2]; exact congrFun (e1 60 (by decide)) k
        · rw [if_neg hj2]; exact e2 j (by omega)
  have key : aa_V mX2_copy 1 0 [some (.ref 20), some (.ref 59), none] [] σ (fun r1 σ' => r1 = none ∧ (σ'.2 = σ.2 ∧ (∀ x, x ≠ 20 → x ≠ 21 → σ'.1 x = σ.1 x) ∧ (∀ k, k < 18 → σ'.1 21 k = σ.1 60 k) ∧ σ'.1 20 2 = σ.1 59 2 ∧ σ'.1 20 3 = σ.1 59 3 ∧ σ'.1 20 4 = σ.1 59 4)) := by
    refine aa_go (aa_iconst iX2_copy_0 ki_0) (aa_go (aa_istore2 iX2_copy_1 rfl (by decide)) ?_)
    exact loop 19 0 σ (by omega) (by omega) rfl (fun _ _ => rfl) (fun j hj => by omega)
  obtain ⟨r1, σ', ⟨rfl, h1⟩, hS⟩ := aa_S_of (avs := [.ref 20, .ref 59]) (by decide) 1 [some (.ref 20), some (.ref 59), none] rfl rfl key
  exact ⟨σ', h1, hS⟩
theorem c_copy_20_61 (hW : aa_W r dy σ) : ∃ σ' : aa_St, (σ'.2 = σ.2 ∧ (∀ x, x ≠ 20 → x ≠ 21 → σ'.1 x = σ.1 x) ∧ (∀ k, k < 18 → σ'.1 21 k = σ.1 62 k) ∧ σ'.1 20 2 = σ.1 61 2 ∧ σ'.1 20 3 = σ.1 61 3 ∧ σ'.1 20 4 = σ.1 61 4) ∧ aa_SX mX2_copy 1 [.ref 20, .ref 61] σ none σ' := by
  have loop : ∀ f k (σ1 : aa_St), 18 - k < f → k ≤ 18 → σ1.2 = σ.2 → (∀ x, x ≠ 21 → σ1.1 x = σ.1 x) → (∀ j, j < k → σ1.1 21 j = σ.1 62 j) → aa_V mX2_copy 1 2 [some (.ref 20), some (.ref 61), some (.int (nI k))] [] σ1 (fun r1 σ' => r1 = none ∧ (σ'.2 = σ.2 ∧ (∀ x, x ≠ 20 → x ≠ 21 → σ'.1 x = σ.1 x) ∧ (∀ k, k < 18 → σ'.1 21 k = σ.1 62 k) ∧ σ'.1 20 2 = σ.1 61 2 ∧ σ'.1 20 3 = σ.1 61 3 ∧ σ'.1 20 4 = σ.1 61 4)) := by
    intro f
    induction f with
    | zero => intro k σ1 g1; omega
    | succ f ih =>
      intro k σ1 g1 g2 e0 e1 e2
      have hW1 : aa_W r dy σ1 := by unfold aa_W; rw [e0]; exact hW
      refine aa_go (aa_iload2 iX2_copy_2) (aa_go (aa_aload0 iX2_copy_3) (aa_go (aa_getR iX2_copy_4 fl_X2_9 (sh_20 hW1) rfl) (aa_go (aa_alen iX2_copy_7 (sh_21 hW1) (by decide)) ?_)))
      refine aa_ic_geN iX2_copy_8 (by omega) (by omega) (fun h1 => ?_) (fun h1 => ?_)
      · skip
        have hk : k = 18 := by omega
        subst hk
        refine aa_go (aa_aload0 iX2_copy_29) (aa_go (aa_aload1 iX2_copy_30) (aa_go (aa_getI iX2_copy_31 fl_X2_15 (sh_61 hW1) rfl) (aa_go (aa_putI iX2_copy_34 fl_X2_15 (fun h => nomatch h) (sh_20 hW1) rfl ⟨rfl, rfl⟩) (aa_go (aa_aload0 iX2_copy_37) (aa_go (aa_aload1 iX2_copy_38) (aa_go (aa_getI iX2_copy_39 fl_X2_19 (sh_61 hW1) rfl) (aa_go (aa_putI iX2_copy_42 fl_X2_19 (fun h => nomatch h) (sh_20 hW1) rfl ⟨rfl, rfl⟩) ?_)))))))
        refine aa_go (aa_aload0 iX2_copy_45) (aa_go (aa_aload1 iX2_copy_46) (aa_go (aa_getI iX2_copy_47 fl_X2_22 (sh_61 hW1) rfl) (aa_go (aa_putI iX2_copy_50 fl_X2_22 (fun h => nomatch h) (sh_20 hW1) rfl ⟨rfl, rfl⟩) ?_)))
        refine aa_vret iX2_copy_53 rfl ?_
        refine ⟨rfl, e0, fun x h1 h2 => Eq.trans (aa_u2_ne h1) (Eq.trans (aa_u2_ne h1) (Eq.trans (aa_u2_ne h1) (e1 x h2))), e2, ?_, ?_, ?_⟩
        · exact congrFun (e1 61 (by decide)) 2
        · exact congrFun (e1 61 (by decide)) 3
        · exact congrFun (e1 61 (by decide)) 4
      · skip
        refine aa_go (aa_aload0 iX2_copy_11) (aa_go (aa_getR iX2_copy_12 fl_X2_9 (sh_20 hW1) rfl) (aa_go (aa_iload2 iX2_copy_15) (aa_go (aa_aload1 iX2_copy_16) (aa_go (aa_getR iX2_copy_17 fl_X2_9 (sh_61 hW1) rfl) (aa_go (aa_iload2 iX2_copy_20) (aa_go (aa_ialN iX2_copy_21 (sh_62 hW1) (by omega) (by omega)) (aa_go (aa_iasN iX2_copy_22 (sh_21 hW1) (by omega) (by omega)) ?_)))))))
        refine aa_go (aa_iincN2 (k := 1) iX2_copy_23 rfl (by decide)) (aa_go (aa_goto iX2_copy_26) ?_)
        refine ih (k + 1) _ (by omega) (by omega) e0 (fun x h1 => (aa_u2_ne h1).trans (e1 x h1)) (fun j hj => ?_)
        show (if j = k then σ1.1 62 k else σ1.1 21 j) = _
        by_cases hj2 : j = k
        · rw [if_pos hj2, hj2]; exact congrFun (e1 62 (by decide)) k
        · rw [if_neg hj2]; exact e2 j (by omega)
  have key : aa_V mX2_copy 1 0 [some (.ref 20), some (.ref 61), none] [] σ (fun r1 σ' => r1 = none ∧ (σ'.2 = σ.2 ∧ (∀ x, x ≠ 20 → x ≠ 21 → σ'.1 x = σ.1 x) ∧ (∀ k, k < 18 → σ'.1 21 k = σ.1 62 k) ∧ σ'.1 20 2 = σ.1 61 2 ∧ σ'.1 20 3 = σ.1 61 3 ∧ σ'.1 20 4 = σ.1 61 4)) := by
    refine aa_go (aa_iconst iX2_copy_0 ki_0) (aa_go (aa_istore2 iX2_copy_1 rfl (by decide)) ?_)
    exact loop 19 0 σ (by omega) (by omega) rfl (fun _ _ => rfl) (fun j hj => by omega)
  obtain ⟨r1, σ', ⟨rfl, h1⟩, hS⟩ := aa_S_of (avs := [.ref 20, .ref 61]) (by decide) 1 [some (.ref 20), some (.ref 61), none] rfl rfl key
  exact ⟨σ', h1, hS⟩
theorem c_copy_57_20 (hW : aa_W r dy σ) : ∃ σ' : aa_St, (σ'.2 = σ.2 ∧ (∀ x, x ≠ 57 → x ≠ 58 → σ'.1 x = σ.1 x) ∧ (∀ k, k < 18 → σ'.1 58 k = σ.1 21 k) ∧ σ'.1 57 2 = σ.1 20 2 ∧ σ'.1 57 3 = σ.1 20 3 ∧ σ'.1 57 4 = σ.1 20 4) ∧ aa_SX mX2_copy 1 [.ref 57, .ref 20] σ none σ' := by
  have loop : ∀ f k (σ1 : aa_St), 18 - k < f → k ≤ 18 → σ1.2 = σ.2 → (∀ x, x ≠ 58 → σ1.1 x = σ.1 x) → (∀ j, j < k → σ1.1 58 j = σ.1 21 j) → aa_V mX2_copy 1 2 [some (.ref 57), some (.ref 20), some (.int (nI k))] [] σ1 (fun r1 σ' => r1 = none ∧ (σ'.2 = σ.2 ∧ (∀ x, x ≠ 57 → x ≠ 58 → σ'.1 x = σ.1 x) ∧ (∀ k, k < 18 → σ'.1 58 k = σ.1 21 k) ∧ σ'.1 57 2 = σ.1 20 2 ∧ σ'.1 57 3 = σ.1 20 3 ∧ σ'.1 57 4 = σ.1 20 4)) := by
    intro f
    induction f with
    | zero => intro k σ1 g1; omega
    | succ f ih =>
      intro k σ1 g1 g2 e0 e1 e2
      have hW1 : aa_W r dy σ1 := by unfold aa_W; rw [e0]; exact hW
      refine aa_go (aa_iload2 iX2_copy_2) (aa_go (aa_aload0 iX2_copy_3) (aa_go (aa_getR iX2_copy_4 fl_X2_9 (sh_57 hW1) rfl) (aa_go (aa_alen iX2_copy_7 (sh_58 hW1) (by decide)) ?_)))
      refine aa_ic_geN iX2_copy_8 (by omega) (by omega) (fun h1 => ?_) (fun h1 => ?_)
      · skip
        have hk : k = 18 := by omega
        subst hk
        refine aa_go (aa_aload0 iX2_copy_29) (aa_go (aa_aload1 iX2_copy_30) (aa_go (aa_getI iX2_copy_31 fl_X2_15 (sh_20 hW1) rfl) (aa_go (aa_putI iX2_copy_34 fl_X2_15 (fun h => nomatch h) (sh_57 hW1) rfl ⟨rfl, rfl⟩) (aa_go (aa_aload0 iX2_copy_37) (aa_go (aa_aload1 iX2_copy_38) (aa_go (aa_getI iX2_copy_39 fl_X2_19 (sh_20 hW1) rfl) (aa_go (aa_putI iX2_copy_42 fl_X2_19 (fun h => nomatch h) (sh_57 hW1) rfl ⟨rfl, rfl⟩) ?_)))))))
        refine aa_go (aa_aload0 iX2_copy_45) (aa_go (aa_aload1 iX2_copy_46) (aa_go (aa_getI iX2_copy_47 fl_X2_22 (sh_20 hW1) rfl) (aa_go (aa_putI iX2_copy_50 fl_X2_22 (fun h => nomatch h) (sh_57 hW1) rfl ⟨rfl, rfl⟩) ?_)))
        refine aa_vret iX2_copy_53 rfl ?_
        refine ⟨rfl, e0, fun x h1 h2 => Eq.trans (aa_u2_ne h1) (Eq.trans (aa_u2_ne h1) (Eq.trans (aa_u2_ne h1) (e1 x h2))), e2, ?_, ?_, ?_⟩
        · exact congrFun (e1 20 (by decide)) 2
        · exact congrFun (e1 20 (by decide)) 3
        · exact congrFun (e1 20 (by decide)) 4
      · skip
        refine aa_go (aa_aload0 iX2_copy_11) (aa_go (aa_getR iX2_copy_12 fl_X2_9 (sh_57 hW1) rfl) (aa_go (aa_iload2 iX2_copy_15) (aa_go (aa_aload1 iX2_copy_16) (aa_go (aa_getR iX2_copy_17 fl_X2_9 (sh_20 hW1) rfl) (aa_go (aa_iload2 iX2_copy_20) (aa_go (aa_ialN iX2_copy_21 (sh_21 hW1) (by omega) (by omega)) (aa_go (aa_iasN iX2_copy_22 (sh_58 hW1) (by omega) (by omega)) ?_)))))))
        refine aa_go (aa_iincN2 (k := 1) iX2_copy_23 rfl (by decide)) (aa_go (aa_goto iX2_copy_26) ?_)
        refine ih (k + 1) _ (by omega) (by omega) e0 (fun x h1 => (aa_u2_ne h1).trans (e1 x h1)) (fun j hj => ?_)
        show (if j = k then σ1.1 21 k else σ1.1 58 j) = _
        by_cases hj2 : j = k
        · rw [if_pos hj2, hj2]; exact congrFun (e1 21 (by decide)) k
        · rw [if_neg hj2]; exact e2 j (by omega)
  have key : aa_V mX2_copy 1 0 [some (.ref 57), some (.ref 20), none] [] σ (fun r1 σ' => r1 = none ∧ (σ'.2 = σ.2 ∧ (∀ x, x ≠ 57 → x ≠ 58 → σ'.1 x = σ.1 x) ∧ (∀ k, k < 18 → σ'.1 58 k = σ.1 21 k) ∧ σ'.1 57 2 = σ.1 20 2 ∧ σ'.1 57 3 = σ.1 20 3 ∧ σ'.1 57 4 = σ.1 20 4)) := by
    refine aa_go (aa_iconst iX2_copy_0 ki_0) (aa_go (aa_istore2 iX2_copy_1 rfl (by decide)) ?_)
    exact loop 19 0 σ (by omega) (by omega) rfl (fun _ _ => rfl) (fun j hj => by omega)
  obtain ⟨r1, σ', ⟨rfl, h1⟩, hS⟩ := aa_S_of (avs := [.ref 57, .ref 20]) (by decide) 1 [some (.ref 57), some (.ref 20), none] rfl rfl key
  exact ⟨σ', h1, hS⟩
theorem c_copy_59_20 (hW : aa_W r dy σ) : ∃ σ' : aa_St, (σ'.2 = σ.2 ∧ (∀ x, x ≠ 59 → x ≠ 60 → σ'.1 x = σ.1 x) ∧ (∀ k, k < 18 → σ'.1 60 k = σ.1 21 k) ∧ σ'.1 59 2 = σ.1 20 2 ∧ σ'.1 59 3 = σ.1 20 3 ∧ σ'.1 59 4 = σ.1 20 4) ∧ aa_SX mX2_copy 1 [.ref 59, .ref 20] σ none σ' := by
  have loop : ∀ f k (σ1 : aa_St), 18 - k < f → k ≤ 18 → σ1.2 = σ.2 → (∀ x, x ≠ 60 → σ1.1 x = σ.1 x) → (∀ j, j < k → σ1.1 60 j = σ.1 21 j) → aa_V mX2_copy 1 2 [some (.ref 59), some (.ref 20), some (.int (nI k))] [] σ1 (fun r1 σ' => r1 = none ∧ (σ'.2 = σ.2 ∧ (∀ x, x ≠ 59 → x ≠ 60 → σ'.1 x = σ.1 x) ∧ (∀ k, k < 18 → σ'.1 60 k = σ.1 21 k) ∧ σ'.1 59 2 = σ.1 20 2 ∧ σ'.1 59 3 = σ.1 20 3 ∧ σ'.1 59 4 = σ.1 20 4)) := by
    intro f
    induction f with
    | zero => intro k σ1 g1; omega
    | succ f ih =>
      intro k σ1 g1 g2 e0 e1 e2
      have hW1 : aa_W r dy σ1 := by unfold aa_W; rw [e0]; exact hW
      refine aa_go (aa_iload2 iX2_copy_2) (aa_go (aa_aload0 iX2_copy_3) (aa_go (aa_getR iX2_copy_4 fl_X2_9 (sh_59 hW1) rfl) (aa_go (aa_alen iX2_copy_7 (sh_60 hW1) (by decide)) ?_)))
      refine aa_ic_geN iX2_copy_8 (by omega) (by omega) (fun h1 => ?_) (fun h1 => ?_)
      · skip
        have hk : k = 18 := by omega
        subst hk
        refine aa_go (aa_aload0 iX2_copy_29) (aa_go (aa_aload1 iX2_copy_30) (aa_go (aa_getI iX2_copy_31 fl_X2_15 (sh_20 hW1) rfl) (aa_go (aa_putI iX2_copy_34 fl_X2_15 (fun h => nomatch h) (sh_59 hW1) rfl ⟨rfl, rfl⟩) (aa_go (aa_aload0 iX2_copy_37) (aa_go (aa_aload1 iX2_copy_38) (aa_go (aa_getI iX2_copy_39 fl_X2_19 (sh_20 hW1) rfl) (aa_go (aa_putI iX2_copy_42 fl_X2_19 (fun h => nomatch h) (sh_59 hW1) rfl ⟨rfl, rfl⟩) ?_)))))))
        refine aa_go (aa_aload0 iX2_copy_45) (aa_go (aa_aload1 iX2_copy_46) (aa_go (aa_getI iX2_copy_47 fl_X2_22 (sh_20 hW1) rfl) (aa_go (aa_putI iX2_copy_50 fl_X2_22 (fun h => nomatch h) (sh_59 hW1) rfl ⟨rfl, rfl⟩) ?_)))
        refine aa_vret iX2_copy_53 rfl ?_
        refine ⟨rfl, e0, fun x h1 h2 => Eq.trans (aa_u2_ne h1) (Eq.trans (aa_u2_ne h1) (Eq.trans (aa_u2_ne h1) (e1 x h2))), e2, ?_, ?_, ?_⟩
        · exact congrFun (e1 20 (by decide)) 2
        · exact congrFun (e1 20 (by decide)) 3
        · exact congrFun (e1 20 (by decide)) 4
      · skip
        refine aa_go (aa_aload0 iX2_copy_11) (aa_go (aa_getR iX2_copy_12 fl_X2_9 (sh_59 hW1) rfl) (aa_go (aa_iload2 iX2_copy_15) (aa_go (aa_aload1 iX2_copy_16) (aa_go (aa_getR iX2_copy_17 fl_X2_9 (sh_20 hW1) rfl) (aa_go (aa_iload2 iX2_copy_20) (aa_go (aa_ialN iX2_copy_21 (sh_21 hW1) (by omega) (by omega)) (aa_go (aa_iasN iX2_copy_22 (sh_60 hW1) (by omega) (by omega)) ?_)))))))
        refine aa_go (aa_iincN2 (k := 1) iX2_copy_23 rfl (by decide)) (aa_go (aa_goto iX2_copy_26) ?_)
        refine ih (k + 1) _ (by omega) (by omega) e0 (fun x h1 => (aa_u2_ne h1).trans (e1 x h1)) (fun j hj => ?_)
        show (if j = k then σ1.1 21 k else σ1.1 60 j) = _
        by_cases hj2 : j = k
        · rw [if_pos hj2, hj2]; exact congrFun (e1 21 (by decide)) k
        · rw [if_neg hj2]; exact e2 j (by omega)
  have key : aa_V mX2_copy 1 0 [some (.ref 59), some (.ref 20), none] [] σ (fun r1 σ' => r1 = none ∧ (σ'.2 = σ.2 ∧ (∀ x, x ≠ 59 → x ≠ 60 → σ'.1 x = σ.1 x) ∧ (∀ k, k < 18 → σ'.1 60 k = σ.1 21 k) ∧ σ'.1 59 2 = σ.1 20 2 ∧ σ'.1 59 3 = σ.1 20 3 ∧ σ'.1 59 4 = σ.1 20 4)) := by
    refine aa_go (aa_iconst iX2_copy_0 ki_0) (aa_go (aa_istore2 iX2_copy_1 rfl (by decide)) ?_)
    exact loop 19 0 σ (by omega) (by omega) rfl (fun _ _ => rfl) (fun j hj => by omega)
  obtain ⟨r1, σ', ⟨rfl, h1⟩, hS⟩ := aa_S_of (avs := [.ref 59, .ref 20]) (by decide) 1 [some (.ref 59), some (.ref 20), none] rfl rfl key
  exact ⟨σ', h1, hS⟩
theorem c_copy_61_20 (hW : aa_W r dy σ) : ∃ σ' : aa_St, (σ'.2 = σ.2 ∧ (∀ x, x ≠ 61 → x ≠ 62 → σ'.1 x = σ.1 x) ∧ (∀ k, k < 18 → σ'.1 62 k = σ.1 21 k) ∧ σ'.1 61 2 = σ.1 20 2 ∧ σ'.1 61 3 = σ.1 20 3 ∧ σ'.1 61 4 = σ.1 20 4) ∧ aa_SX mX2_copy 1 [.ref 61, .ref 20] σ none σ' := by
  have loop : ∀ f k (σ1 : aa_St), 18 - k < f → k ≤ 18 → σ1.2 = σ.2 → (∀ x, x ≠ 62 → σ1.1 x = σ.1 x) → (∀ j, j < k → σ1.1 62 j = σ.1 21 j) → aa_V mX2_copy 1 2 [some (.ref 61), some (.ref 20), some (.int (nI k))] [] σ1 (fun r1 σ' => r1 = none ∧ (σ'.2 = σ.2 ∧ (∀ x, x ≠ 61 → x ≠ 62 → σ'.1 x = σ.1 x) ∧ (∀ k, k < 18 → σ'.1 62 k = σ.1 21 k) ∧ σ'.1 61 2 = σ.1 20 2 ∧ σ'.1 61 3 = σ.1 20 3 ∧ σ'.1 61 4 = σ.1 20 4)) := by
    intro f
    induction f with
    | zero => intro k σ1 g1; omega
    | succ f ih =>
      intro k σ1 g1 g2 e0 e1 e2
      have hW1 : aa_W r dy σ1 := by unfold aa_W; rw [e0]; exact hW
      refine aa_go (aa_iload2 iX2_copy_2) (aa_go (aa_aload0 iX2_copy_3) (aa_go (aa_getR iX2_copy_4 fl_X2_9 (sh_61 hW1) rfl) (aa_go (aa_alen iX2_copy_7 (sh_62 hW1) (by decide)) ?_)))
      refine aa_ic_geN iX2_copy_8 (by omega) (by omega) (fun h1 => ?_) (fun h1 => ?_)
      · skip
        have hk : k = 18 := by omega
        subst hk
        refine aa_go (aa_aload0 iX2_copy_29) (aa_go (aa_aload1 iX2_copy_30) (aa_go (aa_getI iX2_copy_31 fl_X2_15 (sh_20 hW1) rfl) (aa_go (aa_putI iX2_copy_34 fl_X2_15 (fun h => nomatch h) (sh_61 hW1) rfl ⟨rfl, rfl⟩) (aa_go (aa_aload0 iX2_copy_37) (aa_go (aa_aload1 iX2_copy_38) (aa_go (aa_getI iX2_copy_39 fl_X2_19 (sh_20 hW1) rfl) (aa_go (aa_putI iX2_copy_42 fl_X2_19 (fun h => nomatch h) (sh_61 hW1) rfl ⟨rfl, rfl⟩) ?_)))))))
        refine aa_go (aa_aload0 iX2_copy_45) (aa_go (aa_aload1 iX2_copy_46) (aa_go (aa_getI iX2_copy_47 fl_X2_22 (sh_20 hW1) rfl) (aa_go (aa_putI iX2_copy_50 fl_X2_22 (fun h => nomatch h) (sh_61 hW1) rfl ⟨rfl, rfl⟩) ?_)))
        refine aa_vret iX2_copy_53 rfl ?_
        refine ⟨rfl, e0, fun x h1 h2 => Eq.trans (aa_u2_ne h1) (Eq.trans (aa_u2_ne h1) (Eq.trans (aa_u2_ne h1) (e1 x h2))), e2, ?_, ?_, ?_⟩
        · exact congrFun (e1 20 (by decide)) 2
        · exact congrFun (e1 20 (by decide)) 3
        · exact congrFun (e1 20 (by decide)) 4
      · skip
        refine aa_go (aa_aload0 iX2_copy_11) (aa_go (aa_getR iX2_copy_12 fl_X2_9 (sh_61 hW1) rfl) (aa_go (aa_iload2 iX2_copy_15) (aa_go (aa_aload1 iX2_copy_16) (aa_go (aa_getR iX2_copy_17 fl_X2_9 (sh_20 hW1) rfl) (aa_go (aa_iload2 iX2_copy_20) (aa_go (aa_ialN iX2_copy_21 (sh_21 hW1) (by omega) (by omega)) (aa_go (aa_iasN iX2_copy_22 (sh_62 hW1) (by omega) (by omega)) ?_)))))))
        refine aa_go (aa_iincN2 (k := 1) iX2_copy_23 rfl (by decide)) (aa_go (aa_goto iX2_copy_26) ?_)
        refine ih (k + 1) _ (by omega) (by omega) e0 (fun x h1 => (aa_u2_ne h1).trans (e1 x h1)) (fun j hj => ?_)
        show (if j = k then σ1.1 21 k else σ1.1 62 j) = _
        by_cases hj2 : j = k
        · rw [if_pos hj2, hj2]; exact congrFun (e1 21 (by decide)) k
        · rw [if_neg hj2]; exact e2 j (by omega)
  have key : aa_V mX2_copy 1 0 [some (.ref 61), some (.ref 20), none] [] σ (fun r1 σ' => r1 = none ∧ (σ'.2 = σ.2 ∧ (∀ x, x ≠ 61 → x ≠ 62 → σ'.1 x = σ.1 x) ∧ (∀ k, k < 18 → σ'.1 62 k = σ.1 21 k) ∧ σ'.1 61 2 = σ.1 20 2 ∧ σ'.1 61 3 = σ.1 20 3 ∧ σ'.1 61 4 = σ.1 20 4)) := by
    refine aa_go (aa_iconst iX2_copy_0 ki_0) (aa_go (aa_istore2 iX2_copy_1 rfl (by decide)) ?_)
    exact loop 19 0 σ (by omega) (by omega) rfl (fun _ _ => rfl) (fun j hj => by omega)
  obtain ⟨r1, σ', ⟨rfl, h1⟩, hS⟩ := aa_S_of (avs := [.ref 61, .ref 20]) (by decide) 1 [some (.ref 61), some (.ref 20), none] rfl rfl key
  exact ⟨σ', h1, hS⟩
end
