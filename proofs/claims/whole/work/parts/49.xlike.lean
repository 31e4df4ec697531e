/-! PARROTS: who likes whom -/
def nx3 (i : Nat) : Nat := if i = 2 then 0 else i + 1
def lkd (lk h k : Nat) : Nat := if k = h then 0 else if decide (k = nx3 h) = !lk.testBit h then 2 else 1
def lks (lk h k : Nat) : Nat := if k = nx3 h then bd lk (2 ^ h) else lk ||| 2 ^ h
section
variable {r : Nat → Nat} {dy : List aa_Shp} {σ : aa_St}
theorem nx3_le {i : Nat} (h : i ≤ 2) : nx3 i ≤ 2 := by unfold nx3; split <;> omega
theorem c_X5_next {i : Nat} (hi : i ≤ 2) : aa_SX mX5_next 1 [.int (nI i)] σ (some (.int (nI (nx3 i)))) σ := by
  have key : aa_V mX5_next 1 0 [some (.int (nI i))] [] σ (fun ra σ' => ra = some (.int (nI (nx3 i))) ∧ σ' = σ) := by
    refine aa_go (aa_iload0 iX5_next_0) (aa_go (aa_iconst iX5_next_1 ki_2) ?_)
    refine aa_ic_neN iX5_next_2 (by omega) (by omega) (fun h1 => ?_) (fun h1 => ?_)
    · skip
      refine aa_go (aa_iload0 iX5_next_9) (aa_go (aa_iconst iX5_next_10 ki_1) (aa_go (aa_iaddN iX5_next_11 ) ?_))
      refine aa_iret iX5_next_12 rfl ?_
      exact ⟨by rw [nx3, if_neg h1], rfl⟩
    · skip
      refine aa_go (aa_iconst iX5_next_5 ki_0) (aa_go (aa_goto iX5_next_6) ?_)
      refine aa_iret iX5_next_12 rfl ?_
      exact ⟨by rw [nx3, if_pos h1], rfl⟩
  obtain ⟨ra, σ', ⟨rfl, rfl⟩, hS9⟩ := aa_S_of (avs := [.int (nI i)]) (by decide) 0 [some (.int (nI i))] rfl rfl key
  exact hS9
theorem c_X5_liked (hW : aa_W r dy σ) {lk h k : Nat} (hL : σ.1 46 2 = nI lk) (hl8 : lk < 8) (hh : h ≤ 2) (hk : k ≤ 2) : aa_SX mX5_liked 2 [.ref 46, .int (nI h), .int (nI k)] σ (some (.int (nI (lkd lk h k)))) σ := by
  have n2 := nx3_le hh
  have fin : ∀ a b : Bool, a = decide (k = nx3 h) → b = !lk.testBit h → k ≠ h → aa_V mX5_liked 2 36 [some (.ref 46), some (.int (nI h)), some (.int (nI k))] [.int (nI b.toNat), .int (nI a.toNat)] σ (fun ra σ' => ra = some (.int (nI (lkd lk h k))) ∧ σ' = σ) := by
    intro a b ha hb hne
    have t1 : a.toNat ≤ 1 := Bool.toNat_le _
    have t2 : b.toNat ≤ 1 := Bool.toNat_le _
    refine aa_ic_neN iX5_liked_36 (by omega) (by omega) (fun h1 => ?_) (fun h1 => ?_)
    · skip
      refine aa_go (aa_iconst iX5_liked_43 ki_1) ?_
      refine aa_iret iX5_liked_44 rfl ?_
      refine ⟨?_, rfl⟩
      rw [lkd, if_neg hne, if_neg]
      intro q
      rw [← ha, ← hb] at q
      exact h1 (by rw [q])
    · skip
      refine aa_go (aa_iconst iX5_liked_39 ki_2) (aa_go (aa_goto iX5_liked_40) ?_)
      refine aa_iret iX5_liked_44 rfl ?_
      refine ⟨?_, rfl⟩
      rw [lkd, if_neg hne, if_pos]
      rw [← ha, ← hb]
      cases a <;> cases b <;> first | rfl | exact absurd h1 (by decide)
  have mid : ∀ a : Bool, a = decide (k = nx3 h) → k ≠ h → aa_V mX5_liked 2 20 [some (.ref 46), some (.int (nI h)), some (.int (nI k))] [.int (nI a.toNat)] σ (fun ra σ' => ra = some (.int (nI (lkd lk h k))) ∧ σ' = σ) := by
    intro a ha hne
    refine aa_go (aa_aload0 iX5_liked_20) (aa_go (aa_getE iX5_liked_21 fl_X5_18 (sh_46 hW) rfl hL) (aa_go (aa_iload1 iX5_liked_24) (aa_go (aa_ishrN iX5_liked_25 (by omega) (by omega)) (aa_go (aa_iconst iX5_liked_26 ki_1) (aa_go (aa_ibit iX5_liked_27) ?_)))))
    refine aa_if_neB iX5_liked_28 (fun h2 => ?_) (fun h2 => ?_)
    · skip
      refine aa_go (aa_iconst iX5_liked_35 ki_0) ?_
      exact fin a false ha (by rw [h2]; rfl) hne
    · skip
      refine aa_go (aa_iconst iX5_liked_31 ki_1) (aa_go (aa_goto iX5_liked_32) ?_)
      exact fin a true ha (by rw [h2]; rfl) hne
  have key : aa_V mX5_liked 2 0 [some (.ref 46), some (.int (nI h)), some (.int (nI k))] [] σ (fun ra σ' => ra = some (.int (nI (lkd lk h k))) ∧ σ' = σ) := by
    refine aa_go (aa_iload2 iX5_liked_0) (aa_go (aa_iload1 iX5_liked_1) ?_)
    refine aa_ic_neN iX5_liked_2 (by omega) (by omega) (fun h1 => ?_) (fun h1 => ?_)
    · skip
      refine aa_go (aa_iload2 iX5_liked_7) (aa_go (aa_iload1 iX5_liked_8) (aa_go (aa_cSi iX5_liked_9 (c_X5_next hh) (by decide) lc_X5_next lk_X5_26 rfl (Nat.le_of_ble_eq_true rfl)) ?_))
      refine aa_ic_neN iX5_liked_12 (by omega) (by omega) (fun h2 => ?_) (fun h2 => ?_)
      · skip
        refine aa_go (aa_iconst iX5_liked_19 ki_0) ?_
        exact mid false (decide_eq_false h2).symm h1
      · skip
        refine aa_go (aa_iconst iX5_liked_15 ki_1) (aa_go (aa_goto iX5_liked_16) ?_)
        exact mid true (decide_eq_true h2).symm h1
    · skip
      refine aa_go (aa_iconst iX5_liked_5 ki_0) ?_
      refine aa_iret iX5_liked_6 rfl ?_
      exact ⟨by rw [lkd, if_pos h1], rfl⟩
  obtain ⟨ra, σ', ⟨rfl, rfl⟩, hS9⟩ := aa_S_of (avs := [.ref 46, .int (nI h), .int (nI k)]) (by decide) 0 [some (.ref 46), some (.int (nI h)), some (.int (nI k))] rfl rfl key
  exact hS9
theorem c_X5_like (hW : aa_W r dy σ) {lk h k : Nat} (hL : σ.1 46 2 = nI lk) (hl8 : lk < 8) (hh : h ≤ 2) (hk : k ≤ 2) : aa_SX mX5_like 2 [.ref 46, .int (nI h), .int (nI k)] σ none (aa_sI σ 46 2 (nI (lks lk h k))) := by
  have n2 := nx3_le hh
  have key : aa_V mX5_like 2 0 [some (.ref 46), some (.int (nI h)), some (.int (nI k))] [] σ (fun ra σ' => ra = none ∧ σ' = aa_sI σ 46 2 (nI (lks lk h k))) := by
    refine aa_go (aa_aload0 iX5_like_0) (aa_go (aa_iload2 iX5_like_1) (aa_go (aa_iload1 iX5_like_2) (aa_go (aa_cSi iX5_like_3 (c_X5_next hh) (by decide) lc_X5_next lk_X5_26 rfl (Nat.le_of_ble_eq_true rfl)) ?_)))
    refine aa_ic_neN iX5_like_6 (by omega) (by omega) (fun h1 => ?_) (fun h1 => ?_)
    · skip
      refine aa_go (aa_aload0 iX5_like_22) (aa_go (aa_getE iX5_like_23 fl_X5_18 (sh_46 hW) rfl hL) (aa_go (aa_iconst iX5_like_26 ki_1) (aa_go (aa_iload1 iX5_like_27) (aa_go (aa_ishlN iX5_like_28 (by omega)) (aa_go (aa_iorN iX5_like_29 ) ?_)))))
      refine aa_go (aa_top (y := nI (lks lk h k)) (by rw [lks, if_neg h1, Nat.one_shiftLeft])) ?_
      refine aa_go (aa_putI iX5_like_30 fl_X5_18 (fun h => nomatch h) (sh_46 hW) rfl ⟨rfl, rfl⟩) ?_
      refine aa_vret iX5_like_33 rfl ?_
      exact ⟨rfl, rfl⟩
    · skip
      refine aa_go (aa_aload0 iX5_like_9) (aa_go (aa_getE iX5_like_10 fl_X5_18 (sh_46 hW) rfl hL) (aa_go (aa_iconst iX5_like_13 ki_1) (aa_go (aa_iload1 iX5_like_14) (aa_go (aa_ishlN iX5_like_15 (by omega)) (aa_go (aa_iconst iX5_like_16 ki_m1) (aa_go (aa_ixor iX5_like_17) (aa_go (aa_iandC iX5_like_18) ?_)))))))
      refine aa_go (aa_goto iX5_like_19) ?_
      refine aa_go (aa_top (y := nI (lks lk h k)) (by rw [lks, if_pos h1, Nat.one_shiftLeft])) ?_
      refine aa_go (aa_putI iX5_like_30 fl_X5_18 (fun h => nomatch h) (sh_46 hW) rfl ⟨rfl, rfl⟩) ?_
      refine aa_vret iX5_like_33 rfl ?_
      exact ⟨rfl, rfl⟩
  obtain ⟨ra, σ', ⟨rfl, rfl⟩, hS9⟩ := aa_S_of (avs := [.ref 46, .int (nI h), .int (nI k)]) (by decide) 0 [some (.ref 46), some (.int (nI h)), some (.int (nI k))] rfl rfl key
  exact hS9
end
