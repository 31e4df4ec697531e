/-! A GAME of the class: how many moves, the states ahead of them, the state, the end -/
def XG (a : Nat) (m : Nat) (q : Nat → Nat) (e : Nat) (i : Nat → Nat → Int32) : Prop := i a 2 = nI m ∧ m ≤ 18 ∧ i a 3 = nI (q m) ∧ i a 4 = nI e ∧ e ≤ 1 ∧ ∀ k, k < m → i (a + 1) k = nI (q k)
def pl_tk (P : pl_T) (q : Nat → Nat) (h : Nat) : Nat → Nat
  | 0 => 0
  | k + 1 => pl_tk P q h k + (if k % 2 = h then pl_wo P (bd (q k) (q (k + 1))) else 0)
theorem pl_tk_le {P : pl_T} (ok : pl_ok P) (q : Nat → Nat) (h : Nat) : ∀ k, pl_tk P q h k ≤ 126 * k
  | 0 => by simp [pl_tk]
  | k + 1 => by
    have h1 := pl_tk_le ok q h k
    have h2 := pl_wo_le ok (bd (q k) (q (k + 1)))
    rw [pl_tk]
    split <;> omega
section
variable {r : Nat → Nat} {dy : List aa_Shp} {σ : aa_St} {P : pl_T} {hs : List Nat} {m e : Nat} {q : Nat → Nat}
theorem c_X2_start (hW : aa_W r dy σ) (hX : XP P hs σ.1) : aa_SX mX2_start 3 [.ref 20] σ none (aa_sI (aa_sI σ 20 2 (nI 0)) 20 3 (nI (2 ^ pl_n P - 1))) := by
  refine aa_E_of (by decide) 0 [some (.ref 20)] rfl rfl ?_
  refine aa_go (aa_aload0 iX2_start_0) (aa_go (aa_iconst iX2_start_1 ki_0) (aa_go (aa_putI iX2_start_2 fl_X2_15 (fun h => nomatch h) (sh_20 hW) rfl ⟨rfl, rfl⟩) (aa_go (aa_aload0 iX2_start_5) (aa_go (aa_aload0 iX2_start_6) (aa_go (aa_getR iX2_start_7 fl_X2_25 (sh_20 hW) rfl) (aa_go (aa_cVi iX2_start_10 (c_X6_first (hW.sI 20 2 (nI 0)) (hX.fr (i' := (aa_sI σ 20 2 (nI 0)).1) ⟨rfl, rfl, rfl⟩ (fun a h1 h2 => aa_u2_ne (by omega)))) (by decide) lc_X6_first lk_X2_29 (sh_7 hW) rfl rfl (Nat.le_of_ble_eq_true rfl)) (aa_go (aa_putI iX2_start_13 fl_X2_19 (fun h => nomatch h) (sh_20 hW) rfl ⟨rfl, rfl⟩) ?_)))))))
  refine aa_vret iX2_start_16 rfl ?_
  exact ⟨rfl, rfl⟩
theorem c_X2_state (hW : aa_W r dy σ) (hG : XG 20 m q e σ.1) : aa_SX mX2_state 1 [.ref 20] σ (some (.int (nI (q m)))) σ := by
  refine aa_E_of (by decide) 0 [some (.ref 20)] rfl rfl ?_
  refine aa_go (aa_aload0 iX2_state_0) (aa_go (aa_getE iX2_state_1 fl_X2_19 (sh_20 hW) rfl hG.2.2.1) ?_)
  refine aa_iret iX2_state_4 rfl ?_
  exact ⟨rfl, rfl⟩
theorem c_X2_there (hW : aa_W r dy σ) (hX : XP P hs σ.1) (hG : XG 20 m q e σ.1) : aa_SX mX2_there 2 [.ref 20] σ (some (.int (nI (q m &&& (2 ^ pl_n P - 1))))) σ := by
  refine aa_E_of (by decide) 0 [some (.ref 20)] rfl rfl ?_
  refine aa_go (aa_aload0 iX2_there_0) (aa_go (aa_getE iX2_there_1 fl_X2_19 (sh_20 hW) rfl hG.2.2.1) (aa_go (aa_aload0 iX2_there_4) (aa_go (aa_getR iX2_there_5 fl_X2_25 (sh_20 hW) rfl) (aa_go (aa_cVi iX2_there_8 (c_X6_full hW hX) (by decide) lc_X6_full lk_X2_35 (sh_7 hW) rfl rfl (Nat.le_of_ble_eq_true rfl)) (aa_go (aa_iandN iX2_there_11 ) ?_)))))
  refine aa_iret iX2_there_12 rfl ?_
  exact ⟨rfl, rfl⟩
theorem c_X2_made (hW : aa_W r dy σ) (hG : XG 20 m q e σ.1) : aa_SX mX2_made 1 [.ref 20] σ (some (.int (nI m))) σ := by
  refine aa_E_of (by decide) 0 [some (.ref 20)] rfl rfl ?_
  refine aa_go (aa_aload0 iX2_made_0) (aa_go (aa_getE iX2_made_1 fl_X2_15 (sh_20 hW) rfl hG.1) ?_)
  refine aa_iret iX2_made_4 rfl ?_
  exact ⟨rfl, rfl⟩
theorem c_X2_turn (hW : aa_W r dy σ) (hG : XG 20 m q e σ.1) : aa_SX mX2_turn 1 [.ref 20] σ (some (.int (nI (m % 2)))) σ := by
  refine aa_E_of (by decide) 0 [some (.ref 20)] rfl rfl ?_
  refine aa_go (aa_aload0 iX2_turn_0) (aa_go (aa_getE iX2_turn_1 fl_X2_15 (sh_20 hW) rfl hG.1) (aa_go (aa_iconst iX2_turn_4 ki_1) (aa_go (aa_iandN iX2_turn_5 ) ?_)))
  refine aa_go (aa_top (y := nI (m % 2)) (by rw [Nat.and_one_is_mod])) ?_
  refine aa_iret iX2_turn_6 rfl ?_
  exact ⟨rfl, rfl⟩
theorem c_X2_ending (hW : aa_W r dy σ) (hG : XG 20 m q e σ.1) : aa_SX mX2_ending 1 [.ref 20] σ (some (.int (nI e))) σ := by
  refine aa_E_of (by decide) 0 [some (.ref 20)] rfl rfl ?_
  refine aa_go (aa_aload0 iX2_ending_0) (aa_go (aa_getE iX2_ending_1 fl_X2_22 (sh_20 hW) rfl hG.2.2.2.1) ?_)
  refine aa_iret iX2_ending_4 rfl ?_
  exact ⟨rfl, rfl⟩
theorem c_X2_endBy (hW : aa_W r dy σ) (v : Int32) : aa_SX mX2_endBy 1 [.ref 20, .int v] σ none (aa_sI σ 20 4 v) := by
  refine aa_E_of (by decide) 0 [some (.ref 20), some (.int (v))] rfl rfl ?_
  refine aa_go (aa_aload0 iX2_endBy_0) (aa_go (aa_iload1 iX2_endBy_1) (aa_go (aa_putI iX2_endBy_2 fl_X2_22 (fun h => nomatch h) (sh_20 hW) rfl ⟨rfl, rfl⟩) ?_))
  refine aa_vret iX2_endBy_5 rfl ?_
  exact ⟨rfl, rfl⟩
theorem c_X2_go (hW : aa_W r dy σ) (hX : XP P hs σ.1) (hG : XG 20 m q e σ.1) (hm : m < 18) {j : Nat} (hj : j < pl_n P + pl_b P) : aa_SX mX2_go 2 [.ref 20, .int (nI j)] σ (some (.int (nI (bd (q m) (pl_nx P (q m) j))))) (aa_sI (aa_sI (aa_sI σ 21 m (nI (q m))) 20 2 (nI (m + 1))) 20 3 (nI (pl_nx P (q m) j))) := by
  have hX2 : XP P hs (aa_sI (aa_sI σ 21 m (nI (q m))) 20 2 (nI (m + 1))).1 := hX.fr ⟨rfl, rfl, rfl⟩ (fun a h1 h2 => Eq.trans (aa_u2_ne (by omega)) (aa_u2_ne (by omega)))
  refine aa_E_of (by decide) 1 [some (.ref 20), some (.int (nI j)), none] rfl rfl ?_
  refine aa_go (aa_aload0 iX2_go_0) (aa_go (aa_getE iX2_go_1 fl_X2_15 (sh_20 hW) rfl hG.1) (aa_go (aa_aload0 iX2_go_4) (aa_go (aa_getR iX2_go_5 fl_X2_9 (sh_20 hW) rfl) (aa_go (aa_alen iX2_go_8 (sh_21 hW) (by decide)) ?_))))
  refine aa_ic_ltN iX2_go_9 (by omega) (by omega) (fun h1 => ?_) (fun h1 => ?_)
  · skip
    refine aa_go (aa_aload0 iX2_go_15) (aa_go (aa_getE iX2_go_16 fl_X2_19 (sh_20 hW) rfl hG.2.2.1) (aa_go (aa_istore2 iX2_go_19 rfl (by decide)) (aa_go (aa_aload0 iX2_go_20) (aa_go (aa_getR iX2_go_21 fl_X2_9 (sh_20 hW) rfl) (aa_go (aa_aload0 iX2_go_24) (aa_go (aa_getE iX2_go_25 fl_X2_15 (sh_20 hW) rfl hG.1) (aa_go (aa_iload2 iX2_go_28) ?_)))))))
    refine aa_go (aa_iasN iX2_go_29 (sh_21 hW) (by omega) (by omega)) (aa_go (aa_aload0 iX2_go_30) (aa_go (aa_dup iX2_go_31 rfl) (aa_go (aa_getE iX2_go_32 fl_X2_15 (sh_20 hW) rfl hG.1) (aa_go (aa_iconst iX2_go_35 ki_1) (aa_go (aa_iaddN iX2_go_36 ) (aa_go (aa_putI iX2_go_37 fl_X2_15 (fun h => nomatch h) (sh_20 hW) rfl ⟨rfl, rfl⟩) (aa_go (aa_aload0 iX2_go_40) ?_)))))))
    refine aa_go (aa_aload0 iX2_go_41) (aa_go (aa_getR iX2_go_42 fl_X2_25 (sh_20 hW) rfl) (aa_go (aa_iload2 iX2_go_45) (aa_go (aa_iload1 iX2_go_46) (aa_go (aa_cVi iX2_go_47 (c_X6_behind ((hW.sI 21 m (nI (q m))).sI 20 2 (nI (m + 1))) hX2 hj) (by decide) lc_X6_behind lk_X2_38 (sh_7 hW) rfl rfl (Nat.le_of_ble_eq_true rfl)) (aa_go (aa_putI iX2_go_50 fl_X2_19 (fun h => nomatch h) (sh_20 hW) rfl ⟨rfl, rfl⟩) (aa_go (aa_iload2 iX2_go_53) (aa_go (aa_aload0 iX2_go_54) ?_)))))))
    refine aa_go (aa_getE iX2_go_55 fl_X2_19 (sh_20 hW) rfl rfl) (aa_go (aa_iconst iX2_go_58 ki_m1) (aa_go (aa_ixor iX2_go_59) (aa_go (aa_iandC iX2_go_60) ?_)))
    refine aa_iret iX2_go_61 rfl ?_
    exact ⟨rfl, rfl⟩
  · skip
    omega
theorem c_X2_goBack0 (hW : aa_W r dy σ) (hG : XG 20 0 q e σ.1) : aa_SX mX2_goBack 1 [.ref 20] σ (some (.int (-1))) σ := by
  refine aa_E_of (by decide) 0 [some (.ref 20)] rfl rfl ?_
  refine aa_go (aa_aload0 iX2_goBack_0) (aa_go (aa_getE iX2_goBack_1 fl_X2_15 (sh_20 hW) rfl hG.1) (aa_go (aa_iconst iX2_goBack_4 ki_1) ?_))
  refine aa_ic_ltN iX2_goBack_5 (by omega) (by omega) (fun h1 => ?_) (fun h1 => ?_)
  · skip
    refine aa_go (aa_iconst iX2_goBack_20 ki_m1) ?_
    refine aa_iret iX2_goBack_21 rfl ?_
    exact ⟨rfl, rfl⟩
  · skip
    omega
theorem c_X2_goBack (hW : aa_W r dy σ) (hG : XG 20 (m + 1) q e σ.1) : aa_SX mX2_goBack 1 [.ref 20] σ (some (.int (nI m))) (aa_sI (aa_sI σ 20 2 (nI m)) 20 3 (nI (q m))) := by
  have hm := hG.2.1
  refine aa_E_of (by decide) 0 [some (.ref 20)] rfl rfl ?_
  refine aa_go (aa_aload0 iX2_goBack_0) (aa_go (aa_getE iX2_goBack_1 fl_X2_15 (sh_20 hW) rfl hG.1) (aa_go (aa_iconst iX2_goBack_4 ki_1) ?_))
  refine aa_ic_ltN iX2_goBack_5 (by omega) (by omega) (fun h1 => ?_) (fun h1 => ?_)
  · skip
    omega
  · skip
    refine aa_go (aa_aload0 iX2_goBack_8) (aa_go (aa_getE iX2_goBack_9 fl_X2_15 (sh_20 hW) rfl hG.1) (aa_go (aa_aload0 iX2_goBack_12) (aa_go (aa_getR iX2_goBack_13 fl_X2_9 (sh_20 hW) rfl) (aa_go (aa_alen iX2_goBack_16 (sh_21 hW) (by decide)) ?_))))
    refine aa_ic_leN iX2_goBack_17 (by omega) (by omega) (fun h2 => ?_) (fun h2 => ?_)
    · skip
      refine aa_go (aa_aload0 iX2_goBack_22) (aa_go (aa_dup iX2_goBack_23 rfl) (aa_go (aa_getE iX2_goBack_24 fl_X2_15 (sh_20 hW) rfl hG.1) (aa_go (aa_iconst iX2_goBack_27 ki_1) (aa_go (aa_isubN iX2_goBack_28 (by omega)) ?_))))
      refine aa_go (aa_top (y := nI m) (rfl)) ?_
      refine aa_go (aa_putI iX2_goBack_29 fl_X2_15 (fun h => nomatch h) (sh_20 hW) rfl ⟨rfl, rfl⟩) (aa_go (aa_aload0 iX2_goBack_32) (aa_go (aa_aload0 iX2_goBack_33) (aa_go (aa_getR iX2_goBack_34 fl_X2_9 (sh_20 hW) rfl) ?_)))
      refine aa_go (aa_aload0 iX2_goBack_37) (aa_go (aa_getE iX2_goBack_38 fl_X2_15 (sh_20 hW) rfl rfl) (aa_go (aa_ialE iX2_goBack_41 (sh_21 hW) (by omega) (by omega) (hG.2.2.2.2.2 m (by omega))) (aa_go (aa_putI iX2_goBack_42 fl_X2_19 (fun h => nomatch h) (sh_20 hW) rfl ⟨rfl, rfl⟩) (aa_go (aa_aload0 iX2_goBack_45) ?_))))
      refine aa_go (aa_getE iX2_goBack_46 fl_X2_15 (sh_20 hW) rfl rfl) ?_
      refine aa_iret iX2_goBack_49 rfl ?_
      exact ⟨rfl, rfl⟩
    · skip
      omega
theorem c_X2_takenBy (hW : aa_W r dy σ) (hX : XP P hs σ.1) (hG : XG 20 m q e σ.1) (hq : ∀ k, q k < 65536) {h : Nat} (hh : h ≤ 1) : aa_SX mX2_takenBy 2 [.ref 20, .int (nI h)] σ (some (.int (nI (pl_tk P q h m)))) σ := by
  obtain ⟨g1, g2, g3, g4, g5, g6⟩ := id hG
  have loop : ∀ f k y4, m + 2 - k < f → k ≤ m + 1 → k % 2 = h → aa_V mX2_takenBy 2 4 [some (.ref 20), some (.int (nI h)), some (.int (nI (pl_tk P q h k))), some (.int (nI k)), y4] [] σ (fun r1 σ1 => r1 = some (.int (nI (pl_tk P q h m))) ∧ σ1 = σ) := by
    intro f
    induction f with
    | zero => intro k y4 h1; omega
    | succ f ih =>
      intro k y4 h1 h2 h3
      refine aa_go (aa_iload3 iX2_takenBy_4) (aa_go (aa_aload0 iX2_takenBy_5) (aa_go (aa_getE iX2_takenBy_6 fl_X2_15 (sh_20 hW) rfl g1) ?_))
      refine aa_ic_geN iX2_takenBy_9 (by omega) (by omega) (fun h4 => ?_) (fun h4 => ?_)
      · skip
        refine aa_go (aa_iload2 iX2_takenBy_86) ?_
        refine aa_iret iX2_takenBy_87 rfl ?_
        refine ⟨?_, rfl⟩
        rcases (show k = m ∨ k = m + 1 by omega) with h5 | h5
        · rw [h5]
        · rw [h5, pl_tk, if_neg (by omega)]; rfl
      · skip
        have tail : aa_V mX2_takenBy 2 57 [some (.ref 20), some (.int (nI h)), some (.int (nI (pl_tk P q h k))), some (.int (nI k)), y4] [.int (nI (q (k + 1)))] σ (fun r1 σ1 => r1 = some (.int (nI (pl_tk P q h m))) ∧ σ1 = σ) := by
          have l1 : bd (q k) (q (k + 1)) < 65536 := bb_bd (hq k)
          refine aa_go (aa_istore4 iX2_takenBy_57 rfl (by decide)) (aa_go (aa_iload2 iX2_takenBy_59) (aa_go (aa_aload0 iX2_takenBy_60) (aa_go (aa_getR iX2_takenBy_61 fl_X2_25 (sh_20 hW) rfl) (aa_go (aa_aload0 iX2_takenBy_64) (aa_go (aa_getR iX2_takenBy_65 fl_X2_9 (sh_20 hW) rfl) (aa_go (aa_iload3 iX2_takenBy_68) (aa_go (aa_ialE iX2_takenBy_69 (sh_21 hW) (by omega) (by omega) (g6 k (by omega))) ?_)))))))
          refine aa_go (aa_iload4 iX2_takenBy_70) (aa_go (aa_iconst iX2_takenBy_72 ki_m1) (aa_go (aa_ixor iX2_takenBy_73) (aa_go (aa_iandC iX2_takenBy_74) (aa_go (aa_cVi iX2_takenBy_75 (c_X6_worthOf hW hX (by omega)) (by decide) lc_X6_worthOf lk_X2_42 (sh_7 hW) rfl rfl (Nat.le_of_ble_eq_true rfl)) (aa_go (aa_iaddN iX2_takenBy_78 ) (aa_go (aa_istore2 iX2_takenBy_79 rfl (by decide)) (aa_go (aa_iincN3 (k := 2) iX2_takenBy_80 rfl (by decide)) ?_)))))))
          refine aa_go (aa_goto iX2_takenBy_83) ?_
          have := ih (k + 2) (some (.int (nI (q (k + 1))))) (by omega) (by omega) (by omega)
          rw [show pl_tk P q h (k + 2) = pl_tk P q h k + pl_wo P (bd (q k) (q (k + 1))) by rw [pl_tk, if_neg (by omega), pl_tk, if_pos h3]; omega] at this
          exact this
        refine aa_go (aa_iload3 iX2_takenBy_12) (aa_go (aa_aload0 iX2_takenBy_13) (aa_go (aa_getR iX2_takenBy_14 fl_X2_9 (sh_20 hW) rfl) (aa_go (aa_alen iX2_takenBy_17 (sh_21 hW) (by decide)) ?_)))
        refine aa_ic_geN iX2_takenBy_18 (by omega) (by omega) (fun h5 => ?_) (fun h5 => ?_)
        · skip
          omega
        · skip
          refine aa_go (aa_iload3 iX2_takenBy_21) (aa_go (aa_iconst iX2_takenBy_22 ki_1) (aa_go (aa_iaddN iX2_takenBy_23 ) (aa_go (aa_aload0 iX2_takenBy_24) (aa_go (aa_getE iX2_takenBy_25 fl_X2_15 (sh_20 hW) rfl g1) ?_))))
          refine aa_ic_geN iX2_takenBy_28 (by omega) (by omega) (fun h6 => ?_) (fun h6 => ?_)
          · skip
            refine aa_go (aa_aload0 iX2_takenBy_53) (aa_go (aa_getE iX2_takenBy_54 fl_X2_19 (sh_20 hW) rfl g3) ?_)
            rw [show k + 1 = m by omega] at tail
            exact tail
          · skip
            refine aa_go (aa_iload3 iX2_takenBy_31) (aa_go (aa_iconst iX2_takenBy_32 ki_1) (aa_go (aa_iaddN iX2_takenBy_33 ) (aa_go (aa_aload0 iX2_takenBy_34) (aa_go (aa_getR iX2_takenBy_35 fl_X2_9 (sh_20 hW) rfl) (aa_go (aa_alen iX2_takenBy_38 (sh_21 hW) (by decide)) ?_)))))
            refine aa_ic_geN iX2_takenBy_39 (by omega) (by omega) (fun h7 => ?_) (fun h7 => ?_)
            · skip
              omega
            · skip
              refine aa_go (aa_aload0 iX2_takenBy_42) (aa_go (aa_getR iX2_takenBy_43 fl_X2_9 (sh_20 hW) rfl) (aa_go (aa_iload3 iX2_takenBy_46) (aa_go (aa_iconst iX2_takenBy_47 ki_1) (aa_go (aa_iaddN iX2_takenBy_48 ) (aa_go (aa_ialE iX2_takenBy_49 (sh_21 hW) (by omega) (by omega) (g6 (k + 1) h6)) (aa_go (aa_goto iX2_takenBy_50) ?_))))))
              exact tail
  refine aa_E_of (by decide) 3 [some (.ref 20), some (.int (nI h)), none, none, none] rfl rfl ?_
  refine aa_go (aa_iconst iX2_takenBy_0 ki_0) (aa_go (aa_istore2 iX2_takenBy_1 rfl (by decide)) (aa_go (aa_iload1 iX2_takenBy_2) (aa_go (aa_istore3 iX2_takenBy_3 rfl (by decide)) ?_)))
  have z : pl_tk P q h h = 0 := by
    rcases (show h = 0 ∨ h = 1 by omega) with rfl | rfl <;> simp [pl_tk]
  have := loop (m + 3) h none (by omega)
  rw [z] at this
  by_cases hm : h ≤ m + 1
  · exact this hm (by omega)
  · omega
end
