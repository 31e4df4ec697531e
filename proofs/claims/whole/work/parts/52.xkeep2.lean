def R5 (P : pl_T) (v : Nat) (r : Nat → Nat) (σ : aa_St) : Prop := σ.1 47 1 = nI v ∧ σ.2.2.1[r 5]? = some (.inl (1, 2 ^ (pl_n P + pl_b P))) ∧ KK P (σ.2.1 (r 5))
def S5 (P : pl_T) (v : Nat) (r : Nat → Nat) (σ : aa_St) : Prop := σ.1 47 1 = nI v → R5 P v r σ
section
variable {r : Nat → Nat} {dy : List aa_Shp} {σ : aa_St} {P : pl_T} {hs : List Nat} {v lk : Nat}
theorem c_fit5 (hW : aa_W r dy σ) (hX : XP P hs σ.1) (hv : σ.1 7 15 = nI v) (hS : S5 P v r σ) : ∃ r' dy' σ', (MX (2 ^ (pl_n P + pl_b P)) v 5 47 r dy σ r' dy' σ' ∧ R5 P v r' σ') ∧ aa_SX mX4_fit 2 [.ref 47, .ref 7] σ none σ' := by
  by_cases he : σ.1 47 1 = nI v
  · exact ⟨r, dy, σ, ⟨MX.rf hW, hS he⟩, c_fitE47 hW hv he⟩
  · have hW' := hW.fit47 (nI v) (2 ^ (pl_n P + pl_b P))
    have hM := MX.fit (N := 2 ^ (pl_n P + pl_b P)) (v := v) (j := 5) (a := 47) hW (by decide) he hW'
    refine ⟨_, _, _, ⟨hM, ?_, ?_, ?_⟩, c_fitN47 hW hX hv he⟩
    · exact fit_ver hW (by decide) _ _ _
    · rw [nup_eq]; exact fit_shape hW'
    · rw [nup_eq, fit_row hW]
      exact fun s _ => ⟨0, rfl, by decide, fun lk h _ _ => Or.inl (by simp [fd]), fun h k _ _ _ => Or.inl (by simp [fd])⟩
def kpB (P : pl_T) (lk h s : Nat) : Nat := if pl_mv P h s = 0 then 3 else kp P lk h s
theorem c_X5_keeper (hW : aa_W r dy σ) (hX : XP P hs σ.1) (hv : σ.1 7 15 = nI v) (hL : σ.1 46 2 = nI lk) (hl8 : lk < 8) (hS : S5 P v r σ) {s h : Nat} (hs2 : s < 2 ^ (pl_n P + pl_b P)) (hh : h ≤ 2) : ∃ r' dy' σ', (MX (2 ^ (pl_n P + pl_b P)) v 5 47 r dy σ r' dy' σ' ∧ R5 P v r' σ') ∧ aa_SX mX5_keeper 24 [.ref 46, .int (nI s), .int (nI h)] σ (some (.int (nI (kpB P lk h s)))) σ' := by
  have hn := hX.n14
  have hb := hX.b2
  have p16 := pw16 (k := pl_n P + pl_b P) (by omega)
  have lmv := pl_mv_lt P h s
  obtain ⟨r1, dy1, σ1, ⟨hM1, hR1⟩, hS1⟩ := c_fit5 hW hX hv hS
  have hW1 := hM1.W
  have hX1 := hM1.XP (by decide) hX
  have hL1 : σ1.1 46 2 = nI lk := by rw [hM1.I (by decide) (by decide)]; exact hL
  have mu := pl_mu_le hX.ok s
  have hr5 : ∀ σ2 : aa_St, aa_W r1 dy1 σ2 → σ2.2.2.1[r1 5]? = some (.inl (1, 2 ^ (pl_n P + pl_b P))) := fun σ2 h2 => by rw [h2, ← hW1]; exact hR1.2.1
  obtain ⟨σ2, ⟨hF2, hK2⟩, hS2⟩ := c_X5_keeperFrom hr5 hl8 18 s h 0 σ1 mu hs2 hh (by omega) hW1 hX1 hL1 hR1.2.2
  have key : aa_V mX5_keeper 24 0 [some (.ref 46), some (.int (nI s)), some (.int (nI h))] [] σ (fun ra σ' => ra = some (.int (nI (kpB P lk h s))) ∧ MX (2 ^ (pl_n P + pl_b P)) v 5 47 r dy σ r1 dy1 σ' ∧ R5 P v r1 σ') := by
    refine aa_go (aa_aload0 iX5_keeper_0) (aa_go (aa_getR iX5_keeper_1 fl_X5_12 (sh_46 hW) rfl) (aa_go (aa_aload0 iX5_keeper_4) (aa_go (aa_getR iX5_keeper_5 fl_X5_22 (sh_46 hW) rfl) (aa_go (aa_cVv iX5_keeper_8 (hS1) (by decide) lc_X4_fit lk_X5_30 (sh_47 hW) rfl rfl (Nat.le_of_ble_eq_true rfl)) ?_))))
    refine aa_go (aa_aload0 iX5_keeper_11) (aa_go (aa_getR iX5_keeper_12 fl_X5_22 (sh_46 hW1) rfl) (aa_go (aa_iload1 iX5_keeper_15) (aa_go (aa_iload2 iX5_keeper_16) (aa_go (aa_cVi iX5_keeper_17 (c_X6_moves hW1 hX1 (by omega)) (by decide) lc_X6_moves lk_X5_34 (sh_7 hW1) rfl rfl (Nat.le_of_ble_eq_true rfl)) ?_))))
    refine aa_if_neN iX5_keeper_20 (by omega) (fun h1 => ?_) (fun h1 => ?_)
    · skip
      refine aa_go (aa_aload0 iX5_keeper_27) (aa_go (aa_iload1 iX5_keeper_28) (aa_go (aa_iload2 iX5_keeper_29) (aa_go (aa_iconst iX5_keeper_30 ki_0) (aa_go (aa_cVi iX5_keeper_31 (hS2) (by decide) lc_X5_keeperFrom lk_X5_40 (sh_46 hW1) rfl rfl (Nat.le_of_ble_eq_true rfl)) ?_))))
      refine aa_iret iX5_keeper_34 rfl ?_
      exact ⟨by rw [kpB, if_neg h1], hM1.tr (MX.L hW1 hF2), by rw [hF2.1]; exact hR1.1, by rw [hF2.2.1]; exact hR1.2.1, hK2⟩
    · skip
      refine aa_go (aa_iconst iX5_keeper_23 ki_3) (aa_go (aa_goto iX5_keeper_24) ?_)
      refine aa_iret iX5_keeper_34 rfl ?_
      exact ⟨by rw [kpB, if_pos h1], hM1, hR1⟩
  obtain ⟨ra, σ', ⟨rfl, h1⟩, hS9⟩ := aa_S_of (avs := [.ref 46, .int (nI s), .int (nI h)]) (by decide) 0 [some (.ref 46), some (.int (nI s)), some (.int (nI h))] rfl rfl key
  exact ⟨r1, dy1, σ', h1, hS9⟩
end
