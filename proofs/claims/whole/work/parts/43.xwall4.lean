section
variable {r r' : Nat → Nat} {dy dy' : List aa_Shp} {σ σ1 σ' : aa_St} {v : Nat}
theorem GX.row3 (hG : GX [] [3] v r dy σ r' dy' σ1) (hF : FrI (r' 3) σ1 σ') (hsh : σ1.2.2.1[r' 3]? = some (.inl (3, 4096))) : GX [r 3] [3] v r dy σ r' dy' σ' := by
  have hW1 := hG.W
  have n25 : 25 ≠ r' 3 := fun e => by rw [← e, sh_25 hW1] at hsh; exact absurd hsh (by simp)
  have n27 : 27 ≠ r' 3 := fun e => by rw [← e, sh_27 hW1] at hsh; exact absurd hsh (by simp)
  have n30 : 30 ≠ r' 3 := fun e => by rw [← e, sh_30 hW1] at hsh; exact absurd hsh (by simp)
  have n39 : 39 ≠ r' 3 := fun e => by rw [← e, sh_39 hW1] at hsh; exact absurd hsh (by simp)
  have n47 : 47 ≠ r' 3 := fun e => by rw [← e, sh_47 hW1] at hsh; exact absurd hsh (by simp)
  have e9 : cc v σ'.1 = cc v σ1.1 := by
    rw [cc, cc, hF.2 25 n25, hF.2 27 n27, hF.2 30 n30, hF.2 39 n39, hF.2 47 n47]
  obtain ⟨h0, h1, h2, h3, h4, h5, h6, h7, h8⟩ := hG
  refine ⟨hF.W h0, h1, h2, h3, h4, h5, fun x hx hxa => ?_, fun x hx hxj => by rw [hF.1]; exact h7 x hx hxj, ?_⟩
  · rw [hF.2 x, h6 x hx List.not_mem_nil]
    intro e
    rcases h4 3 with q | q
    · exact hxa (by rw [e, q]; exact List.mem_singleton.mpr rfl)
    · omega
  · rw [hF.1]
    rw [ph, pn, e9]
    exact h8
theorem c_X8_victoryG (hW : aa_W r dy σ) (hS : S3 r σ) {s : Nat} (hs : s < 4096) : ∃ r' dy' σ', (GX [r 3] [3] v r dy σ r' dy' σ' ∧ R3 r' σ') ∧ aa_SX mX8_victory 80 [.ref 36, .int (nI s)] σ (some (.int (nI (wv s).toNat))) σ' := by
  obtain ⟨r', dy', σ', σ1, ⟨hG, hF, hR⟩, hS⟩ := c_X8_victory (v := v) hW hS hs
  exact ⟨r', dy', σ', ⟨hG.row3 hF (by rw [← hF.1]; exact hR.2.1), hR⟩, hS⟩
theorem c_X8_winningStone (hW : aa_W r dy σ) (hS : S3 r σ) {s : Nat} (hs : s < 4096) : ∃ r' dy' σ', (GX [r 3] [3] v r dy σ r' dy' σ' ∧ R3 r' σ') ∧ aa_SX mX8_winningStone 81 [.ref 36, .int (nI s)] σ (some (.int (oS (wst s)))) σ' := by
  have wsl := ws_le s
  obtain ⟨r1, dy1, σ2, σ1, ⟨hG, hF, hR⟩, hS1⟩ := c_X8_victory (v := v) hW hS hs
  have hW2 := hF.W hG.W
  have hsh1 : σ1.2.2.1[r1 3]? = some (.inl (3, 4096)) := by rw [← hF.1]; exact hR.2.1
  have hr3 : ∀ σ3 : aa_St, aa_W r1 dy1 σ3 → σ3.2.2.1[r1 3]? = some (.inl (3, 4096)) := fun σ3 h2 => by rw [h2, ← hW2]; exact hR.2.1
  obtain ⟨σ4, ⟨hF4, hK4⟩, hS4⟩ := c_X8_stoneFrom hr3 (m := 28) (dp := 0) hs wsl (by omega) (fun s2 σ2 q1 q2 q3 q4 => by
    obtain ⟨σ3, hA, hB⟩ := c_X8_victoryFrom hr3 27 s2 1 σ2 (by omega) q1 (by omega) q3 q4
    exact ⟨σ3, hA, hB⟩) hW2 hR.2.2
  have hR4 : R3 r1 σ4 := ⟨hR.1, hr3 σ4 (hF4.W hW2), hK4⟩
  have key : aa_V mX8_winningStone 81 0 [some (.ref 36), some (.int (nI s))] [] σ (fun ra σ' => ra = some (.int (oS (wst s))) ∧ GX [r 3] [3] v r dy σ r1 dy1 σ' ∧ R3 r1 σ') := by
    refine aa_go (aa_aload0 iX8_winningStone_0) (aa_go (aa_iload1 iX8_winningStone_1) (aa_go (aa_cVi iX8_winningStone_2 (hS1) (by decide) lc_X8_victory lk_X8_19 (sh_36 hW) rfl rfl (Nat.le_of_ble_eq_true rfl)) ?_))
    refine aa_if_eqB iX8_winningStone_5 (fun h1 => ?_) (fun h1 => ?_)
    · skip
      have : wst s = none := by
        rw [wv_eq, Bool.or_eq_false_iff] at h1
        cases h2 : wst s with
        | none => rfl
        | some x => rw [h2] at h1; exact absurd h1.2 (by simp)
      rw [this]
      refine aa_go (aa_iconst iX8_winningStone_17 ki_m1) ?_
      refine aa_iret iX8_winningStone_18 rfl ?_
      exact ⟨rfl, hG.row3 hF hsh1, hR⟩
    · skip
      refine aa_go (aa_aload0 iX8_winningStone_8) (aa_go (aa_iload1 iX8_winningStone_9) (aa_go (aa_iconst iX8_winningStone_10 ki_0) (aa_go (aa_cVi iX8_winningStone_11 (hS4) (by decide) lc_X8_stoneFrom lk_X8_15 (sh_36 hW2) rfl rfl (Nat.le_of_ble_eq_true rfl)) (aa_go (aa_goto iX8_winningStone_14) ?_))))
      refine aa_iret iX8_winningStone_18 rfl ?_
      exact ⟨rfl, hG.row3 (hF.tr hF4) hsh1, hR4⟩
  obtain ⟨ra, σ', ⟨rfl, h1⟩, hS9⟩ := aa_S_of (avs := [.ref 36, .int (nI s)]) (by decide) 0 [some (.ref 36), some (.int (nI s))] rfl rfl key
  exact ⟨r1, dy1, σ', h1, hS9⟩
theorem c_X8_packed {a b c e : Nat} : aa_SX mX8_packed 1 [.int (nI a), .int (nI b), .int (nI c), .int (nI e)] σ (some (.int (nI (a ||| b <<< 3 ||| c <<< 6 ||| e <<< 9)))) σ := by
  have key : aa_V mX8_packed 1 0 [some (.int (nI a)), some (.int (nI b)), some (.int (nI c)), some (.int (nI e))] [] σ (fun ra σ' => ra = some (.int (nI (a ||| b <<< 3 ||| c <<< 6 ||| e <<< 9))) ∧ σ' = σ) := by
    refine aa_go (aa_iload0 iX8_packed_0) (aa_go (aa_iload1 iX8_packed_1) (aa_go (aa_iconst iX8_packed_2 ki_3) (aa_go (aa_ishlN iX8_packed_3 (by omega)) (aa_go (aa_iorN iX8_packed_4 ) (aa_go (aa_iload2 iX8_packed_5) (aa_go (aa_bipush iX8_packed_6 kb_6) (aa_go (aa_ishlN iX8_packed_8 (by omega)) ?_)))))))
    refine aa_go (aa_iorN iX8_packed_9 ) (aa_go (aa_iload3 iX8_packed_10) (aa_go (aa_bipush iX8_packed_11 kb_9) (aa_go (aa_ishlN iX8_packed_13 (by omega)) (aa_go (aa_iorN iX8_packed_14 ) ?_))))
    refine aa_iret iX8_packed_15 rfl ?_
    exact ⟨rfl, rfl⟩
  obtain ⟨ra, σ', ⟨rfl, rfl⟩, hS9⟩ := aa_S_of (avs := [.int (nI a), .int (nI b), .int (nI c), .int (nI e)]) (by decide) 0 [some (.int (nI a)), some (.int (nI b)), some (.int (nI c)), some (.int (nI e))] rfl rfl key
  exact hS9
end
