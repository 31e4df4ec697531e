/-! the row of the wall, made when it is first asked for -/
def aa_wallS (σ : aa_St) (q : Nat) : aa_St := aa_sR (aa_nw σ (.inl (3, 4096)) 4096) 36 (.inr (.inl (8, [.ref q])))
def R3 (r : Nat → Nat) (σ : aa_St) : Prop := r 3 ≠ 37 ∧ σ.2.2.1[r 3]? = some (.inl (3, 4096)) ∧ KB (σ.1 (r 3))
def S3 (r : Nat → Nat) (σ : aa_St) : Prop := r 3 ≠ 37 → R3 r σ
section
variable {r : Nat → Nat} {dy : List aa_Shp} {σ : aa_St} {v : Nat}
theorem aa_W.wall (h : aa_W r dy σ) : aa_W (nup r 3 (87 + dy.length)) (dy ++ [.inl (3, 4096)]) (aa_wallS σ (87 + dy.length)) := by
  have h1 := h.nw (.inl (3, 4096)) 4096
  unfold aa_W at h1 ⊢
  unfold aa_wallS aa_sR
  rw [h1, List.set_append_left _ _ (by rw [aa_SH_len]; decide)]
  rfl
theorem GX.wall (hW : aa_W r dy σ) (h37 : r 3 = 37) : GX [] [3] v r dy σ (nup r 3 (87 + dy.length)) (dy ++ [.inl (3, 4096)]) (aa_wallS σ (87 + dy.length)) := by
  have hl : σ.2.2.1.length = 87 + dy.length := hW.len
  have hI : ∀ x, x < 87 + dy.length → (aa_wallS σ (87 + dy.length)).1 x = σ.1 x := fun x hx => by
    funext k
    show (if x = σ.2.2.1.length then 0 else σ.1 x k) = σ.1 x k
    rw [if_neg (by omega)]
  refine ⟨hW.wall, by simp, fun k x q => ?_, fun q hq => nup_ne (fun c => hq (by rw [c]; exact List.mem_singleton.mpr rfl)), fun q => ?_, fun hr => ⟨fun q => ?_, fun p q hpq => ?_⟩, fun x hx _ => hI x hx, fun x hx _ => ?_, ?_⟩
  · rw [List.getElem?_append_left (List.getElem?_eq_some_iff.mp q).1]; exact q
  · by_cases c : q = 3
    · rw [c, nup_eq]; exact Or.inr (Nat.le_refl _)
    · exact Or.inl (nup_ne c)
  · rw [List.length_append]
    have := hr q
    by_cases c : q = 3
    · rw [c, nup_eq]; simp
    · rw [nup_ne c]; simp; omega
  · have b1 := hr p
    have b2 := hr q
    by_cases c : p = 3
    · by_cases c2 : q = 3
      · rw [c, c2] at hpq; exact absurd rfl hpq
      · rw [nup_ne c2, c, nup_eq]; omega
    · rw [nup_ne c]
      by_cases c2 : q = 3
      · rw [c2, nup_eq]; omega
      · rw [nup_ne c2]; exact hpq
  · funext k
    show (if x = σ.2.2.1.length then 0 else σ.2.1 x k) = σ.2.1 x k
    rw [if_neg (by omega)]
  · have e9 : cc v (aa_wallS σ (87 + dy.length)).1 = cc v σ.1 := by
      rw [cc, cc, hI 25 (by omega), hI 27 (by omega), hI 30 (by omega), hI 39 (by omega), hI 47 (by omega)]
    have e1 : nup r 3 (87 + dy.length) 6 = r 6 := nup_ne (by decide)
    have f1 : ¬ (87 + dy.length = 37) := by omega
    rw [ph, ph, pn, pn, e9, e1, nup_eq, if_neg f1, if_pos h37, if_neg f1, if_pos h37]
    show σ.2.2.2.2 + 4096 + _ ≤ _ ∧ σ.2.2.2.1 + 1 + _ ≤ _
    constructor <;> omega
theorem GX.F3 {σ' : aa_St} (hW : aa_W r dy σ) (hF : FrI (r 3) σ σ') (h87 : 87 ≤ r 3) (hlt : r 3 < 87 + dy.length) : ∀ x, x < 87 → σ'.1 x = σ.1 x := fun x hx => hF.2 x (by omega)
theorem c_X8_victory (hW : aa_W r dy σ) (hS : S3 r σ) {s : Nat} (hs : s < 4096) : ∃ r' dy' σ' σ1, (GX [] [3] v r dy σ r' dy' σ1 ∧ FrI (r' 3) σ1 σ' ∧ R3 r' σ') ∧ aa_SX mX8_victory 80 [.ref 36, .int (nI s)] σ (some (.int (nI (wv s).toNat))) σ' := by
  have wsl := ws_le s
  have tail : ∀ (r1 : Nat → Nat) dy1 (σ1 : aa_St), aa_W r1 dy1 σ1 → R3 r1 σ1 → aa_V mX8_victory 80 17 [some (.ref 36), some (.int (nI s))] [] σ1 (fun ra σ' => ra = some (.int (nI (wv s).toNat)) ∧ FrI (r1 3) σ1 σ' ∧ R3 r1 σ') := by
    intro r1 dy1 σ1 hW1 hR
    have hr3 : ∀ σ2 : aa_St, aa_W r1 dy1 σ2 → σ2.2.2.1[r1 3]? = some (.inl (3, 4096)) := fun σ2 h2 => by rw [h2, ← hW1]; exact hR.2.1
    obtain ⟨σ2, ⟨hF2, hK2⟩, hS2⟩ := c_X8_stoneFrom hr3 (m := 28) (dp := 0) hs wsl (by omega) (fun s2 σ2 q1 q2 q3 q4 => by
      obtain ⟨σ3, hA, hB⟩ := c_X8_victoryFrom hr3 27 s2 1 σ2 (by omega) q1 (by omega) q3 q4
      exact ⟨σ3, hA, hB⟩) hW1 hR.2.2
    have hR2 : R3 r1 σ2 := ⟨hR.1, hr3 σ2 (hF2.W hW1), hK2⟩
    refine aa_go (aa_iload1 iX8_victory_17) ?_
    refine aa_if_eqN iX8_victory_18 (by omega) (fun h4 => ?_) (fun h4 => ?_)
    · skip
      refine aa_go (aa_iconst iX8_victory_31 ki_1) (aa_go (aa_goto iX8_victory_32) ?_)
      refine aa_zretT iX8_victory_36 rfl ?_
      exact ⟨by rw [wv_eq, h4]; rfl, FrI.rf, hR⟩
    · skip
      refine aa_go (aa_aload0 iX8_victory_21) (aa_go (aa_iload1 iX8_victory_22) (aa_go (aa_iconst iX8_victory_23 ki_0) (aa_go (aa_cVi iX8_victory_24 (hS2) (by decide) lc_X8_stoneFrom lk_X8_15 (sh_36 hW1) rfl rfl (Nat.le_of_ble_eq_true rfl)) (aa_go (aa_iconst iX8_victory_27 ki_m1) ?_))))
      refine aa_ic_eq iX8_victory_28 (fun h5 => ?_) (fun h5 => ?_)
      · skip
        have h6 := (oS_none (wst_ok s)).mp h5
        refine aa_go (aa_iconst iX8_victory_35 ki_0) ?_
        refine aa_zretF iX8_victory_36 rfl ?_
        refine ⟨?_, hF2, hR2⟩
        have : wv s = false := by rw [wv_eq, h6]; simp [h4]
        rw [this]; rfl
      · skip
        have h6 : wst s ≠ none := fun q => h5 ((oS_none (wst_ok s)).mpr q)
        refine aa_go (aa_iconst iX8_victory_31 ki_1) (aa_go (aa_goto iX8_victory_32) ?_)
        refine aa_zretT iX8_victory_36 rfl ?_
        refine ⟨?_, hF2, hR2⟩
        have : wv s = true := by
          rw [wv_eq]
          cases h7 : wst s with
          | none => exact absurd h7 h6
          | some x => simp
        rw [this]; rfl
  by_cases h37 : r 3 = 37
  · have hW1 := hW.nw (.inl (3, 4096)) 4096
    have hlen := hW.len
    have hR : R3 (nup r 3 (87 + dy.length)) (aa_wallS σ (87 + dy.length)) := by
      refine ⟨by rw [nup_eq]; omega, ?_, ?_⟩
      · rw [nup_eq, hW.wall, List.getElem?_append_right (by rw [aa_SH_len]; omega), aa_SH_len, Nat.add_sub_cancel_left, List.getElem?_append_right (Nat.le_refl _), Nat.sub_self]; rfl
      · intro t ht
        left
        rw [nup_eq]
        show (if 87 + dy.length = σ.2.2.1.length then 0 else σ.1 _ t) = nI 0
        rw [if_pos hlen.symm]; rfl
    have key : aa_V mX8_victory 80 0 [some (.ref 36), some (.int (nI s))] [] σ (fun ra σ' => ra = some (.int (nI (wv s).toNat)) ∧ FrI (nup r 3 (87 + dy.length) 3) (aa_wallS σ (87 + dy.length)) σ' ∧ R3 (nup r 3 (87 + dy.length)) σ') := by
      have hs_r3 : σ.2.2.1[r 3]? = some (.inl (3, 0)) := by rw [h37]; exact sh_37 hW
      refine aa_go (aa_aload0 iX8_victory_0) (aa_go (aa_getR iX8_victory_1 fl_X8_9 (sh_36 hW) rfl) (aa_go (aa_alen iX8_victory_4 hs_r3 (by decide)) ?_))
      refine aa_if_neN iX8_victory_5 (by omega) (fun h1 => ?_) (fun h1 => ?_)
      · skip
        exact absurd rfl h1
      · skip
        refine aa_go (aa_aload0 iX8_victory_8) (aa_go (aa_sipush iX8_victory_9 ks_4096) (aa_go (aa_newa (t := 3) iX8_victory_12 la_byte (fun _ => rfl) (by decide) rfl (nI_nneg (by omega)) (nI_clamp (by omega)) (by decide)) ?_))
        rw [hlen]
        refine aa_go (aa_putR iX8_victory_14 fl_X8_9 (fun h => nomatch h) (sh_36 hW1) (Nat.le_of_ble_eq_true rfl) (fun _ => ⟨rfl, rfl⟩)) ?_
        exact tail _ _ _ hW.wall hR
    obtain ⟨ra, σ', ⟨rfl, h1⟩, hS9⟩ := aa_S_of (avs := [.ref 36, .int (nI s)]) (by decide) 0 [some (.ref 36), some (.int (nI s))] rfl rfl key
    exact ⟨_, _, σ', _, ⟨GX.wall hW h37, h1⟩, hS9⟩
  · have hR := hS h37
    have key : aa_V mX8_victory 80 0 [some (.ref 36), some (.int (nI s))] [] σ (fun ra σ' => ra = some (.int (nI (wv s).toNat)) ∧ FrI (r 3) σ σ' ∧ R3 r σ') := by
      have hs_r3 := hR.2.1
      refine aa_go (aa_aload0 iX8_victory_0) (aa_go (aa_getR iX8_victory_1 fl_X8_9 (sh_36 hW) rfl) (aa_go (aa_alen iX8_victory_4 hs_r3 (by decide)) ?_))
      refine aa_if_neN iX8_victory_5 (by omega) (fun h1 => ?_) (fun h1 => ?_)
      · skip
        exact tail _ _ _ hW hR
      · skip
        exact absurd h1 (by decide)
    obtain ⟨ra, σ', ⟨rfl, h1⟩, hS9⟩ := aa_S_of (avs := [.ref 36, .int (nI s)]) (by decide) 0 [some (.ref 36), some (.int (nI s))] rfl rfl key
    exact ⟨r, dy, σ', σ, ⟨GX.rf hW, h1⟩, hS9⟩
end
