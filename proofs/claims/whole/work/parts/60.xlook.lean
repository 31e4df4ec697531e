/-! CHANGES: looking at a pile -/
def aa_chgS (σ : aa_St) (q : Nat) : aa_St := aa_sR (aa_nw σ (.inl (0, 25600)) 25600) 49 (.inr (.inl (0, [.ref 51, .ref 7, .ref q, .int 0, .int 0, .int 0, .int 0, .int 0, .int 0, .int 0, .int 0])))
def E6 (R : Nat) (f : Nat → Int32) : Prop := ∀ k, k < 25600 → ∃ w, f k = nI w ∧ w >>> 4 ≤ R
def S6 (P : pl_T) (v R : Nat) (r : Nat → Nat) (σ : aa_St) : Prop := σ.1 49 3 = nI R ∧ ((r 6 = 50 ∧ R = 0) ∨ (87 ≤ r 6 ∧ σ.2.2.1[r 6]? = some (.inl (0, 25600)) ∧ E6 R (σ.1 (r 6)) ∧ ∀ T e, σ.1 49 4 = nI v → σ.1 49 5 = nI T → σ.1 49 6 = nI e → T < 65536 → e ≤ 1 → R ≠ 0 → FO P T 51 σ.1 ∧ KZ P T e R (σ.1 (r 6))))
theorem KZ.E {P : pl_T} {T e R : Nat} {f : Nat → Int32} (h : KZ P T e R f) : E6 R f := by
  intro k hk
  obtain ⟨w, h1, h2, -⟩ := h (k / 100) (k / 10 % 10) (k % 10) (by omega) (by omega) (by omega)
  rw [show (k / 100 * 10 + k / 10 % 10) * 10 + k % 10 = k by omega] at h1
  exact ⟨w, h1, h2⟩
theorem E6.up {P : pl_T} {T e R : Nat} {f : Nat → Int32} (h : E6 R f) : KZ P T e (R + 1) f := by
  intro p x y hp hx hy
  obtain ⟨w, h1, h2⟩ := h ((p * 10 + x) * 10 + y) (by omega)
  exact ⟨w, h1, by omega, fun q => by omega⟩
section
variable {r : Nat → Nat} {dy : List aa_Shp} {σ : aa_St} {v : Nat}
theorem aa_W.chg (h : aa_W r dy σ) : aa_W (nup r 6 (87 + dy.length)) (dy ++ [.inl (0, 25600)]) (aa_chgS σ (87 + dy.length)) := by
  have h1 := h.nw (.inl (0, 25600)) 25600
  unfold aa_W at h1 ⊢
  unfold aa_chgS aa_sR
  rw [h1, List.set_append_left _ _ (by rw [aa_SH_len]; decide)]
  rfl
theorem chg_I (hW : aa_W r dy σ) : ∀ x, x < 87 + dy.length → (aa_chgS σ (87 + dy.length)).1 x = σ.1 x := fun x hx => by
  have hl : σ.2.2.1.length = 87 + dy.length := hW.len
  funext k
  show (if x = σ.2.2.1.length then 0 else σ.1 x k) = σ.1 x k
  rw [if_neg (by omega)]
theorem GX.chg (hW : aa_W r dy σ) (h50 : r 6 = 50) : GX [] [6] v r dy σ (nup r 6 (87 + dy.length)) (dy ++ [.inl (0, 25600)]) (aa_chgS σ (87 + dy.length)) := by
  have hl : σ.2.2.1.length = 87 + dy.length := hW.len
  have hI := chg_I hW
  refine ⟨hW.chg, by simp, fun k x q => ?_, fun q hq => nup_ne (fun c => hq (by rw [c]; exact List.mem_singleton.mpr rfl)), fun q => ?_, fun hr => ⟨fun q => ?_, fun p q hpq => ?_⟩, fun x hx _ => hI x hx, fun x hx _ => ?_, ?_⟩
  · rw [List.getElem?_append_left (List.getElem?_eq_some_iff.mp q).1]; exact q
  · by_cases c : q = 6
    · rw [c, nup_eq]; exact Or.inr (Nat.le_refl _)
    · exact Or.inl (nup_ne c)
  · rw [List.length_append]
    have := hr q
    by_cases c : q = 6
    · rw [c, nup_eq]; simp
    · rw [nup_ne c]; simp; omega
  · have b1 := hr p
    have b2 := hr q
    by_cases c : p = 6
    · by_cases c2 : q = 6
      · rw [c, c2] at hpq; exact absurd rfl hpq
      · rw [nup_ne c2, c, nup_eq]; omega
    · rw [nup_ne c]
      by_cases c2 : q = 6
      · rw [c2, nup_eq]; omega
      · rw [nup_ne c2]; exact hpq
  · funext k
    show (if x = σ.2.2.1.length then 0 else σ.2.1 x k) = σ.2.1 x k
    rw [if_neg (by omega)]
  · have e9 : cc v (aa_chgS σ (87 + dy.length)).1 = cc v σ.1 := by
      rw [cc, cc, hI 25 (by omega), hI 27 (by omega), hI 30 (by omega), hI 39 (by omega), hI 47 (by omega)]
    have e1 : nup r 6 (87 + dy.length) 3 = r 3 := nup_ne (by decide)
    have f1 : ¬ (87 + dy.length = 50) := by omega
    rw [ph, ph, pn, pn, e9, e1, nup_eq, if_neg f1, if_pos h50, if_neg f1, if_pos h50]
    show σ.2.2.2.2 + 25600 + _ ≤ _ ∧ σ.2.2.2.1 + 1 + _ ≤ _
    constructor <;> omega
theorem GX.A {A : List Nat} {σ' : aa_St} (hW : aa_W r dy σ) (hF : FrA A σ σ') (hA : 25 ∉ A ∧ 27 ∉ A ∧ 30 ∉ A ∧ 39 ∉ A ∧ 47 ∉ A) : GX A [] v r dy σ r dy σ' := by
  have e9 : cc v σ'.1 = cc v σ.1 := by
    rw [cc, cc, hF.2 25 hA.1, hF.2 27 hA.2.1, hF.2 30 hA.2.2.1, hF.2 39 hA.2.2.2.1, hF.2 47 hA.2.2.2.2]
  refine ⟨hF.W hW, Nat.le_refl _, fun _ _ q => q, fun _ _ => rfl, fun _ => Or.inl rfl, fun q => ⟨q, fun _ _ h => h⟩, fun b _ hb => hF.2 b hb, fun _ _ _ => by rw [hF.1], ?_⟩
  rw [ph, ph, pn, pn, e9, hF.1]
  exact ⟨Nat.le_refl _, Nat.le_refl _⟩
end
section
variable {r : Nat → Nat} {dy : List aa_Shp} {σ : aa_St} {P : pl_T} {hs : List Nat} {T e R v : Nat}
theorem vd9 : vd T 9 := Or.inr (Or.inr rfl)
theorem vd8 : vd T 8 := Or.inr (Or.inl rfl)
/-- what look() leaves -/
def LK (r : Nat → Nat) (dy : List aa_Shp) (P : pl_T) (v T t e R : Nat) (σ : aa_St) : Prop := 87 ≤ r 6 ∧ σ.2.2.1[r 6]? = some (.inl (0, 25600)) ∧ VH r dy P T e R σ ∧ σ.1 49 4 = nI v ∧ σ.1 49 5 = nI T ∧ σ.1 49 7 = nI t ∧ σ.1 49 8 = nI (cc1 P T e t (2 ^ pl_cn T 14 - 1) 9 9).toNat
theorem LK.S6 {t : Nat} (h : LK r dy P v T t e R σ) (hT : T < 65536) (he : e ≤ 1) : S6 P v R r σ := by
  obtain ⟨h1, h2, ⟨h3, h4, h5, h6, h7⟩, h8, h9, h10, h11⟩ := h
  refine ⟨h5, Or.inr ⟨h1, h2, h7.E, fun T' e' _ q2 q3 q4 q5 _ => ?_⟩⟩
  have e1 : T = T' := nI_inj (by omega) (by omega) (h9.symm.trans q2)
  have e2 : e = e' := nI_inj (by omega) (by omega) (h6.symm.trans q3)
  subst e1; subst e2
  exact ⟨h4, h7⟩
theorem c_X0_look (hW : aa_W r dy σ) (hX : XP P hs σ.1) (hb0 : pl_b P = 0) (hv : σ.1 7 15 = nI v) (hS : S6 P v R r σ) (hR : R + 1 < 67108864) (hT : T < 2 ^ pl_n P) (h8 : pl_cn T 14 ≤ 8) {t : Nat} (ht : t ≤ 1) (he : e ≤ 1) : ∃ r' dy' σ' R', (GX [49, 51, 52, 53, 54, r 6] [6] v r dy σ r' dy' σ' ∧ LK r' dy' P v T t e R' σ' ∧ R' ≤ R + 1) ∧ aa_SX mX0_look 80 [.ref 49, .int (nI T), .int (nI t), .int (nI e)] σ none σ' := by
  have ok := hX.ok
  have hn := hX.n14
  have p14 := pw14 hn
  have c1 := pw_pos (pl_cn T 14)
  have c256 : 2 ^ pl_cn T 14 ≤ 256 := pw_lt (n := 8) h8
  -- from 93
  have tail : ∀ (r1 : Nat → Nat) dy1 (σ0 σ1 : aa_St) R1, R1 ≤ R + 1 → 87 ≤ r1 6 → σ1.2.2.1[r1 6]? = some (.inl (0, 25600)) → VH r1 dy1 P T e R1 σ1 → σ1.1 49 4 = nI v → σ1.1 49 5 = nI T → FrA [49, 51, 52, 53, 54, r1 6] σ0 σ1 → aa_V mX0_look 80 93 [some (.ref 49), some (.int (nI T)), some (.int (nI t)), some (.int (nI e))] [] σ1 (fun ra σ' => ra = none ∧ FrA [49, 51, 52, 53, 54, r1 6] σ0 σ' ∧ ∃ R', LK r1 dy1 P v T t e R' σ' ∧ R' ≤ R + 1) := by
    intro r1 dy1 σ0 σ1 R1 hR1 h87 hsh hV h4 h5 hF
    have hW1 := hV.1
    have n49 : 49 ≠ r1 6 := by omega
    have hV1 : VH r1 dy1 P T e R1 (aa_sI σ1 49 7 (nI t)) := by
      obtain ⟨a1, a2, a3, a4, a5⟩ := hV
      exact ⟨a1.sI _ _ _, a2.fr (by rw [sI_ne (by decide)]) (sI_ne (by decide)) (sI_ne (by decide)) (sI_ne (by decide)), by rw [sI_nk (by decide)]; exact a3, by rw [sI_nk (by decide)]; exact a4, by rw [sI_ne (Ne.symm n49)]; exact a5⟩
    have hr6 : ∀ σ2 : aa_St, aa_W r1 dy1 σ2 → σ2.2.2.1[r1 6]? = some (.inl (0, 25600)) := fun σ2 h2 => by rw [h2, ← hW1]; exact hsh
    have m20 := ccM_le (T := T) ok (2 ^ pl_cn T 14 - 1) 9 9
    obtain ⟨σ2, ⟨hF2, hK2⟩, hS2⟩ := c_X0_victory hr6 h87 ok hb0 (by omega) he 20 (2 ^ pl_cn T 14 - 1) 9 9 t 0 _ m20 (by omega) vd9 vd9 (by omega) ht (by omega) hV1
    have hV2 := hV1.tr h87 hF2 hK2
    have hW2 := hV2.1
    have q49 : ∀ k, σ2.1 49 k = (aa_sI σ1 49 7 (nI t)).1 49 k := fun k => by rw [hF2.2 49 n49]
    refine aa_go (aa_aload0 iX0_look_93) (aa_go (aa_iload2 iX0_look_94) (aa_go (aa_putI iX0_look_95 fl_X0_28 (fun h => nomatch h) (sh_49 hW1) rfl ⟨rfl, rfl⟩) (aa_go (aa_aload0 iX0_look_98) (aa_go (aa_aload0 iX0_look_99) (aa_go (aa_aload0 iX0_look_100) (aa_go (aa_getR iX0_look_101 fl_X0_50 (sh_49 hW1) rfl) (aa_go (aa_cVi iX0_look_104 (c_X1_all51 hV1.1 hV1.2.1.2.2.1) (by decide) lc_X1_all lk_X0_63 (sh_51 hW1) rfl rfl (Nat.le_of_ble_eq_true rfl)) ?_)))))))
    refine aa_go (aa_bipush iX0_look_107 kb_9) (aa_go (aa_bipush iX0_look_109 kb_9) (aa_go (aa_iload2 iX0_look_111) (aa_go (aa_iconst iX0_look_112 ki_0) (aa_go (aa_cVi iX0_look_113 (hS2) (by decide) lc_X0_victory lk_X0_66 (sh_49 hW1) rfl rfl (Nat.le_of_ble_eq_true rfl)) ?_))))
    refine aa_go (aa_putI iX0_look_116 fl_X0_31 (fun h => nomatch h) (sh_49 hW2) rfl ⟨nI_narB _, by cases (cc1 P T e t (2 ^ pl_cn T 14 - 1) 9 9) <;> rfl⟩) ?_
    refine aa_vret iX0_look_119 rfl ?_
    refine ⟨rfl, ?_, R1, ⟨h87, hr6 _ (hW2.sI _ _ _), ?_, ?_, ?_, ?_, ?_⟩, hR1⟩
    · have f2 : FrA [49, 51, 52, 53, 54, r1 6] (aa_sI σ1 49 7 (nI t)) σ2 := hF2.A (by simp)
      exact ((hF.s (by simp) _ _).tr f2).s (by simp) _ _
    · obtain ⟨a1, a2, a3, a4, a5⟩ := hV2
      exact ⟨a1.sI _ _ _, a2.fr (by rw [sI_ne (by decide)]) (sI_ne (by decide)) (sI_ne (by decide)) (sI_ne (by decide)), by rw [sI_nk (by decide)]; exact a3, by rw [sI_nk (by decide)]; exact a4, by rw [sI_ne (Ne.symm n49)]; exact a5⟩
    · rw [sI_nk (by decide), q49, sI_nk (by decide)]; exact h4
    · rw [sI_nk (by decide), q49, sI_nk (by decide)]; exact h5
    · rw [sI_nk (by decide), q49, sI_eq]
    · rw [sI_eq]
  -- from 54
  have anew : ∀ (r1 : Nat → Nat) dy1 (σ1 : aa_St), aa_W r1 dy1 σ1 → XP P hs σ1.1 → σ1.1 7 15 = nI v → 87 ≤ r1 6 → σ1.2.2.1[r1 6]? = some (.inl (0, 25600)) → E6 R (σ1.1 (r1 6)) → σ1.1 49 3 = nI R → aa_V mX0_look 80 54 [some (.ref 49), some (.int (nI T)), some (.int (nI t)), some (.int (nI e))] [] σ1 (fun ra σ' => ra = none ∧ FrA [49, 51, 52, 53, 54, r1 6] σ1 σ' ∧ ∃ R', LK r1 dy1 P v T t e R' σ' ∧ R' ≤ R + 1) := by
    intro r1 dy1 σ1 hW1 hX1 hv1 h87 hsh hE h3
    have n49 : 49 ≠ r1 6 := by omega
    have hWx := (((hW1.sI 49 3 (nI (R + 1))).sI 49 4 (nI v)).sI 49 5 (nI T)).sI 49 6 (nI e)
    have hFx : FrA [49, 51, 52, 53, 54, r1 6] σ1 (aa_sI (aa_sI (aa_sI (aa_sI σ1 49 3 (nI (R + 1))) 49 4 (nI v)) 49 5 (nI T)) 49 6 (nI e)) := (((FrA.rf.s (by simp) _ _).s (by simp) _ _).s (by simp) _ _).s (by simp) _ _
    have hXx : XP P hs (aa_sI (aa_sI (aa_sI (aa_sI σ1 49 3 (nI (R + 1))) 49 4 (nI v)) 49 5 (nI T)) 49 6 (nI e)).1 := hFx.XP hX1 (fun x hx => by simp at hx; omega)
    obtain ⟨σ2, ⟨hF2, hO2, -⟩, hS2⟩ := c_X1_lay51 hWx hXx hT h8
    have hW2 := hF2.W hWx
    have q49 : ∀ k, σ2.1 49 k = (aa_sI (aa_sI (aa_sI (aa_sI σ1 49 3 (nI (R + 1))) 49 4 (nI v)) 49 5 (nI T)) 49 6 (nI e)).1 49 k := fun k => by rw [hF2.2 49 (by decide)]
    have q6 : σ2.1 (r1 6) = σ1.1 (r1 6) := by
      rw [hF2.2 (r1 6) (by simp; omega), sI_ne (Ne.symm n49), sI_ne (Ne.symm n49), sI_ne (Ne.symm n49), sI_ne (Ne.symm n49)]
    have hV2 : VH r1 dy1 P T e (R + 1) σ2 := by
      refine ⟨hW2, hO2, ?_, ?_, ?_⟩
      · rw [q49, sI_nk (by decide), sI_nk (by decide), sI_nk (by decide), sI_eq]
      · rw [q49, sI_eq]
      · rw [q6]; exact hE.up
    have f2 : FrA [49, 51, 52, 53, 54, r1 6] σ1 σ2 := hFx.tr ⟨hF2.1, fun x hx => hF2.2 x (fun c => hx (by simp at c ⊢; omega))⟩
    have hv2 : (aa_sI σ1 49 3 (nI (R + 1))).1 7 15 = nI v := by rw [sI_ne (by decide)]; exact hv1
    refine aa_go (aa_aload0 iX0_look_54) (aa_go (aa_dup iX0_look_55 rfl) (aa_go (aa_getE iX0_look_56 fl_X0_15 (sh_49 hW1) rfl h3) (aa_go (aa_iconst iX0_look_59 ki_1) (aa_go (aa_iaddN iX0_look_60 ) (aa_go (aa_putI iX0_look_61 fl_X0_15 (fun h => nomatch h) (sh_49 hW1) rfl ⟨rfl, rfl⟩) (aa_go (aa_aload0 iX0_look_64) (aa_go (aa_aload0 iX0_look_65) ?_)))))))
    refine aa_go (aa_getR iX0_look_66 fl_X0_41 (sh_49 hW1) rfl) (aa_go (aa_cVi iX0_look_69 (c_X6_version (hW1.sI 49 3 (nI (R + 1))) hv2) (by decide) lc_X6_version lk_X0_54 (sh_7 hW1) rfl rfl (Nat.le_of_ble_eq_true rfl)) (aa_go (aa_putI iX0_look_72 fl_X0_19 (fun h => nomatch h) (sh_49 hW1) rfl ⟨rfl, rfl⟩) (aa_go (aa_aload0 iX0_look_75) (aa_go (aa_iload1 iX0_look_76) (aa_go (aa_putI iX0_look_77 fl_X0_22 (fun h => nomatch h) (sh_49 hW1) rfl ⟨rfl, rfl⟩) (aa_go (aa_aload0 iX0_look_80) (aa_go (aa_iload3 iX0_look_81) ?_)))))))
    refine aa_go (aa_putI iX0_look_82 fl_X0_25 (fun h => nomatch h) (sh_49 hW1) rfl ⟨rfl, rfl⟩) (aa_go (aa_aload0 iX0_look_85) (aa_go (aa_getR iX0_look_86 fl_X0_50 (sh_49 hW1) rfl) (aa_go (aa_iload1 iX0_look_89) (aa_go (aa_cVv iX0_look_90 (hS2) (by decide) lc_X1_lay lk_X0_59 (sh_51 hW1) rfl rfl (Nat.le_of_ble_eq_true rfl)) ?_))))
    refine tail r1 dy1 σ1 σ2 (R + 1) (Nat.le_refl _) h87 (by rw [hW2, ← hW1]; exact hsh) hV2 ?_ ?_ f2
    · rw [q49, sI_nk (by decide), sI_nk (by decide), sI_eq]
    · rw [q49, sI_nk (by decide), sI_eq]
  -- from 17
  have from17 : ∀ (r1 : Nat → Nat) dy1 (σ1 : aa_St), aa_W r1 dy1 σ1 → XP P hs σ1.1 → σ1.1 7 15 = nI v → 87 ≤ r1 6 → σ1.2.2.1[r1 6]? = some (.inl (0, 25600)) → E6 R (σ1.1 (r1 6)) → σ1.1 49 3 = nI R → (∀ T e, σ1.1 49 4 = nI v → σ1.1 49 5 = nI T → σ1.1 49 6 = nI e → T < 65536 → e ≤ 1 → R ≠ 0 → FO P T 51 σ1.1 ∧ KZ P T e R (σ1.1 (r1 6))) → aa_V mX0_look 80 17 [some (.ref 49), some (.int (nI T)), some (.int (nI t)), some (.int (nI e))] [] σ1 (fun ra σ' => ra = none ∧ FrA [49, 51, 52, 53, 54, r1 6] σ1 σ' ∧ ∃ R', LK r1 dy1 P v T t e R' σ' ∧ R' ≤ R + 1) := by
    intro r1 dy1 σ1 hW1 hX1 hv1 h87 hsh hE h3 hold
    have an := anew r1 dy1 σ1 hW1 hX1 hv1 h87 hsh hE h3
    refine aa_go (aa_aload0 iX0_look_17) (aa_go (aa_getE iX0_look_18 fl_X0_15 (sh_49 hW1) rfl h3) ?_)
    refine aa_if_eqN iX0_look_21 (by omega) (fun g1 => ?_) (fun g1 => ?_)
    · skip
      exact an
    · skip
      refine aa_go (aa_aload0 iX0_look_24) (aa_go (aa_getI iX0_look_25 fl_X0_19 (sh_49 hW1) rfl) (aa_go (aa_aload0 iX0_look_28) (aa_go (aa_getR iX0_look_29 fl_X0_41 (sh_49 hW1) rfl) (aa_go (aa_cVi iX0_look_32 (c_X6_version hW1 hv1) (by decide) lc_X6_version lk_X0_54 (sh_7 hW1) rfl rfl (Nat.le_of_ble_eq_true rfl)) ?_))))
      refine aa_ic_ne iX0_look_35 (fun g2 => ?_) (fun g2 => ?_)
      · skip
        exact an
      · skip
        refine aa_go (aa_aload0 iX0_look_38) (aa_go (aa_getI iX0_look_39 fl_X0_22 (sh_49 hW1) rfl) (aa_go (aa_iload1 iX0_look_42) ?_))
        refine aa_ic_ne iX0_look_43 (fun g3 => ?_) (fun g3 => ?_)
        · skip
          exact an
        · skip
          refine aa_go (aa_aload0 iX0_look_46) (aa_go (aa_getI iX0_look_47 fl_X0_25 (sh_49 hW1) rfl) (aa_go (aa_iload3 iX0_look_50) ?_))
          refine aa_ic_eq iX0_look_51 (fun g4 => ?_) (fun g4 => ?_)
          · skip
            obtain ⟨a1, a2⟩ := hold T e g2 g3 g4 (by omega) he g1
            exact tail r1 dy1 σ1 σ1 R (by omega) h87 hsh ⟨hW1, a1, h3, g4, a2⟩ g2 g3 FrA.rf
          · skip
            exact an
  rcases hS with ⟨h3, ⟨h50, hR0⟩ | ⟨h87, hsh, hE, hold⟩⟩
  · have hlen := hW.len
    have hW1 := hW.nw (.inl (0, 25600)) 25600
    have hI := chg_I hW
    have hG := GX.chg (v := v) hW h50
    have hsh : (aa_chgS σ (87 + dy.length)).2.2.1[nup r 6 (87 + dy.length) 6]? = some (.inl (0, 25600)) := by
      rw [nup_eq, hW.chg, List.getElem?_append_right (by rw [aa_SH_len]; omega), aa_SH_len, Nat.add_sub_cancel_left, List.getElem?_append_right (Nat.le_refl _), Nat.sub_self]; rfl
    have hE : E6 R ((aa_chgS σ (87 + dy.length)).1 (nup r 6 (87 + dy.length) 6)) := by
      intro k hk
      refine ⟨0, ?_, Nat.zero_le _⟩
      rw [nup_eq]
      show (if 87 + dy.length = σ.2.2.1.length then 0 else σ.1 _ k) = nI 0
      rw [if_pos hlen.symm]; rfl
    have hX1 := hG.XP (by simp) hX
    have fr := from17 _ _ _ hW.chg hX1 (by rw [hI 7 (by omega)]; exact hv) (by rw [nup_eq]; omega) hsh hE (by rw [hI 49 (by omega)]; exact h3) (fun _ _ _ _ _ _ _ q => absurd hR0 q)
    have key : aa_V mX0_look 80 0 [some (.ref 49), some (.int (nI T)), some (.int (nI t)), some (.int (nI e))] [] σ (fun ra σ' => ra = none ∧ FrA [49, 51, 52, 53, 54, nup r 6 (87 + dy.length) 6] (aa_chgS σ (87 + dy.length)) σ' ∧ ∃ R', LK (nup r 6 (87 + dy.length)) (dy ++ [.inl (0, 25600)]) P v T t e R' σ' ∧ R' ≤ R + 1) := by
      have hs_r6 : σ.2.2.1[r 6]? = some (.inl (0, 0)) := by rw [h50]; exact sh_50 hW
      refine aa_go (aa_aload0 iX0_look_0) (aa_go (aa_getR iX0_look_1 fl_X0_9 (sh_49 hW) rfl) (aa_go (aa_alen iX0_look_4 hs_r6 (by decide)) ?_))
      refine aa_if_neN iX0_look_5 (by omega) (fun h1 => ?_) (fun h1 => ?_)
      · skip
        exact absurd rfl h1
      · skip
        refine aa_go (aa_aload0 iX0_look_8) (aa_go (aa_sipush iX0_look_9 ks_25600) (aa_go (aa_newa (t := 0) iX0_look_12 la_int (fun _ => rfl) (by decide) rfl (nI_nneg (by omega)) (nI_clamp (by omega)) (by decide)) ?_))
        rw [hlen]
        refine aa_go (aa_putR iX0_look_14 fl_X0_9 (fun h => nomatch h) (sh_49 hW1) (Nat.le_of_ble_eq_true rfl) (fun _ => ⟨rfl, rfl⟩)) ?_
        exact fr
    obtain ⟨ra, σ', ⟨rfl, hF, R', h1, h2⟩, hS9⟩ := aa_S_of (avs := [.ref 49, .int (nI T), .int (nI t), .int (nI e)]) (by decide) 0 [some (.ref 49), some (.int (nI T)), some (.int (nI t)), some (.int (nI e))] rfl rfl key
    refine ⟨_, _, σ', R', ⟨?_, h1, h2⟩, hS9⟩
    rw [nup_eq] at hF
    have hA := GX.A (v := v) hW.chg hF (by refine ⟨?_, ?_, ?_, ?_, ?_⟩ <;> simp <;> omega)
    obtain ⟨a0, a1, a2, a3, a4, a5, a6, a7, a8⟩ := hG
    obtain ⟨b0, b1, b2, b3, b4, b5, b6, b7, b8⟩ := hA
    refine ⟨b0, a1, a2, a3, a4, a5, fun x hx hxa => ?_, fun x hx hxj => ?_, ⟨Nat.le_trans b8.1 a8.1, Nat.le_trans b8.2 a8.2⟩⟩
    · rw [b6 x (by omega) (fun c => hxa (by simp at c ⊢; omega)), a6 x hx List.not_mem_nil]
    · rw [b7 x (by omega) (fun j hj => absurd hj List.not_mem_nil), a7 x hx hxj]
  · have fr := from17 r dy σ hW hX hv h87 hsh hE h3 hold
    have key : aa_V mX0_look 80 0 [some (.ref 49), some (.int (nI T)), some (.int (nI t)), some (.int (nI e))] [] σ (fun ra σ' => ra = none ∧ FrA [49, 51, 52, 53, 54, r 6] σ σ' ∧ ∃ R', LK r dy P v T t e R' σ' ∧ R' ≤ R + 1) := by
      have hs_r6 := hsh
      refine aa_go (aa_aload0 iX0_look_0) (aa_go (aa_getR iX0_look_1 fl_X0_9 (sh_49 hW) rfl) (aa_go (aa_alen iX0_look_4 hs_r6 (by decide)) ?_))
      refine aa_if_neN iX0_look_5 (by omega) (fun h1 => ?_) (fun h1 => ?_)
      · skip
        exact fr
      · skip
        exact absurd h1 (by decide)
    obtain ⟨ra, σ', ⟨rfl, hF, R', h1, h2⟩, hS9⟩ := aa_S_of (avs := [.ref 49, .int (nI T), .int (nI t), .int (nI e)]) (by decide) 0 [some (.ref 49), some (.int (nI T)), some (.int (nI t)), some (.int (nI e))] rfl rfl key
    refine ⟨r, dy, σ', R', ⟨?_, h1, h2⟩, hS9⟩
    exact (GX.A hW hF (by refine ⟨?_, ?_, ?_, ?_, ?_⟩ <;> simp <;> omega)).mono (fun x hx => hx) (fun x hx => absurd hx List.not_mem_nil)
end
