section
variable {M : aa_M} {d pc pn : Nat} {ls : aa_L} {st : List Value} {σ : aa_St}
theorem aa_balE {a n k : Nat} {v : Int32} (h : aa_At M pc .baload 1 pn) (hsh : σ.2.2.1[a]? = some (.inl (3, n))) (hn : n < 2147483648) (hk : k < n) (he : σ.1 a k = v) : aa_Go M d pc ls (.int (nI k) :: .ref a :: st) σ pn ls (.int v :: st) σ := he ▸ aa_balN h hsh hn hk
end
theorem nb1 : narrow .byte (.int (nI 1)) = .int (nI 1) := by decide +kernel
theorem nb2 : narrow .byte (.int (nI 2)) = .int (nI 2) := by decide +kernel
theorem oS_none {o : Option (Nat × Nat)} (h : ∀ x, o = some x → x.1 < 4 ∧ x.2 ≤ 7) : oS o = -1 ↔ o = none := by
  cases o with
  | none => exact ⟨fun _ => rfl, fun _ => rfl⟩
  | some x =>
    refine ⟨fun e => ?_, fun e => nomatch e⟩
    have h1 := h x rfl
    have : ¬ oS (some x) < 0 := nI_nneg (by show x.1 * 7 + x.2 < _; omega)
    rw [e] at this
    exact absurd (by decide : (-1 : Int32) < 0) this
theorem wst_ok (s : Nat) : ∀ x, wst s = some x → x.1 < 4 ∧ x.2 ≤ 7 := by
  intro x hx
  have := wml_mem (List.mem_of_find?_eq_some hx)
  have h2 := wr_le s x.1
  exact ⟨this.1, by omega⟩
def KBs (s : Nat) (x : Int32) : Prop := x = nI 0 ∨ x = nI (if wv s then 2 else 1)
def KB (f : Nat → Int32) : Prop := ∀ s, s < 4096 → KBs s (f s)
theorem KB.set {σ : aa_St} {q s : Nat} {x : Int32} (h : KB (σ.1 q)) (hx : KBs s x) : KB ((aa_sI σ q s x).1 q) := by
  intro t ht
  rw [sI_at]
  by_cases c : t = s
  · rw [if_pos c, c]; exact hx
  · rw [if_neg c]; exact h t ht
section
variable {r : Nat → Nat} {dy : List aa_Shp}
theorem c_X8_stoneFrom (hr3 : ∀ σ : aa_St, aa_W r dy σ → σ.2.2.1[r 3]? = some (.inl (3, 4096))) {m s dp : Nat} (hs : s < 4096) (hm : ws s ≤ m) (hdp : dp + ws s ≤ 40)
    (hV : ∀ s2 (σ : aa_St), s2 < 4096 → ws s2 < ws s → aa_W r dy σ → KB (σ.1 (r 3)) → ∃ σ' : aa_St, (FrI (r 3) σ σ' ∧ KB (σ'.1 (r 3))) ∧ aa_SX mX8_victoryFrom (4 + 2 * m) [.ref 36, .int (nI s2), .int (nI (dp + 1))] σ (some (.int (nI (wv s2).toNat))) σ')
    {σ : aa_St} (hW : aa_W r dy σ) (hK : KB (σ.1 (r 3))) : ∃ σ' : aa_St, (FrI (r 3) σ σ' ∧ KB (σ'.1 (r 3))) ∧ aa_SX mX8_stoneFrom (5 + 2 * m) [.ref 36, .int (nI s), .int (nI dp)] σ (some (.int (oS (wst s)))) σ' := by
  have outer : ∀ f i (σ1 : aa_St) y4 y5, 4 - i < f → i ≤ 4 → FrI (r 3) σ σ1 → KB (σ1.1 (r 3)) → (wp s i 0).find? (fun x => !wv (cut s x.1 x.2)) = none → aa_V mX8_stoneFrom (5 + 2 * m) 2 [some (.ref 36), some (.int (nI s)), some (.int (nI dp)), some (.int (nI i)), y4, y5] [] σ1 (fun ra σ' => ra = some (.int (oS (wst s))) ∧ (FrI (r 3) σ σ' ∧ KB (σ'.1 (r 3)))) := by
    intro f
    induction f with
    | zero => intro i σ1 y4 y5 g1; omega
    | succ f ih =>
      intro i σ1 y4 y5 g1 g2 hF hK1 hno
      have hW1 := hF.W hW
      refine aa_go (aa_iload3 iX8_stoneFrom_2) (aa_go (aa_iconst iX8_stoneFrom_3 ki_4) ?_)
      refine aa_ic_geN iX8_stoneFrom_4 (by omega) (by omega) (fun g3 => ?_) (fun g3 => ?_)
      · skip
        have e : i = 4 := by omega
        subst e
        refine aa_go (aa_iconst iX8_stoneFrom_64 ki_m1) ?_
        refine aa_iret iX8_stoneFrom_65 rfl ?_
        refine ⟨?_, hF, hK1⟩
        rw [wst, wml, hno]; rfl
      · skip
        have wl := wr_le s i
        have inner : ∀ f c (σ2 : aa_St), wr s i - c < f → c ≤ wr s i → FrI (r 3) σ σ2 → KB (σ2.1 (r 3)) → (wp s i c).find? (fun x => !wv (cut s x.1 x.2)) = none → aa_V mX8_stoneFrom (5 + 2 * m) 20 [some (.ref 36), some (.int (nI s)), some (.int (nI dp)), some (.int (nI i)), some (.int (nI (wr s i))), some (.int (nI c))] [] σ2 (fun ra σ' => ra = some (.int (oS (wst s))) ∧ (FrI (r 3) σ σ' ∧ KB (σ'.1 (r 3)))) := by
          intro f2
          induction f2 with
          | zero => intro c σ2 g1; omega
          | succ f2 ih2 =>
            intro c σ2 k1 k2 hF2 hK2 hno2
            have hW2 := hF2.W hW
            refine aa_go (aa_iload5 iX8_stoneFrom_20) (aa_go (aa_iload4 iX8_stoneFrom_22) ?_)
            refine aa_ic_geN iX8_stoneFrom_24 (by omega) (by omega) (fun k3 => ?_) (fun k3 => ?_)
            · skip
              have e : c = wr s i := by omega
              subst e
              refine aa_go (aa_iincN3 (k := 1) iX8_stoneFrom_58 rfl (by decide)) (aa_go (aa_goto iX8_stoneFrom_61) ?_)
              exact ih (i + 1) σ2 _ _ (by omega) (by omega) hF2 hK2 (by rw [wp_i]; exact hno2)
            · skip
              obtain ⟨σ3, ⟨hF3, hK3⟩, hS3⟩ := hV (cut s i c) σ2 (cut_lt s i c) (ws_cut g3 k3) hW2 hK2
              refine aa_go (aa_aload0 iX8_stoneFrom_27) (aa_go (aa_iload1 iX8_stoneFrom_28) (aa_go (aa_iload3 iX8_stoneFrom_29) (aa_go (aa_iload5 iX8_stoneFrom_30) (aa_go (aa_cSi iX8_stoneFrom_32 (c_X8_without hs g3 (by omega)) (by omega) lc_X8_without lk_X8_23 rfl (Nat.le_of_ble_eq_true rfl)) (aa_go (aa_iload2 iX8_stoneFrom_35) (aa_go (aa_iconst iX8_stoneFrom_36 ki_1) (aa_go (aa_iaddN iX8_stoneFrom_37 ) ?_)))))))
              refine aa_go (aa_cVi iX8_stoneFrom_38 (hS3) (by omega) lc_X8_victoryFrom lk_X8_27 (sh_36 hW2) rfl rfl (Nat.le_of_ble_eq_true rfl)) ?_
              refine aa_if_neB iX8_stoneFrom_41 (fun k4 => ?_) (fun k4 => ?_)
              · skip
                refine aa_go (aa_iincN5 (k := 1) iX8_stoneFrom_52 rfl (by decide)) (aa_go (aa_goto iX8_stoneFrom_55) ?_)
                refine ih2 (c + 1) σ3 (by omega) (by omega) (hF2.tr hF3) hK3 ?_
                rw [wp_c, List.find?_append, hno2]
                simp [k4]
              · skip
                have hf : wst s = some (i, c) := by
                  have e1 : (wp s i (c + 1)).find? (fun x => !wv (cut s x.1 x.2)) = some (i, c) := by
                    rw [wp_c, List.find?_append, hno2]
                    simp [k4]
                  have ex1 : ∀ e, c + 1 + e ≤ wr s i → (wp s i (c + 1 + e)).find? (fun x => !wv (cut s x.1 x.2)) = some (i, c) := by
                    intro e
                    induction e with
                    | zero => intro _; exact e1
                    | succ e ihe =>
                      intro he
                      rw [show c + 1 + (e + 1) = c + 1 + e + 1 by omega, wp_c, List.find?_append, ihe (by omega)]; rfl
                  have ex2 : (wp s (i + 1) 0).find? (fun x => !wv (cut s x.1 x.2)) = some (i, c) := by
                    have := ex1 (wr s i - (c + 1)) (by omega)
                    rw [show c + 1 + (wr s i - (c + 1)) = wr s i by omega] at this
                    rw [wp_i]; exact this
                  have ex3 : ∀ i' c', (wp s i' 0).find? (fun x => !wv (cut s x.1 x.2)) = some (i, c) → (wp s i' c').find? (fun x => !wv (cut s x.1 x.2)) = some (i, c) := by
                    intro i' c' h
                    induction c' with
                    | zero => exact h
                    | succ c' ihc => rw [wp_c, List.find?_append, ihc]; rfl
                  have ex4 : ∀ e, (wp s (i + 1 + e) 0).find? (fun x => !wv (cut s x.1 x.2)) = some (i, c) := by
                    intro e
                    induction e with
                    | zero => exact ex2
                    | succ e ihe => rw [show i + 1 + (e + 1) = i + 1 + e + 1 by omega, wp_i]; exact ex3 _ _ ihe
                  have := ex4 (4 - (i + 1))
                  rw [show i + 1 + (4 - (i + 1)) = 4 by omega] at this
                  exact this
                refine aa_go (aa_iload3 iX8_stoneFrom_44) (aa_go (aa_bipush iX8_stoneFrom_45 kb_7) (aa_go (aa_imulN iX8_stoneFrom_47 ) (aa_go (aa_iload5 iX8_stoneFrom_48) (aa_go (aa_iaddN iX8_stoneFrom_50 ) ?_))))
                refine aa_iret iX8_stoneFrom_51 rfl ?_
                exact ⟨by rw [hf]; rfl, hF2.tr hF3, hK3⟩
        refine aa_go (aa_iload1 iX8_stoneFrom_7) (aa_go (aa_iconst iX8_stoneFrom_8 ki_3) (aa_go (aa_iload3 iX8_stoneFrom_9) (aa_go (aa_imulN iX8_stoneFrom_10 ) (aa_go (aa_ishrN iX8_stoneFrom_11 (by omega) (by omega)) (aa_go (aa_bipush iX8_stoneFrom_12 kb_7) (aa_go (aa_iandN iX8_stoneFrom_14 ) ?_))))))
        refine aa_go (aa_top (y := nI (wr s i)) (by rw [wr_sh])) ?_
        refine aa_go (aa_istore4 iX8_stoneFrom_15 rfl (by decide)) (aa_go (aa_iconst iX8_stoneFrom_17 ki_0) (aa_go (aa_istore5 iX8_stoneFrom_18 rfl (by decide)) ?_))
        exact inner (wr s i + 1) 0 σ1 (by omega) (by omega) hF hK1 hno
  have key : aa_V mX8_stoneFrom (5 + 2 * m) 0 [some (.ref 36), some (.int (nI s)), some (.int (nI dp)), none, none, none] [] σ (fun ra σ' => ra = some (.int (oS (wst s))) ∧ (FrI (r 3) σ σ' ∧ KB (σ'.1 (r 3)))) := by
    refine aa_go (aa_iconst iX8_stoneFrom_0 ki_0) (aa_go (aa_istore3 iX8_stoneFrom_1 rfl (by decide)) ?_)
    exact outer 5 0 σ _ _ (by omega) (by omega) FrI.rf hK rfl
  obtain ⟨ra, σ', ⟨rfl, h1⟩, hS9⟩ := aa_S_of (avs := [.ref 36, .int (nI s), .int (nI dp)]) (by decide) 3 [some (.ref 36), some (.int (nI s)), some (.int (nI dp)), none, none, none] rfl rfl key
  exact ⟨σ', h1, hS9⟩
theorem c_X8_victoryFrom (hr3 : ∀ σ : aa_St, aa_W r dy σ → σ.2.2.1[r 3]? = some (.inl (3, 4096))) : ∀ m s dp (σ : aa_St), ws s ≤ m → s < 4096 → dp + ws s ≤ 40 → aa_W r dy σ → KB (σ.1 (r 3)) → ∃ σ' : aa_St, (FrI (r 3) σ σ' ∧ KB (σ'.1 (r 3))) ∧ aa_SX mX8_victoryFrom (6 + 2 * m) [.ref 36, .int (nI s), .int (nI dp)] σ (some (.int (nI (wv s).toNat))) σ' := by
  intro m
  induction m using Nat.strongRecOn with
  | ind m ih =>
    intro s dp σ hm hs hdp hW hK
    have w2 : (if wv s then 2 else 1) ≤ 2 := by split <;> decide
    have fin : ∀ (σ1 : aa_St) y3, FrI (r 3) σ σ1 → KB (σ1.1 (r 3)) → σ1.1 (r 3) s = nI (if wv s then 2 else 1) → aa_V mX8_victoryFrom (6 + 2 * m) 66 [some (.ref 36), some (.int (nI s)), some (.int (nI dp)), y3] [] σ1 (fun ra σ' => ra = some (.int (nI (wv s).toNat)) ∧ (FrI (r 3) σ σ' ∧ KB (σ'.1 (r 3)))) := by
      intro σ1 y3 hF hK1 he
      have hW1 := hF.W hW
      have hs_r3 := hr3 σ1 hW1
      refine aa_go (aa_aload0 iX8_victoryFrom_66) (aa_go (aa_getR iX8_victoryFrom_67 fl_X8_9 (sh_36 hW1) rfl) (aa_go (aa_iload1 iX8_victoryFrom_70) (aa_go (aa_balE iX8_victoryFrom_71 hs_r3 (by omega) (by omega) (he)) (aa_go (aa_iconst iX8_victoryFrom_72 ki_2) ?_))))
      refine aa_ic_neN iX8_victoryFrom_73 (by omega) (by omega) (fun h1 => ?_) (fun h1 => ?_)
      · skip
        refine aa_go (aa_iconst iX8_victoryFrom_80 ki_0) ?_
        refine aa_zretF iX8_victoryFrom_81 rfl ?_
        refine ⟨?_, hF, hK1⟩
        cases e : wv s with
        | false => rfl
        | true => rw [e] at h1; exact absurd rfl h1
      · skip
        refine aa_go (aa_iconst iX8_victoryFrom_76 ki_1) (aa_go (aa_goto iX8_victoryFrom_77) ?_)
        refine aa_zretT iX8_victoryFrom_81 rfl ?_
        refine ⟨?_, hF, hK1⟩
        cases e : wv s with
        | true => rfl
        | false => rw [e] at h1; exact absurd h1 (by decide)
    have put : ∀ (σ1 : aa_St) (b : Bool), b = wv s → FrI (r 3) σ σ1 → KB (σ1.1 (r 3)) → aa_V mX8_victoryFrom (6 + 2 * m) 50 [some (.ref 36), some (.int (nI s)), some (.int (nI dp)), some (.int (nI b.toNat))] [] σ1 (fun ra σ' => ra = some (.int (nI (wv s).toNat)) ∧ (FrI (r 3) σ σ' ∧ KB (σ'.1 (r 3)))) := by
      intro σ1 b hb hF hK1
      have hW1 := hF.W hW
      have hs_r3 := hr3 σ1 hW1
      refine aa_go (aa_aload0 iX8_victoryFrom_50) (aa_go (aa_getR iX8_victoryFrom_51 fl_X8_9 (sh_36 hW1) rfl) (aa_go (aa_iload1 iX8_victoryFrom_54) (aa_go (aa_iload3 iX8_victoryFrom_55) ?_)))
      refine aa_if_eqB iX8_victoryFrom_56 (fun h1 => ?_) (fun h1 => ?_)
      · skip
        refine aa_go (aa_iconst iX8_victoryFrom_63 ki_1) (aa_go (aa_i2b iX8_victoryFrom_64) ?_)
        refine aa_go (aa_top (y := nI 1) (by decide)) ?_
        refine aa_go (aa_basN iX8_victoryFrom_65 hs_r3 (by omega) (by omega) (nb1)) ?_
        have e : nI 1 = nI (if wv s then 2 else 1) := by rw [← hb, h1]; rfl
        rw [e]
        exact fin _ _ (hF.s s _) (hK1.set (Or.inr rfl)) (by rw [sI_at, if_pos rfl])
      · skip
        refine aa_go (aa_iconst iX8_victoryFrom_59 ki_2) (aa_go (aa_goto iX8_victoryFrom_60) (aa_go (aa_i2b iX8_victoryFrom_64) ?_))
        refine aa_go (aa_top (y := nI 2) (by decide)) ?_
        refine aa_go (aa_basN iX8_victoryFrom_65 hs_r3 (by omega) (by omega) (nb2)) ?_
        have e : nI 2 = nI (if wv s then 2 else 1) := by rw [← hb, h1]; rfl
        rw [e]
        exact fin _ _ (hF.s s _) (hK1.set (Or.inr rfl)) (by rw [sI_at, if_pos rfl])
    have start : ∀ w, σ.1 (r 3) s = nI w → w ≤ 2 → (w = 0 ∨ w = (if wv s then 2 else 1)) → aa_V mX8_victoryFrom (6 + 2 * m) 0 [some (.ref 36), some (.int (nI s)), some (.int (nI dp)), none] [] σ (fun ra σ' => ra = some (.int (nI (wv s).toNat)) ∧ (FrI (r 3) σ σ' ∧ KB (σ'.1 (r 3)))) := by
      intro w hw hw2 hw3
      have hs_r3 := hr3 σ hW
      refine aa_go (aa_iload1 iX8_victoryFrom_0) ?_
      refine aa_go (aa_if_ltN iX8_victoryFrom_1 (by omega)) ?_
      refine aa_go (aa_iload1 iX8_victoryFrom_4) (aa_go (aa_aload0 iX8_victoryFrom_5) (aa_go (aa_getR iX8_victoryFrom_6 fl_X8_9 (sh_36 hW) rfl) (aa_go (aa_alen iX8_victoryFrom_9 hs_r3 (by decide)) ?_)))
      refine aa_ic_geN iX8_victoryFrom_10 (by omega) (by omega) (fun h1 => ?_) (fun h1 => ?_)
      · skip
        omega
      · skip
        refine aa_go (aa_iload2 iX8_victoryFrom_13) (aa_go (aa_bipush iX8_victoryFrom_14 kb_40) ?_)
        refine aa_ic_leN iX8_victoryFrom_16 (by omega) (by omega) (fun h2 => ?_) (fun h2 => ?_)
        · skip
          refine aa_go (aa_aload0 iX8_victoryFrom_21) (aa_go (aa_getR iX8_victoryFrom_22 fl_X8_9 (sh_36 hW) rfl) (aa_go (aa_iload1 iX8_victoryFrom_25) (aa_go (aa_balE iX8_victoryFrom_26 hs_r3 (by omega) (by omega) (hw)) ?_)))
          refine aa_if_neN iX8_victoryFrom_27 (by omega) (fun h3 => ?_) (fun h3 => ?_)
          · skip
            exact fin σ _ FrI.rf hK (by rw [hw, hw3.resolve_left h3])
          · skip
            refine aa_go (aa_iload1 iX8_victoryFrom_30) ?_
            refine aa_if_eqN iX8_victoryFrom_31 (by omega) (fun h4 => ?_) (fun h4 => ?_)
            · skip
              refine aa_go (aa_iconst iX8_victoryFrom_44 ki_1) (aa_go (aa_goto iX8_victoryFrom_45) (aa_go (aa_istore3 iX8_victoryFrom_49 rfl (by decide)) ?_))
              exact put σ true (by rw [wv_eq, h4]; rfl) FrI.rf hK
            · skip
              have hmp : 0 < ws s := by
                apply Classical.byContradiction
                intro c
                apply h4
                rw [← we_wr hs]
                rw [ws] at c
                unfold we
                omega
              obtain ⟨σ2, ⟨hF2, hK2⟩, hS2⟩ := c_X8_stoneFrom hr3 (m := m) hs hm hdp (fun s2 σ2 q1 q2 q3 q4 => by
                obtain ⟨σ3, hA, hB⟩ := ih (m - 1) (by omega) s2 (dp + 1) σ2 (by omega) q1 (by omega) q3 q4
                rw [show 6 + 2 * (m - 1) = 4 + 2 * m by omega] at hB
                exact ⟨σ3, hA, hB⟩) hW hK
              refine aa_go (aa_aload0 iX8_victoryFrom_34) (aa_go (aa_iload1 iX8_victoryFrom_35) (aa_go (aa_iload2 iX8_victoryFrom_36) (aa_go (aa_cVi iX8_victoryFrom_37 (hS2) (by omega) lc_X8_stoneFrom lk_X8_15 (sh_36 hW) rfl rfl (Nat.le_of_ble_eq_true rfl)) (aa_go (aa_iconst iX8_victoryFrom_40 ki_m1) ?_))))
              refine aa_ic_eq iX8_victoryFrom_41 (fun h5 => ?_) (fun h5 => ?_)
              · skip
                have h6 := (oS_none (wst_ok s)).mp h5
                refine aa_go (aa_iconst iX8_victoryFrom_48 ki_0) (aa_go (aa_istore3 iX8_victoryFrom_49 rfl (by decide)) ?_)
                exact put σ2 false (by rw [wv_eq, h6]; simp [h4]) hF2 hK2
              · skip
                have h6 : wst s ≠ none := fun q => h5 ((oS_none (wst_ok s)).mpr q)
                refine aa_go (aa_iconst iX8_victoryFrom_44 ki_1) (aa_go (aa_goto iX8_victoryFrom_45) (aa_go (aa_istore3 iX8_victoryFrom_49 rfl (by decide)) ?_))
                refine put σ2 true ?_ hF2 hK2
                rw [wv_eq]
                cases h7 : wst s with
                | none => exact absurd h7 h6
                | some x => simp
        · skip
          omega
    have key : aa_V mX8_victoryFrom (6 + 2 * m) 0 [some (.ref 36), some (.int (nI s)), some (.int (nI dp)), none] [] σ (fun ra σ' => ra = some (.int (nI (wv s).toNat)) ∧ (FrI (r 3) σ σ' ∧ KB (σ'.1 (r 3)))) := by
      rcases hK s hs with h | h
      · exact start 0 h (by decide) (Or.inl rfl)
      · exact start _ h w2 (Or.inr rfl)
    obtain ⟨ra, σ', ⟨rfl, h1⟩, hS9⟩ := aa_S_of (avs := [.ref 36, .int (nI s), .int (nI dp)]) (by decide) 1 [some (.ref 36), some (.int (nI s)), some (.int (nI dp)), none] rfl rfl key
    exact ⟨σ', h1, hS9⟩
end
