/-! FEW: the walks of two objects, 41 and 51 -/
theorem sI_ne {σ : aa_St} {c k : Nat} {x : Int32} {a : Nat} (h : a ≠ c) : (aa_sI σ c k x).1 a = σ.1 a := aa_u2_ne h
theorem sI_nk {σ : aa_St} {c k : Nat} {x : Int32} {p : Nat} (h : p ≠ k) : (aa_sI σ c k x).1 c p = σ.1 c p := by rw [sI_at, if_neg h]
theorem sI_eq {σ : aa_St} {c k : Nat} {x : Int32} : (aa_sI σ c k x).1 c k = x := by rw [sI_at, if_pos rfl]
theorem FrA.rf {A : List Nat} {σ : aa_St} : FrA A σ σ := ⟨rfl, fun _ _ => rfl⟩
theorem FrA.s {A : List Nat} {σ σ1 : aa_St} (h : FrA A σ σ1) {c : Nat} (hc : c ∈ A) (k : Nat) (x : Int32) : FrA A σ (aa_sI σ1 c k x) := ⟨h.1, fun a ha => by
  have e : a ≠ c := fun e => ha (by rw [e]; exact hc)
  exact (aa_u2_ne e).trans (h.2 a ha)⟩
theorem FrA.W {A : List Nat} {r : Nat → Nat} {dy : List aa_Shp} {σ σ' : aa_St} (hF : FrA A σ σ') (hW : aa_W r dy σ) : aa_W r dy σ' := hW.of2 (by rw [hF.1])
theorem FrA.XP {A : List Nat} {P : pl_T} {hs : List Nat} {σ σ' : aa_St} (hF : FrA A σ σ') (hX : XP P hs σ.1) (hA : ∀ x, x ∈ A → 19 < x) : XP P hs σ'.1 := by
  have q : ∀ x, x ≤ 19 → σ'.1 x = σ.1 x := fun x hx => hF.2 x (fun c => by have := hA x c; omega)
  exact hX.fr ⟨by rw [q 7 (by decide)], by rw [q 7 (by decide)], by rw [q 7 (by decide)]⟩ (fun x h1 h2 => q x (by omega))
theorem bm_step (n : Nat) (f : Nat → Bool) : bm n f ||| (f n).toNat <<< n = bm (n + 1) f := by
  rw [bm]
  cases f n <;> simp [Nat.one_shiftLeft]
theorem bm_31 {n : Nat} {f : Nat → Bool} (h : n ≤ 14) : bm n f < 16384 := Nat.lt_of_lt_of_le (bm_lt n f) (pw14 h)
theorem cn_14 (T : Nat) : pl_cn T 14 ≤ 14 := cn_le T 14
def FN (T q : Nat) (i : Nat → Nat → Int32) : Prop := i q 5 = nI (pl_cn T 14) ∧ ∀ k, k < pl_cn T 14 → i (q + 1) k = nI (fk T k)
def FO (P : pl_T) (T q : Nat) (i : Nat → Nat → Int32) : Prop := T < 2 ^ pl_n P ∧ pl_cn T 14 ≤ 8 ∧ FN T q i ∧ (∀ k, k < pl_cn T 14 → i (q + 2) k = nI (rn T (pl_cl P (fk T k)))) ∧ ∀ h, h ≤ 1 → i (q + 3) h = nI (rn T (T &&& pl_al P h))
theorem FO.fr {P : pl_T} {T q : Nat} {i i' : Nat → Nat → Int32} (h : FO P T q i) (h5 : i' q 5 = i q 5) (h1 : i' (q + 1) = i (q + 1)) (h2 : i' (q + 2) = i (q + 2)) (h3 : i' (q + 3) = i (q + 3)) : FO P T q i' := by
  obtain ⟨a1, a2, ⟨a3, a4⟩, a5, a6⟩ := h
  exact ⟨a1, a2, ⟨by rw [h5]; exact a3, fun k hk => by rw [h1]; exact a4 k hk⟩, fun k hk => by rw [h2]; exact a5 k hk, fun h hh => by rw [h3]; exact a6 h hh⟩
section
variable {r : Nat → Nat} {dy : List aa_Shp} {σ : aa_St} {P : pl_T} {hs : List Nat} {T : Nat}
theorem c_X1_many41 (hW : aa_W r dy σ) (hN : FN T 41 σ.1) : aa_SX mX1_many 1 [.ref 41] σ (some (.int (nI (pl_cn T 14)))) σ := by
  refine aa_E_of (by decide) 0 [some (.ref 41)] rfl rfl ?_
  refine aa_go (aa_aload0 iX1_many_0) (aa_go (aa_getE iX1_many_1 fl_X1_25 (sh_41 hW) rfl hN.1) ?_)
  refine aa_iret iX1_many_4 rfl ?_
  exact ⟨rfl, rfl⟩
theorem c_X1_all41 (hW : aa_W r dy σ) (hN : FN T 41 σ.1) : aa_SX mX1_all 1 [.ref 41] σ (some (.int (nI (2 ^ pl_cn T 14 - 1)))) σ := by
  have h14 := cn_14 T
  refine aa_E_of (by decide) 0 [some (.ref 41)] rfl rfl ?_
  refine aa_go (aa_iconst iX1_all_0 ki_1) (aa_go (aa_aload0 iX1_all_1) (aa_go (aa_getE iX1_all_2 fl_X1_25 (sh_41 hW) rfl hN.1) (aa_go (aa_ishlN iX1_all_5 (by omega)) ?_)))
  refine aa_go (aa_top (y := nI (2 ^ pl_cn T 14)) (by rw [Nat.one_shiftLeft])) ?_
  refine aa_go (aa_iconst iX1_all_6 ki_1) (aa_go (aa_isubN iX1_all_7 (pw_pos _)) ?_)
  refine aa_iret iX1_all_8 rfl ?_
  exact ⟨rfl, rfl⟩
theorem c_X1_thingAt41 (hW : aa_W r dy σ) (hN : FN T 41 σ.1) (h8 : pl_cn T 14 ≤ 8) {k : Nat} (hk : k < pl_cn T 14) : aa_SX mX1_thingAt 1 [.ref 41, .int (nI k)] σ (some (.int (nI (fk T k)))) σ := by
  refine aa_E_of (by decide) 0 [some (.ref 41), some (.int (nI k))] rfl rfl ?_
  refine aa_go (aa_iload1 iX1_thingAt_0) ?_
  refine aa_go (aa_if_ltN iX1_thingAt_1 (by omega)) ?_
  refine aa_go (aa_iload1 iX1_thingAt_4) (aa_go (aa_aload0 iX1_thingAt_5) (aa_go (aa_getE iX1_thingAt_6 fl_X1_25 (sh_41 hW) rfl hN.1) ?_))
  refine aa_ic_geN iX1_thingAt_9 (by omega) (by omega) (fun h1 => ?_) (fun h1 => ?_)
  · skip
    omega
  · skip
    refine aa_go (aa_aload0 iX1_thingAt_12) (aa_go (aa_getR iX1_thingAt_13 fl_X1_11 (sh_41 hW) rfl) (aa_go (aa_iload1 iX1_thingAt_16) (aa_go (aa_ialE iX1_thingAt_17 (sh_42 hW) (by omega) (by omega) (hN.2 k hk)) (aa_go (aa_goto iX1_thingAt_18) ?_))))
    refine aa_iret iX1_thingAt_22 rfl ?_
    exact ⟨rfl, rfl⟩
theorem c_X1_takes41 (hW : aa_W r dy σ) (hF : FO P T 41 σ.1) {p h : Nat} (hh : h ≤ 1) : aa_SX mX1_takes 1 [.ref 41, .int (nI p), .int (nI h)] σ (some (.int (nI (ft P T p h)))) σ := by
  refine aa_E_of (by decide) 0 [some (.ref 41), some (.int (nI p)), some (.int (nI h))] rfl rfl ?_
  refine aa_go (aa_iload2 iX1_takes_0) ?_
  refine aa_go (aa_if_ltN iX1_takes_1 (by omega)) ?_
  refine aa_go (aa_iload2 iX1_takes_4) (aa_go (aa_iconst iX1_takes_5 ki_2) ?_)
  refine aa_ic_geN iX1_takes_6 (by omega) (by omega) (fun h1 => ?_) (fun h1 => ?_)
  · skip
    omega
  · skip
    refine aa_go (aa_iload1 iX1_takes_9) (aa_go (aa_aload0 iX1_takes_10) (aa_go (aa_getR iX1_takes_11 fl_X1_18 (sh_41 hW) rfl) (aa_go (aa_iload2 iX1_takes_14) (aa_go (aa_ialE iX1_takes_15 (sh_44 hW) (by omega) (by omega) (hF.2.2.2.2 h hh)) (aa_go (aa_iandN iX1_takes_16 ) (aa_go (aa_goto iX1_takes_17) ?_))))))
    refine aa_iret iX1_takes_21 rfl ?_
    exact ⟨rfl, rfl⟩
theorem c_X1_behind41 (hW : aa_W r dy σ) (hF : FO P T 41 σ.1) {p k : Nat} (hk : k < pl_cn T 14) : aa_SX mX1_behind 1 [.ref 41, .int (nI p), .int (nI k)] σ (some (.int (nI (fb P T p k)))) σ := by
  have h8 := hF.2.1
  refine aa_E_of (by decide) 0 [some (.ref 41), some (.int (nI p)), some (.int (nI k))] rfl rfl ?_
  refine aa_go (aa_iload2 iX1_behind_0) ?_
  refine aa_go (aa_if_ltN iX1_behind_1 (by omega)) ?_
  refine aa_go (aa_iload2 iX1_behind_4) (aa_go (aa_aload0 iX1_behind_5) (aa_go (aa_getE iX1_behind_6 fl_X1_25 (sh_41 hW) rfl hF.2.2.1.1) ?_))
  refine aa_ic_geN iX1_behind_9 (by omega) (by omega) (fun h1 => ?_) (fun h1 => ?_)
  · skip
    omega
  · skip
    refine aa_go (aa_iload1 iX1_behind_12) (aa_go (aa_aload0 iX1_behind_13) (aa_go (aa_getR iX1_behind_14 fl_X1_15 (sh_41 hW) rfl) (aa_go (aa_iload2 iX1_behind_17) (aa_go (aa_ialE iX1_behind_18 (sh_43 hW) (by omega) (by omega) (hF.2.2.2.1 k hk)) (aa_go (aa_iconst iX1_behind_19 ki_m1) (aa_go (aa_ixor iX1_behind_20) (aa_go (aa_iandC iX1_behind_21) ?_)))))))
    refine aa_go (aa_goto iX1_behind_22) ?_
    refine aa_iret iX1_behind_26 rfl ?_
    exact ⟨rfl, rfl⟩
theorem c_X1_renumbered41 (hW : aa_W r dy σ) (hN : FN T 41 σ.1) (h8 : pl_cn T 14 ≤ 8) {x : Nat} (hx : x < 2147483648) : aa_SX mX1_renumbered 1 [.ref 41, .int (nI x)] σ (some (.int (nI (rn T x)))) σ := by
  have loop : ∀ f k, pl_cn T 14 - k < f → k ≤ pl_cn T 14 → aa_V mX1_renumbered 1 4 [some (.ref 41), some (.int (nI x)), some (.int (nI (bm k (fun k => x.testBit (fk T k))))), some (.int (nI k))] [] σ (fun ra σ' => ra = some (.int (nI (rn T x))) ∧ σ' = σ) := by
    intro f
    induction f with
    | zero => intro k g1; omega
    | succ f ih =>
      intro k g1 g2
      refine aa_go (aa_iload3 iX1_renumbered_4) (aa_go (aa_aload0 iX1_renumbered_5) (aa_go (aa_getE iX1_renumbered_6 fl_X1_25 (sh_41 hW) rfl hN.1) ?_))
      refine aa_ic_geN iX1_renumbered_9 (by omega) (by omega) (fun g3 => ?_) (fun g3 => ?_)
      · skip
        have e1 : k = pl_cn T 14 := by omega
        subst e1
        refine aa_go (aa_iload2 iX1_renumbered_33) ?_
        refine aa_iret iX1_renumbered_34 rfl ?_
        exact ⟨rfl, rfl⟩
      · skip
        have f14 := (fk_mem g3).1
        refine aa_go (aa_iload2 iX1_renumbered_12) (aa_go (aa_iload1 iX1_renumbered_13) (aa_go (aa_aload0 iX1_renumbered_14) (aa_go (aa_getR iX1_renumbered_15 fl_X1_11 (sh_41 hW) rfl) (aa_go (aa_iload3 iX1_renumbered_18) (aa_go (aa_ialE iX1_renumbered_19 (sh_42 hW) (by omega) (by omega) (hN.2 k g3)) (aa_go (aa_ishrN iX1_renumbered_20 (by omega) (by omega)) (aa_go (aa_iconst iX1_renumbered_21 ki_1) ?_)))))))
        refine aa_go (aa_ibit iX1_renumbered_22) (aa_go (aa_iload3 iX1_renumbered_23) (aa_go (aa_ishlN iX1_renumbered_24 (by omega)) (aa_go (aa_iorN iX1_renumbered_25 ) ?_)))
        refine aa_go (aa_top (y := nI (bm (k + 1) (fun k => x.testBit (fk T k)))) (by rw [← bm_step])) ?_
        refine aa_go (aa_istore2 iX1_renumbered_26 rfl (by decide)) (aa_go (aa_iincN3 (k := 1) iX1_renumbered_27 rfl (by decide)) (aa_go (aa_goto iX1_renumbered_30) ?_))
        exact ih (k + 1) (by omega) (by omega)
  have key : aa_V mX1_renumbered 1 0 [some (.ref 41), some (.int (nI x)), none, none] [] σ (fun ra σ' => ra = some (.int (nI (rn T x))) ∧ σ' = σ) := by
    refine aa_go (aa_iconst iX1_renumbered_0 ki_0) (aa_go (aa_istore2 iX1_renumbered_1 rfl (by decide)) (aa_go (aa_iconst iX1_renumbered_2 ki_0) (aa_go (aa_istore3 iX1_renumbered_3 rfl (by decide)) ?_)))
    exact loop (pl_cn T 14 + 1) 0 (by omega) (by omega)
  obtain ⟨ra, σ', ⟨rfl, rfl⟩, hS9⟩ := aa_S_of (avs := [.ref 41, .int (nI x)]) (by decide) 2 [some (.ref 41), some (.int (nI x)), none, none] rfl rfl key
  exact hS9
theorem c_X1_lay41 (hW : aa_W r dy σ) (hX : XP P hs σ.1) (hT : T < 2 ^ pl_n P) (h8 : pl_cn T 14 ≤ 8) : ∃ σ' : aa_St, (FrA [41, 42, 43, 44] σ σ' ∧ FO P T 41 σ'.1 ∧ ∀ k, k ≠ 5 → σ'.1 41 k = σ.1 41 k) ∧ aa_SX mX1_lay 3 [.ref 41, .int (nI T)] σ none σ' := by
  have hn := hX.n14
  have p14 := pw14 hn
  have loop3 : ∀ f h (σ1 : aa_St), 2 - h < f → h ≤ 2 → FrA [41, 42, 43, 44] σ σ1 → (∀ k, k ≠ 5 → σ1.1 41 k = σ.1 41 k) → FN T 41 σ1.1 → (∀ k, k < pl_cn T 14 → σ1.1 43 k = nI (rn T (pl_cl P (fk T k)))) → (∀ i, i < h → σ1.1 44 i = nI (rn T (T &&& pl_al P i))) → aa_V mX1_lay 3 106 [some (.ref 41), some (.int (nI T)), some (.int (nI h))] [] σ1 (fun ra σ' => ra = none ∧ FrA [41, 42, 43, 44] σ σ' ∧ FO P T 41 σ'.1 ∧ ∀ k, k ≠ 5 → σ'.1 41 k = σ.1 41 k) := by
    intro f
    induction f with
    | zero => intro h σ1 g1; omega
    | succ f ih =>
      intro h σ1 g1 g2 hF h05 hN hC hA
      have hW1 := hF.W hW
      have hX1 := hF.XP hX (by decide)
      refine aa_go (aa_iload2 iX1_lay_106) (aa_go (aa_iconst iX1_lay_107 ki_2) ?_)
      refine aa_ic_geN iX1_lay_108 (by omega) (by omega) (fun g3 => ?_) (fun g3 => ?_)
      · skip
        have e1 : h = 2 := by omega
        subst e1
        refine aa_vret iX1_lay_136 rfl ?_
        exact ⟨rfl, hF, ⟨hT, h8, hN, hC, fun i hi => hA i (by omega)⟩, h05⟩
      · skip
        have tl : T &&& pl_al P h < 2147483648 := Nat.lt_of_le_of_lt Nat.and_le_left (by omega)
        refine aa_go (aa_aload0 iX1_lay_111) (aa_go (aa_getR iX1_lay_112 fl_X1_18 (sh_41 hW1) rfl) (aa_go (aa_iload2 iX1_lay_115) (aa_go (aa_aload0 iX1_lay_116) (aa_go (aa_aload0 iX1_lay_117) (aa_go (aa_getR iX1_lay_118 fl_X1_38 (sh_41 hW1) rfl) (aa_go (aa_iload1 iX1_lay_121) (aa_go (aa_iload2 iX1_lay_122) ?_)))))))
        refine aa_go (aa_cVi iX1_lay_123 (c_X6_takes hW1 hX1 (by omega)) (by decide) lc_X6_takes lk_X1_51 (sh_7 hW1) rfl rfl (Nat.le_of_ble_eq_true rfl)) (aa_go (aa_cVi iX1_lay_126 (c_X1_renumbered41 hW1 hN h8 tl) (by decide) lc_X1_renumbered lk_X1_48 (sh_41 hW1) rfl rfl (Nat.le_of_ble_eq_true rfl)) (aa_go (aa_iasN iX1_lay_129 (sh_44 hW1) (by omega) (by omega)) (aa_go (aa_iincN2 (k := 1) iX1_lay_130 rfl (by decide)) (aa_go (aa_goto iX1_lay_133) ?_))))
        refine ih (h + 1) _ (by omega) (by omega) (hF.s (by decide) _ _) (fun k hk => by rw [sI_ne (by decide)]; exact h05 k hk) ⟨by rw [sI_ne (by decide)]; exact hN.1, fun k hk => by rw [sI_ne (by decide)]; exact hN.2 k hk⟩ (fun k hk => by rw [sI_ne (by decide)]; exact hC k hk) (fun i hi => ?_)
        rw [sI_at]
        by_cases c : i = h
        · rw [if_pos c, c]
        · rw [if_neg c]; exact hA i (by omega)
  have loop2 : ∀ f k (σ1 : aa_St), pl_cn T 14 - k < f → k ≤ pl_cn T 14 → FrA [41, 42, 43, 44] σ σ1 → (∀ k, k ≠ 5 → σ1.1 41 k = σ.1 41 k) → FN T 41 σ1.1 → (∀ i, i < k → σ1.1 43 i = nI (rn T (pl_cl P (fk T i)))) → aa_V mX1_lay 3 58 [some (.ref 41), some (.int (nI T)), some (.int (nI k))] [] σ1 (fun ra σ' => ra = none ∧ FrA [41, 42, 43, 44] σ σ' ∧ FO P T 41 σ'.1 ∧ ∀ k, k ≠ 5 → σ'.1 41 k = σ.1 41 k) := by
    intro f
    induction f with
    | zero => intro k σ1 g1; omega
    | succ f ih =>
      intro k σ1 g1 g2 hF h05 hN hC
      have hW1 := hF.W hW
      have hX1 := hF.XP hX (by decide)
      refine aa_go (aa_iload2 iX1_lay_58) (aa_go (aa_aload0 iX1_lay_59) (aa_go (aa_getE iX1_lay_60 fl_X1_25 (sh_41 hW1) rfl hN.1) ?_))
      refine aa_ic_geN iX1_lay_63 (by omega) (by omega) (fun g3 => ?_) (fun g3 => ?_)
      · skip
        have e1 : k = pl_cn T 14 := by omega
        subst e1
        refine aa_go (aa_iconst iX1_lay_104 ki_0) (aa_go (aa_istore2 iX1_lay_105 rfl (by decide)) ?_)
        exact loop3 3 0 σ1 (by omega) (by omega) hF h05 hN hC (fun i hi => by omega)
      · skip
        have f14 := (fk_mem g3).1
        have fn := fk_n hT g3
        have cl14 : pl_cl P (fk T k) < 2147483648 := Nat.lt_of_lt_of_le (bb_or (pl_ab_lt P _) (bb_p2 fn)) (by omega)
        refine aa_go (aa_aload0 iX1_lay_66) (aa_go (aa_getR iX1_lay_67 fl_X1_15 (sh_41 hW1) rfl) (aa_go (aa_iload2 iX1_lay_70) (aa_go (aa_aload0 iX1_lay_71) (aa_go (aa_iconst iX1_lay_72 ki_1) (aa_go (aa_aload0 iX1_lay_73) (aa_go (aa_getR iX1_lay_74 fl_X1_11 (sh_41 hW1) rfl) (aa_go (aa_iload2 iX1_lay_77) ?_)))))))
        refine aa_go (aa_ialE iX1_lay_78 (sh_42 hW1) (by omega) (by omega) (hN.2 k g3)) (aa_go (aa_ishlN iX1_lay_79 (by omega)) (aa_go (aa_aload0 iX1_lay_80) (aa_go (aa_getR iX1_lay_81 fl_X1_38 (sh_41 hW1) rfl) (aa_go (aa_aload0 iX1_lay_84) (aa_go (aa_getR iX1_lay_85 fl_X1_11 (sh_41 hW1) rfl) (aa_go (aa_iload2 iX1_lay_88) (aa_go (aa_ialE iX1_lay_89 (sh_42 hW1) (by omega) (by omega) (hN.2 k g3)) ?_)))))))
        refine aa_go (aa_cVi iX1_lay_90 (c_X6_above hW1 hX1 (by omega)) (by decide) lc_X6_above lk_X1_42 (sh_7 hW1) rfl rfl (Nat.le_of_ble_eq_true rfl)) (aa_go (aa_iorN iX1_lay_93 ) ?_)
        refine aa_go (aa_top (y := nI (pl_cl P (fk T k))) (by rw [if_pos fn, Nat.one_shiftLeft, Nat.or_comm]; rfl)) ?_
        refine aa_go (aa_cVi iX1_lay_94 (c_X1_renumbered41 hW1 hN h8 cl14) (by decide) lc_X1_renumbered lk_X1_48 (sh_41 hW1) rfl rfl (Nat.le_of_ble_eq_true rfl)) (aa_go (aa_iasN iX1_lay_97 (sh_43 hW1) (by omega) (by omega)) (aa_go (aa_iincN2 (k := 1) iX1_lay_98 rfl (by decide)) (aa_go (aa_goto iX1_lay_101) ?_)))
        refine ih (k + 1) _ (by omega) (by omega) (hF.s (by decide) _ _) (fun k hk => by rw [sI_ne (by decide)]; exact h05 k hk) ⟨by rw [sI_ne (by decide)]; exact hN.1, fun k hk => by rw [sI_ne (by decide)]; exact hN.2 k hk⟩ (fun i hi => ?_)
        rw [sI_at]
        by_cases c : i = k
        · rw [if_pos c, c]
        · rw [if_neg c]; exact hC i (by omega)
  have loop1 : ∀ f i (σ1 : aa_St), 14 - i < f → i ≤ 14 → FrA [41, 42, 43, 44] σ σ1 → (∀ k, k ≠ 5 → σ1.1 41 k = σ.1 41 k) → σ1.1 41 5 = nI (pl_cn T i) → (∀ k, k < pl_cn T i → σ1.1 42 k = nI (fk T k)) → aa_V mX1_lay 3 7 [some (.ref 41), some (.int (nI T)), some (.int (nI i))] [] σ1 (fun ra σ' => ra = none ∧ FrA [41, 42, 43, 44] σ σ' ∧ FO P T 41 σ'.1 ∧ ∀ k, k ≠ 5 → σ'.1 41 k = σ.1 41 k) := by
    intro f
    induction f with
    | zero => intro i σ1 g1; omega
    | succ f ih =>
      intro i σ1 g1 g2 hF h05 hM hN
      have hW1 := hF.W hW
      refine aa_go (aa_iload2 iX1_lay_7) (aa_go (aa_bipush iX1_lay_8 kb_14) ?_)
      refine aa_ic_geN iX1_lay_10 (by omega) (by omega) (fun g3 => ?_) (fun g3 => ?_)
      · skip
        have e1 : i = 14 := by omega
        subst e1
        refine aa_go (aa_iconst iX1_lay_56 ki_0) (aa_go (aa_istore2 iX1_lay_57 rfl (by decide)) ?_)
        exact loop2 (pl_cn T 14 + 1) 0 σ1 (by omega) (by omega) hF h05 ⟨hM, hN⟩ (fun i hi => by omega)
      · skip
        refine aa_go (aa_iload1 iX1_lay_13) (aa_go (aa_iload2 iX1_lay_14) (aa_go (aa_ishrN iX1_lay_15 (by omega) (by omega)) (aa_go (aa_iconst iX1_lay_16 ki_1) (aa_go (aa_ibit iX1_lay_17) ?_))))
        refine aa_if_eqB iX1_lay_18 (fun g4 => ?_) (fun g4 => ?_)
        · skip
          refine aa_go (aa_iincN2 (k := 1) iX1_lay_50 rfl (by decide)) (aa_go (aa_goto iX1_lay_53) ?_)
          refine ih (i + 1) σ1 (by omega) (by omega) hF h05 ?_ ?_
          · rw [pl_cn, g4]; exact hM
          · rw [pl_cn, g4]; exact hN
        · skip
          have c8 := cn_lt14 g3 g4
          refine aa_go (aa_aload0 iX1_lay_21) (aa_go (aa_getE iX1_lay_22 fl_X1_25 (sh_41 hW1) rfl hM) (aa_go (aa_bipush iX1_lay_25 kb_8) ?_))
          refine aa_ic_geN iX1_lay_27 (by omega) (by omega) (fun g5 => ?_) (fun g5 => ?_)
          · skip
            omega
          · skip
            refine aa_go (aa_aload0 iX1_lay_30) (aa_go (aa_getR iX1_lay_31 fl_X1_11 (sh_41 hW1) rfl) (aa_go (aa_aload0 iX1_lay_34) (aa_go (aa_getE iX1_lay_35 fl_X1_25 (sh_41 hW1) rfl hM) (aa_go (aa_iload2 iX1_lay_38) (aa_go (aa_iasN iX1_lay_39 (sh_42 hW1) (by omega) (by omega)) ?_)))))
            refine aa_go (aa_aload0 iX1_lay_40) (aa_go (aa_dup iX1_lay_41 rfl) (aa_go (aa_getE iX1_lay_42 fl_X1_25 (sh_41 hW1) rfl (by rw [sI_ne (by decide)]; exact hM : (aa_sI σ1 42 (pl_cn T i) (nI i)).1 41 5 = nI (pl_cn T i))) (aa_go (aa_iconst iX1_lay_45 ki_1) (aa_go (aa_iaddN iX1_lay_46 ) (aa_go (aa_putI iX1_lay_47 fl_X1_25 (fun h => nomatch h) (sh_41 hW1) rfl ⟨rfl, rfl⟩) (aa_go (aa_iincN2 (k := 1) iX1_lay_50 rfl (by decide)) (aa_go (aa_goto iX1_lay_53) ?_)))))))
            refine ih (i + 1) _ (by omega) (by omega) ((hF.s (by decide) _ _).s (by decide) _ _) (fun k hk => by rw [sI_nk hk, sI_ne (by decide)]; exact h05 k hk) ?_ (fun k hk => ?_)
            · rw [sI_eq, pl_cn, g4]; rfl
            · rw [pl_cn, g4] at hk
              rw [sI_ne (by decide), sI_at]
              by_cases c : k = pl_cn T i
              · rw [if_pos c, c, fk_cn g3 g4]
              · rw [if_neg c]; exact hN k (by simp at hk; omega)
  have key : aa_V mX1_lay 3 0 [some (.ref 41), some (.int (nI T)), none] [] σ (fun ra σ' => ra = none ∧ FrA [41, 42, 43, 44] σ σ' ∧ FO P T 41 σ'.1 ∧ ∀ k, k ≠ 5 → σ'.1 41 k = σ.1 41 k) := by
    refine aa_go (aa_aload0 iX1_lay_0) (aa_go (aa_iconst iX1_lay_1 ki_0) (aa_go (aa_putI iX1_lay_2 fl_X1_25 (fun h => nomatch h) (sh_41 hW) rfl ⟨rfl, rfl⟩) (aa_go (aa_iconst iX1_lay_5 ki_0) (aa_go (aa_istore2 iX1_lay_6 rfl (by decide)) ?_))))
    exact loop1 15 0 _ (by omega) (by omega) (FrA.rf.s (by decide) _ _) (fun k hk => sI_nk hk) sI_eq (fun k hk => by simp [pl_cn] at hk)
  obtain ⟨ra, σ', ⟨rfl, h1⟩, hS9⟩ := aa_S_of (avs := [.ref 41, .int (nI T)]) (by decide) 1 [some (.ref 41), some (.int (nI T)), none] rfl rfl key
  exact ⟨σ', h1, hS9⟩
theorem c_X1_many51 (hW : aa_W r dy σ) (hN : FN T 51 σ.1) : aa_SX mX1_many 1 [.ref 51] σ (some (.int (nI (pl_cn T 14)))) σ := by
  refine aa_E_of (by decide) 0 [some (.ref 51)] rfl rfl ?_
  refine aa_go (aa_aload0 iX1_many_0) (aa_go (aa_getE iX1_many_1 fl_X1_25 (sh_51 hW) rfl hN.1) ?_)
  refine aa_iret iX1_many_4 rfl ?_
  exact ⟨rfl, rfl⟩
theorem c_X1_all51 (hW : aa_W r dy σ) (hN : FN T 51 σ.1) : aa_SX mX1_all 1 [.ref 51] σ (some (.int (nI (2 ^ pl_cn T 14 - 1)))) σ := by
  have h14 := cn_14 T
  refine aa_E_of (by decide) 0 [some (.ref 51)] rfl rfl ?_
  refine aa_go (aa_iconst iX1_all_0 ki_1) (aa_go (aa_aload0 iX1_all_1) (aa_go (aa_getE iX1_all_2 fl_X1_25 (sh_51 hW) rfl hN.1) (aa_go (aa_ishlN iX1_all_5 (by omega)) ?_)))
  refine aa_go (aa_top (y := nI (2 ^ pl_cn T 14)) (by rw [Nat.one_shiftLeft])) ?_
  refine aa_go (aa_iconst iX1_all_6 ki_1) (aa_go (aa_isubN iX1_all_7 (pw_pos _)) ?_)
  refine aa_iret iX1_all_8 rfl ?_
  exact ⟨rfl, rfl⟩
theorem c_X1_thingAt51 (hW : aa_W r dy σ) (hN : FN T 51 σ.1) (h8 : pl_cn T 14 ≤ 8) {k : Nat} (hk : k < pl_cn T 14) : aa_SX mX1_thingAt 1 [.ref 51, .int (nI k)] σ (some (.int (nI (fk T k)))) σ := by
  refine aa_E_of (by decide) 0 [some (.ref 51), some (.int (nI k))] rfl rfl ?_
  refine aa_go (aa_iload1 iX1_thingAt_0) ?_
  refine aa_go (aa_if_ltN iX1_thingAt_1 (by omega)) ?_
  refine aa_go (aa_iload1 iX1_thingAt_4) (aa_go (aa_aload0 iX1_thingAt_5) (aa_go (aa_getE iX1_thingAt_6 fl_X1_25 (sh_51 hW) rfl hN.1) ?_))
  refine aa_ic_geN iX1_thingAt_9 (by omega) (by omega) (fun h1 => ?_) (fun h1 => ?_)
  · skip
    omega
  · skip
    refine aa_go (aa_aload0 iX1_thingAt_12) (aa_go (aa_getR iX1_thingAt_13 fl_X1_11 (sh_51 hW) rfl) (aa_go (aa_iload1 iX1_thingAt_16) (aa_go (aa_ialE iX1_thingAt_17 (sh_52 hW) (by omega) (by omega) (hN.2 k hk)) (aa_go (aa_goto iX1_thingAt_18) ?_))))
    refine aa_iret iX1_thingAt_22 rfl ?_
    exact ⟨rfl, rfl⟩
theorem c_X1_takes51 (hW : aa_W r dy σ) (hF : FO P T 51 σ.1) {p h : Nat} (hh : h ≤ 1) : aa_SX mX1_takes 1 [.ref 51, .int (nI p), .int (nI h)] σ (some (.int (nI (ft P T p h)))) σ := by
  refine aa_E_of (by decide) 0 [some (.ref 51), some (.int (nI p)), some (.int (nI h))] rfl rfl ?_
  refine aa_go (aa_iload2 iX1_takes_0) ?_
  refine aa_go (aa_if_ltN iX1_takes_1 (by omega)) ?_
  refine aa_go (aa_iload2 iX1_takes_4) (aa_go (aa_iconst iX1_takes_5 ki_2) ?_)
  refine aa_ic_geN iX1_takes_6 (by omega) (by omega) (fun h1 => ?_) (fun h1 => ?_)
  · skip
    omega
  · skip
    refine aa_go (aa_iload1 iX1_takes_9) (aa_go (aa_aload0 iX1_takes_10) (aa_go (aa_getR iX1_takes_11 fl_X1_18 (sh_51 hW) rfl) (aa_go (aa_iload2 iX1_takes_14) (aa_go (aa_ialE iX1_takes_15 (sh_54 hW) (by omega) (by omega) (hF.2.2.2.2 h hh)) (aa_go (aa_iandN iX1_takes_16 ) (aa_go (aa_goto iX1_takes_17) ?_))))))
    refine aa_iret iX1_takes_21 rfl ?_
    exact ⟨rfl, rfl⟩
theorem c_X1_behind51 (hW : aa_W r dy σ) (hF : FO P T 51 σ.1) {p k : Nat} (hk : k < pl_cn T 14) : aa_SX mX1_behind 1 [.ref 51, .int (nI p), .int (nI k)] σ (some (.int (nI (fb P T p k)))) σ := by
  have h8 := hF.2.1
  refine aa_E_of (by decide) 0 [some (.ref 51), some (.int (nI p)), some (.int (nI k))] rfl rfl ?_
  refine aa_go (aa_iload2 iX1_behind_0) ?_
  refine aa_go (aa_if_ltN iX1_behind_1 (by omega)) ?_
  refine aa_go (aa_iload2 iX1_behind_4) (aa_go (aa_aload0 iX1_behind_5) (aa_go (aa_getE iX1_behind_6 fl_X1_25 (sh_51 hW) rfl hF.2.2.1.1) ?_))
  refine aa_ic_geN iX1_behind_9 (by omega) (by omega) (fun h1 => ?_) (fun h1 => ?_)
  · skip
    omega
  · skip
    refine aa_go (aa_iload1 iX1_behind_12) (aa_go (aa_aload0 iX1_behind_13) (aa_go (aa_getR iX1_behind_14 fl_X1_15 (sh_51 hW) rfl) (aa_go (aa_iload2 iX1_behind_17) (aa_go (aa_ialE iX1_behind_18 (sh_53 hW) (by omega) (by omega) (hF.2.2.2.1 k hk)) (aa_go (aa_iconst iX1_behind_19 ki_m1) (aa_go (aa_ixor iX1_behind_20) (aa_go (aa_iandC iX1_behind_21) ?_)))))))
    refine aa_go (aa_goto iX1_behind_22) ?_
    refine aa_iret iX1_behind_26 rfl ?_
    exact ⟨rfl, rfl⟩
theorem c_X1_renumbered51 (hW : aa_W r dy σ) (hN : FN T 51 σ.1) (h8 : pl_cn T 14 ≤ 8) {x : Nat} (hx : x < 2147483648) : aa_SX mX1_renumbered 1 [.ref 51, .int (nI x)] σ (some (.int (nI (rn T x)))) σ := by
  have loop : ∀ f k, pl_cn T 14 - k < f → k ≤ pl_cn T 14 → aa_V mX1_renumbered 1 4 [some (.ref 51), some (.int (nI x)), some (.int (nI (bm k (fun k => x.testBit (fk T k))))), some (.int (nI k))] [] σ (fun ra σ' => ra = some (.int (nI (rn T x))) ∧ σ' = σ) := by
    intro f
    induction f with
    | zero => intro k g1; omega
    | succ f ih =>
      intro k g1 g2
      refine aa_go (aa_iload3 iX1_renumbered_4) (aa_go (aa_aload0 iX1_renumbered_5) (aa_go (aa_getE iX1_renumbered_6 fl_X1_25 (sh_51 hW) rfl hN.1) ?_))
      refine aa_ic_geN iX1_renumbered_9 (by omega) (by omega) (fun g3 => ?_) (fun g3 => ?_)
      · skip
        have e1 : k = pl_cn T 14 := by omega
        subst e1
        refine aa_go (aa_iload2 iX1_renumbered_33) ?_
        refine aa_iret iX1_renumbered_34 rfl ?_
        exact ⟨rfl, rfl⟩
      · skip
        have f14 := (fk_mem g3).1
        refine aa_go (aa_iload2 iX1_renumbered_12) (aa_go (aa_iload1 iX1_renumbered_13) (aa_go (aa_aload0 iX1_renumbered_14) (aa_go (aa_getR iX1_renumbered_15 fl_X1_11 (sh_51 hW) rfl) (aa_go (aa_iload3 iX1_renumbered_18) (aa_go (aa_ialE iX1_renumbered_19 (sh_52 hW) (by omega) (by omega) (hN.2 k g3)) (aa_go (aa_ishrN iX1_renumbered_20 (by omega) (by omega)) (aa_go (aa_iconst iX1_renumbered_21 ki_1) ?_)))))))
        refine aa_go (aa_ibit iX1_renumbered_22) (aa_go (aa_iload3 iX1_renumbered_23) (aa_go (aa_ishlN iX1_renumbered_24 (by omega)) (aa_go (aa_iorN iX1_renumbered_25 ) ?_)))
        refine aa_go (aa_top (y := nI (bm (k + 1) (fun k => x.testBit (fk T k)))) (by rw [← bm_step])) ?_
        refine aa_go (aa_istore2 iX1_renumbered_26 rfl (by decide)) (aa_go (aa_iincN3 (k := 1) iX1_renumbered_27 rfl (by decide)) (aa_go (aa_goto iX1_renumbered_30) ?_))
        exact ih (k + 1) (by omega) (by omega)
  have key : aa_V mX1_renumbered 1 0 [some (.ref 51), some (.int (nI x)), none, none] [] σ (fun ra σ' => ra = some (.int (nI (rn T x))) ∧ σ' = σ) := by
    refine aa_go (aa_iconst iX1_renumbered_0 ki_0) (aa_go (aa_istore2 iX1_renumbered_1 rfl (by decide)) (aa_go (aa_iconst iX1_renumbered_2 ki_0) (aa_go (aa_istore3 iX1_renumbered_3 rfl (by decide)) ?_)))
    exact loop (pl_cn T 14 + 1) 0 (by omega) (by omega)
  obtain ⟨ra, σ', ⟨rfl, rfl⟩, hS9⟩ := aa_S_of (avs := [.ref 51, .int (nI x)]) (by decide) 2 [some (.ref 51), some (.int (nI x)), none, none] rfl rfl key
  exact hS9
theorem c_X1_lay51 (hW : aa_W r dy σ) (hX : XP P hs σ.1) (hT : T < 2 ^ pl_n P) (h8 : pl_cn T 14 ≤ 8) : ∃ σ' : aa_St, (FrA [51, 52, 53, 54] σ σ' ∧ FO P T 51 σ'.1 ∧ ∀ k, k ≠ 5 → σ'.1 51 k = σ.1 51 k) ∧ aa_SX mX1_lay 3 [.ref 51, .int (nI T)] σ none σ' := by
  have hn := hX.n14
  have p14 := pw14 hn
  have loop3 : ∀ f h (σ1 : aa_St), 2 - h < f → h ≤ 2 → FrA [51, 52, 53, 54] σ σ1 → (∀ k, k ≠ 5 → σ1.1 51 k = σ.1 51 k) → FN T 51 σ1.1 → (∀ k, k < pl_cn T 14 → σ1.1 53 k = nI (rn T (pl_cl P (fk T k)))) → (∀ i, i < h → σ1.1 54 i = nI (rn T (T &&& pl_al P i))) → aa_V mX1_lay 3 106 [some (.ref 51), some (.int (nI T)), some (.int (nI h))] [] σ1 (fun ra σ' => ra = none ∧ FrA [51, 52, 53, 54] σ σ' ∧ FO P T 51 σ'.1 ∧ ∀ k, k ≠ 5 → σ'.1 51 k = σ.1 51 k) := by
    intro f
    induction f with
    | zero => intro h σ1 g1; omega
    | succ f ih =>
      intro h σ1 g1 g2 hF h05 hN hC hA
      have hW1 := hF.W hW
      have hX1 := hF.XP hX (by decide)
      refine aa_go (aa_iload2 iX1_lay_106) (aa_go (aa_iconst iX1_lay_107 ki_2) ?_)
      refine aa_ic_geN iX1_lay_108 (by omega) (by omega) (fun g3 => ?_) (fun g3 => ?_)
      · skip
        have e1 : h = 2 := by omega
        subst e1
        refine aa_vret iX1_lay_136 rfl ?_
        exact ⟨rfl, hF, ⟨hT, h8, hN, hC, fun i hi => hA i (by omega)⟩, h05⟩
      · skip
        have tl : T &&& pl_al P h < 2147483648 := Nat.lt_of_le_of_lt Nat.and_le_left (by omega)
        refine aa_go (aa_aload0 iX1_lay_111) (aa_go (aa_getR iX1_lay_112 fl_X1_18 (sh_51 hW1) rfl) (aa_go (aa_iload2 iX1_lay_115) (aa_go (aa_aload0 iX1_lay_116) (aa_go (aa_aload0 iX1_lay_117) (aa_go (aa_getR iX1_lay_118 fl_X1_38 (sh_51 hW1) rfl) (aa_go (aa_iload1 iX1_lay_121) (aa_go (aa_iload2 iX1_lay_122) ?_)))))))
        refine aa_go (aa_cVi iX1_lay_123 (c_X6_takes hW1 hX1 (by omega)) (by decide) lc_X6_takes lk_X1_51 (sh_7 hW1) rfl rfl (Nat.le_of_ble_eq_true rfl)) (aa_go (aa_cVi iX1_lay_126 (c_X1_renumbered51 hW1 hN h8 tl) (by decide) lc_X1_renumbered lk_X1_48 (sh_51 hW1) rfl rfl (Nat.le_of_ble_eq_true rfl)) (aa_go (aa_iasN iX1_lay_129 (sh_54 hW1) (by omega) (by omega)) (aa_go (aa_iincN2 (k := 1) iX1_lay_130 rfl (by decide)) (aa_go (aa_goto iX1_lay_133) ?_))))
        refine ih (h + 1) _ (by omega) (by omega) (hF.s (by decide) _ _) (fun k hk => by rw [sI_ne (by decide)]; exact h05 k hk) ⟨by rw [sI_ne (by decide)]; exact hN.1, fun k hk => by rw [sI_ne (by decide)]; exact hN.2 k hk⟩ (fun k hk => by rw [sI_ne (by decide)]; exact hC k hk) (fun i hi => ?_)
        rw [sI_at]
        by_cases c : i = h
        · rw [if_pos c, c]
        · rw [if_neg c]; exact hA i (by omega)
  have loop2 : ∀ f k (σ1 : aa_St), pl_cn T 14 - k < f → k ≤ pl_cn T 14 → FrA [51, 52, 53, 54] σ σ1 → (∀ k, k ≠ 5 → σ1.1 51 k = σ.1 51 k) → FN T 51 σ1.1 → (∀ i, i < k → σ1.1 53 i = nI (rn T (pl_cl P (fk T i)))) → aa_V mX1_lay 3 58 [some (.ref 51), some (.int (nI T)), some (.int (nI k))] [] σ1 (fun ra σ' => ra = none ∧ FrA [51, 52, 53, 54] σ σ' ∧ FO P T 51 σ'.1 ∧ ∀ k, k ≠ 5 → σ'.1 51 k = σ.1 51 k) := by
    intro f
    induction f with
    | zero => intro k σ1 g1; omega
    | succ f ih =>
      intro k σ1 g1 g2 hF h05 hN hC
      have hW1 := hF.W hW
      have hX1 := hF.XP hX (by decide)
      refine aa_go (aa_iload2 iX1_lay_58) (aa_go (aa_aload0 iX1_lay_59) (aa_go (aa_getE iX1_lay_60 fl_X1_25 (sh_51 hW1) rfl hN.1) ?_))
      refine aa_ic_geN iX1_lay_63 (by omega) (by omega) (fun g3 => ?_) (fun g3 => ?_)
      · skip
        have e1 : k = pl_cn T 14 := by omega
        subst e1
        refine aa_go (aa_iconst iX1_lay_104 ki_0) (aa_go (aa_istore2 iX1_lay_105 rfl (by decide)) ?_)
        exact loop3 3 0 σ1 (by omega) (by omega) hF h05 hN hC (fun i hi => by omega)
      · skip
        have f14 := (fk_mem g3).1
        have fn := fk_n hT g3
        have cl14 : pl_cl P (fk T k) < 2147483648 := Nat.lt_of_lt_of_le (bb_or (pl_ab_lt P _) (bb_p2 fn)) (by omega)
        refine aa_go (aa_aload0 iX1_lay_66) (aa_go (aa_getR iX1_lay_67 fl_X1_15 (sh_51 hW1) rfl) (aa_go (aa_iload2 iX1_lay_70) (aa_go (aa_aload0 iX1_lay_71) (aa_go (aa_iconst iX1_lay_72 ki_1) (aa_go (aa_aload0 iX1_lay_73) (aa_go (aa_getR iX1_lay_74 fl_X1_11 (sh_51 hW1) rfl) (aa_go (aa_iload2 iX1_lay_77) ?_)))))))
        refine aa_go (aa_ialE iX1_lay_78 (sh_52 hW1) (by omega) (by omega) (hN.2 k g3)) (aa_go (aa_ishlN iX1_lay_79 (by omega)) (aa_go (aa_aload0 iX1_lay_80) (aa_go (aa_getR iX1_lay_81 fl_X1_38 (sh_51 hW1) rfl) (aa_go (aa_aload0 iX1_lay_84) (aa_go (aa_getR iX1_lay_85 fl_X1_11 (sh_51 hW1) rfl) (aa_go (aa_iload2 iX1_lay_88) (aa_go (aa_ialE iX1_lay_89 (sh_52 hW1) (by omega) (by omega) (hN.2 k g3)) ?_)))))))
        refine aa_go (aa_cVi iX1_lay_90 (c_X6_above hW1 hX1 (by omega)) (by decide) lc_X6_above lk_X1_42 (sh_7 hW1) rfl rfl (Nat.le_of_ble_eq_true rfl)) (aa_go (aa_iorN iX1_lay_93 ) ?_)
        refine aa_go (aa_top (y := nI (pl_cl P (fk T k))) (by rw [if_pos fn, Nat.one_shiftLeft, Nat.or_comm]; rfl)) ?_
        refine aa_go (aa_cVi iX1_lay_94 (c_X1_renumbered51 hW1 hN h8 cl14) (by decide) lc_X1_renumbered lk_X1_48 (sh_51 hW1) rfl rfl (Nat.le_of_ble_eq_true rfl)) (aa_go (aa_iasN iX1_lay_97 (sh_53 hW1) (by omega) (by omega)) (aa_go (aa_iincN2 (k := 1) iX1_lay_98 rfl (by decide)) (aa_go (aa_goto iX1_lay_101) ?_)))
        refine ih (k + 1) _ (by omega) (by omega) (hF.s (by decide) _ _) (fun k hk => by rw [sI_ne (by decide)]; exact h05 k hk) ⟨by rw [sI_ne (by decide)]; exact hN.1, fun k hk => by rw [sI_ne (by decide)]; exact hN.2 k hk⟩ (fun i hi => ?_)
        rw [sI_at]
        by_cases c : i = k
        · rw [if_pos c, c]
        · rw [if_neg c]; exact hC i (by omega)
  have loop1 : ∀ f i (σ1 : aa_St), 14 - i < f → i ≤ 14 → FrA [51, 52, 53, 54] σ σ1 → (∀ k, k ≠ 5 → σ1.1 51 k = σ.1 51 k) → σ1.1 51 5 = nI (pl_cn T i) → (∀ k, k < pl_cn T i → σ1.1 52 k = nI (fk T k)) → aa_V mX1_lay 3 7 [some (.ref 51), some (.int (nI T)), some (.int (nI i))] [] σ1 (fun ra σ' => ra = none ∧ FrA [51, 52, 53, 54] σ σ' ∧ FO P T 51 σ'.1 ∧ ∀ k, k ≠ 5 → σ'.1 51 k = σ.1 51 k) := by
    intro f
    induction f with
    | zero => intro i σ1 g1; omega
    | succ f ih =>
      intro i σ1 g1 g2 hF h05 hM hN
      have hW1 := hF.W hW
      refine aa_go (aa_iload2 iX1_lay_7) (aa_go (aa_bipush iX1_lay_8 kb_14) ?_)
      refine aa_ic_geN iX1_lay_10 (by omega) (by omega) (fun g3 => ?_) (fun g3 => ?_)
      · skip
        have e1 : i = 14 := by omega
        subst e1
        refine aa_go (aa_iconst iX1_lay_56 ki_0) (aa_go (aa_istore2 iX1_lay_57 rfl (by decide)) ?_)
        exact loop2 (pl_cn T 14 + 1) 0 σ1 (by omega) (by omega) hF h05 ⟨hM, hN⟩ (fun i hi => by omega)
      · skip
        refine aa_go (aa_iload1 iX1_lay_13) (aa_go (aa_iload2 iX1_lay_14) (aa_go (aa_ishrN iX1_lay_15 (by omega) (by omega)) (aa_go (aa_iconst iX1_lay_16 ki_1) (aa_go (aa_ibit iX1_lay_17) ?_))))
        refine aa_if_eqB iX1_lay_18 (fun g4 => ?_) (fun g4 => ?_)
        · skip
          refine aa_go (aa_iincN2 (k := 1) iX1_lay_50 rfl (by decide)) (aa_go (aa_goto iX1_lay_53) ?_)
          refine ih (i + 1) σ1 (by omega) (by omega) hF h05 ?_ ?_
          · rw [pl_cn, g4]; exact hM
          · rw [pl_cn, g4]; exact hN
        · skip
          have c8 := cn_lt14 g3 g4
          refine aa_go (aa_aload0 iX1_lay_21) (aa_go (aa_getE iX1_lay_22 fl_X1_25 (sh_51 hW1) rfl hM) (aa_go (aa_bipush iX1_lay_25 kb_8) ?_))
          refine aa_ic_geN iX1_lay_27 (by omega) (by omega) (fun g5 => ?_) (fun g5 => ?_)
          · skip
            omega
          · skip
            refine aa_go (aa_aload0 iX1_lay_30) (aa_go (aa_getR iX1_lay_31 fl_X1_11 (sh_51 hW1) rfl) (aa_go (aa_aload0 iX1_lay_34) (aa_go (aa_getE iX1_lay_35 fl_X1_25 (sh_51 hW1) rfl hM) (aa_go (aa_iload2 iX1_lay_38) (aa_go (aa_iasN iX1_lay_39 (sh_52 hW1) (by omega) (by omega)) ?_)))))
            refine aa_go (aa_aload0 iX1_lay_40) (aa_go (aa_dup iX1_lay_41 rfl) (aa_go (aa_getE iX1_lay_42 fl_X1_25 (sh_51 hW1) rfl (by rw [sI_ne (by decide)]; exact hM : (aa_sI σ1 52 (pl_cn T i) (nI i)).1 51 5 = nI (pl_cn T i))) (aa_go (aa_iconst iX1_lay_45 ki_1) (aa_go (aa_iaddN iX1_lay_46 ) (aa_go (aa_putI iX1_lay_47 fl_X1_25 (fun h => nomatch h) (sh_51 hW1) rfl ⟨rfl, rfl⟩) (aa_go (aa_iincN2 (k := 1) iX1_lay_50 rfl (by decide)) (aa_go (aa_goto iX1_lay_53) ?_)))))))
            refine ih (i + 1) _ (by omega) (by omega) ((hF.s (by decide) _ _).s (by decide) _ _) (fun k hk => by rw [sI_nk hk, sI_ne (by decide)]; exact h05 k hk) ?_ (fun k hk => ?_)
            · rw [sI_eq, pl_cn, g4]; rfl
            · rw [pl_cn, g4] at hk
              rw [sI_ne (by decide), sI_at]
              by_cases c : k = pl_cn T i
              · rw [if_pos c, c, fk_cn g3 g4]
              · rw [if_neg c]; exact hN k (by simp at hk; omega)
  have key : aa_V mX1_lay 3 0 [some (.ref 51), some (.int (nI T)), none] [] σ (fun ra σ' => ra = none ∧ FrA [51, 52, 53, 54] σ σ' ∧ FO P T 51 σ'.1 ∧ ∀ k, k ≠ 5 → σ'.1 51 k = σ.1 51 k) := by
    refine aa_go (aa_aload0 iX1_lay_0) (aa_go (aa_iconst iX1_lay_1 ki_0) (aa_go (aa_putI iX1_lay_2 fl_X1_25 (fun h => nomatch h) (sh_51 hW) rfl ⟨rfl, rfl⟩) (aa_go (aa_iconst iX1_lay_5 ki_0) (aa_go (aa_istore2 iX1_lay_6 rfl (by decide)) ?_))))
    exact loop1 15 0 _ (by omega) (by omega) (FrA.rf.s (by decide) _ _) (fun k hk => sI_nk hk) sI_eq (fun k hk => by simp [pl_cn] at hk)
  obtain ⟨ra, σ', ⟨rfl, h1⟩, hS9⟩ := aa_S_of (avs := [.ref 51, .int (nI T)]) (by decide) 1 [some (.ref 51), some (.int (nI T)), none] rfl rfl key
  exact ⟨σ', h1, hS9⟩
end
