/-! PUBLIC METHODS: sheet -/
section
variable {v W S R : Nat} {r : Nat → Nat} {dy : List aa_Shp} {σ σ' : aa_St} {P P' : pl_T} {tx tx' : Nat → Nat} {n n' : Nat} {g g' : gm_T} {kp kp' : Nat → Option gm_T} {lk lk' tl tl' : Nat} {rw rw' : Nat → Int} {N : Nat}
theorem wP_ok {w : Nat → Nat} (ok : pl_ok P) (h9 : ∀ k, k < pl_n P → w k ≤ 9) (h0 : ∀ k, pl_n P ≤ k → w k = 0) : pl_ok (wP P w) := by
  obtain ⟨a1, a2, a3, a4, a5, a6⟩ := ok
  exact ⟨a1, a2, fun k hk => ⟨h9 k hk, (a3 k hk).2⟩, h0, a5, a6⟩
theorem XP.newW {w : Nat → Nat} (h : XP P (hsP P) σ.1) (h9 : ∀ k, k < pl_n P → w k ≤ 9) (h0 : ∀ k, pl_n P ≤ k → w k = 0) (q : ∀ x, x ≠ 8 → x ≠ 17 → x ≠ 18 → σ'.1 x = σ.1 x) (h8 : ∀ k, k < 14 → σ'.1 8 k = nI (w k)) (h8' : ∀ k, 14 ≤ k → σ'.1 8 k = σ.1 8 k) (hU : XU (wP P w) σ'.1) : XP (wP P w) (hsP (wP P w)) σ'.1 := by
  obtain ⟨ok, ⟨a1, a2, a3, a4, a5, a6⟩, ⟨b1, b2⟩, b3, c1, c2, c3⟩ := h
  have n14 := ok.1
  rw [hsP_w]
  refine ⟨wP_ok ok h9 h0, ⟨by rw [q 7 (by decide) (by decide) (by decide)]; exact a1, by rw [q 7 (by decide) (by decide) (by decide)]; exact a2, fun k hk => ?_, fun k hk => ?_, fun j hj => ?_, fun t ht => ?_⟩, ⟨fun j hj => ?_, fun j hj hj2 => ?_⟩, hU, by rw [q 7 (by decide) (by decide) (by decide)]; exact c1, c2, fun k t hk => ?_⟩
  · have hk' : k < pl_n P := hk
    rw [q 9 (by decide) (by decide) (by decide), q 10 (by decide) (by decide) (by decide), q 11 (by decide) (by decide) (by decide), q 12 (by decide) (by decide) (by decide)]
    exact ⟨h8 k (by omega), (a3 k hk).2⟩
  · have hk' : pl_n P ≤ k := hk
    by_cases c : k < 14
    · rw [h8 k c, h0 k hk']
    · rw [h8' k (by omega)]; exact a4 k hk
  · rw [q 13 (by decide) (by decide) (by decide)]; exact a5 j hj
  · rw [q 14 (by decide) (by decide) (by decide)]; exact a6 t ht
  · rw [q 15 (by decide) (by decide) (by decide), q 16 (by decide) (by decide) (by decide)]; exact b1 j hj
  · rw [q 15 (by decide) (by decide) (by decide), q 16 (by decide) (by decide) (by decide)]; exact b2 j hj hj2
  · rw [q 19 (by decide) (by decide) (by decide)]; exact c3 k t hk
theorem XIv.newW {w : Nat → Nat} (h : XIv P tx n g kp lk tl rw N v W S R r dy σ) (hX : XP (wP P w) (hsP (wP P w)) σ'.1) (e2 : σ'.2.2 = σ.2.2) (q : ∀ x, x ≠ 8 → x ≠ 17 → x ≠ 18 → σ'.1 x = σ.1 x) (ql : ∀ x, x ≠ 38 → σ'.2.1 x = σ.2.1 x) (hS : σ'.2.1 38 2 = lN (S + 1)) : XIv (wP P w) tx n g kp lk tl rw (N + 1) v W (S + 1) R r dy σ' ∧ CF r σ r σ' := by
  obtain ⟨a1, a2, a3, a4, a5, a6, a7, ⟨a8, a8'⟩, w1, w2, w3, w4⟩ := h
  have qr : ∀ j, j < 7 → σ'.1 (r j) = σ.1 (r j) := fun j hj => q _ (by have := a2.lo hj; omega) (by have := a2.lo hj; omega) (by have := a2.lo hj; omega)
  have lr : ∀ j, j < 7 → σ'.2.1 (r j) = σ.2.1 (r j) := fun j hj => ql _ (by have := a2.lo hj; omega)
  have q' : ∀ x, x ≠ 8 ∧ x ≠ 17 ∧ x ≠ 18 → σ'.1 x = σ.1 x := fun x hx => q x hx.1 hx.2.1 hx.2.2
  refine ⟨⟨a1.of2 e2, a2, hX, by rw [q' 7 (by decide)]; exact a4, a5, ?_, ?_, ?_, by omega, by omega, by omega, w4.fr (fun x hx => by rw [q' x (by simp at hx; omega)]) (by rw [q' 49 (by decide)])⟩, ⟨fun x h1 h2 => ⟨q' x (by omega), ql x (by omega)⟩, rfl, rfl⟩⟩
  · have := a6.fr (σ' := σ') (fun x hx => q' x (by simp only [XTc, List.mem_cons, List.not_mem_nil, or_false] at hx; omega)) (ql 56 (by decide))
    exact this
  · obtain ⟨b0, b1, b2, b3, b4, b5, ⟨b6, b6'⟩, b7, b8, b9⟩ := a7
    refine ⟨fun c => ?_, fun c => ?_, fun c => ?_, ?_, fun c => ?_, fun c => ?_, ⟨?_, ?_⟩, ?_, hS, by omega⟩
    · rw [q' 25 (by decide)] at c
      obtain ⟨x1, x2, x3⟩ := b0 c
      exact ⟨by rw [q' 25 (by decide)]; exact x1, by rw [e2]; exact x2, by rw [lr 0 (by decide)]; exact KI_w P w x3⟩
    · rw [q' 27 (by decide)] at c
      obtain ⟨x1, x2, x3⟩ := b1 c
      exact ⟨by rw [q' 27 (by decide)]; exact x1, by rw [e2]; exact x2, by rw [lr 1 (by decide)]; exact x3⟩
    · rw [q' 30 (by decide)] at c
      obtain ⟨x1, x2, x3⟩ := b2 c
      exact ⟨by rw [q' 30 (by decide)]; exact x1, by rw [e2]; exact x2, by rw [lr 2 (by decide)]; exact KV_w P w x3⟩
    · unfold S3 R3; rw [e2, qr 3 (by decide)]; exact b3
    · rw [q' 39 (by decide)] at c
      obtain ⟨x1, x2, x3⟩ := b4 c
      exact ⟨by rw [q' 39 (by decide)]; exact x1, by rw [e2]; exact x2, by rw [lr 4 (by decide)]; exact KW_w P w x3⟩
    · rw [q' 47 (by decide)] at c
      obtain ⟨x1, x2, x3⟩ := b5 c
      exact ⟨by rw [q' 47 (by decide)]; exact x1, by rw [e2]; exact x2, by rw [lr 5 (by decide)]; exact KK_w P w x3⟩
    · rw [q' 49 (by decide)]; exact b6
    · rw [e2, qr 6 (by decide), q' 49 (by decide)]
      rcases b6' with a | ⟨a, b, c, d⟩
      · exact Or.inl a
      · refine Or.inr ⟨a, b, c, fun T e x1 x2 x3 x4 x5 x6 => ?_⟩
        obtain ⟨y1, y2⟩ := d T e x1 x2 x3 x4 x5 x6
        exact ⟨y1.fr (by rw [q' 51 (by decide)]) (q' 52 (by decide)) (q' 53 (by decide)) (q' 54 (by decide)), KZ_w P w y2⟩
    · rw [q' 24 (by decide)]; exact b7
  · have e9 : cc v σ'.1 = cc v σ.1 := by rw [cc, cc, q' 25 (by decide), q' 27 (by decide), q' 30 (by decide), q' 39 (by decide), q' 47 (by decide)]
    unfold BD ph pn
    unfold ph at a8
    unfold pn at a8'
    rw [e9, e2]
    constructor
    · show _ + _ + 327680 * (14 - pl_n P) ≤ _; omega
    · show _ + _ + 5 * (14 - pl_n P) ≤ _; omega
theorem p_sheet (h : XIv P tx n g kp lk tl rw N v W S R r dy σ) {k ent : Nat} {x f st : Int32} (hk : k ≤ 3) (hx : x ≤ nI 14) (hx0 : k = 3 ∧ ent = 0 ∨ k < 3 ∧ x = nI ent ∧ ent ≤ 14) : ∃ σ', (XI (shP P k ent f st) tx n g kp lk tl rw (N + 1) r dy σ' ∧ CF r σ r σ') ∧ aa_SX mX11_sheet 100 [.ref 0, .int (nI k), .int x, .int f, .int st] σ (some (.int (if k = 3 then -3 else nI (pl_wo (shP P k ent f st) (2 ^ pl_n P - 1))))) σ' := by
  have ok := h.ok
  have hn := h.X.n14
  have p14 := pw14 hn
  have p1 := pw_pos (pl_n P)
  have s9 : ∀ i, shV k ent f st i ≤ 9 := fun i => by
    unfold shV
    split
    · exact shE_9 _ _
    · omega
  have u0 := h.X.u (m := 0) (by omega)
  have fin : ∀ (σ1 : aa_St) y6, FrA [8] σ σ1 → (∀ j, j < pl_n P → σ1.1 8 j = nI (shV k ent f st j)) → (∀ j, pl_n P ≤ j → σ1.1 8 j = σ.1 8 j) → aa_V mX11_sheet 100 93 [some (.ref 0), some (.int (nI k)), some (.int x), some (.int f), some (.int st), some (.int (nI ent)), y6] [] σ1 (fun ra σ' => ra = some (.int (if k = 3 then -3 else nI (pl_wo (shP P k ent f st) (2 ^ pl_n P - 1)))) ∧ XI (shP P k ent f st) tx n g kp lk tl rw (N + 1) r dy σ' ∧ CF r σ r σ') := by
    intro σ1 y6 hF1 hA hB
    have hW1 := hF1.W h.1
    have w8 : ∀ j, j < 14 → σ1.1 8 j = nI (if j < pl_n P then shV k ent f st j else 0) := by
      intro j hj
      by_cases c : j < pl_n P
      · rw [if_pos c]; exact hA j c
      · rw [if_neg c, hB j (by omega)]; exact h.X.2.1.2.2.2.1 j (by omega)
    obtain ⟨σ2, ⟨e2, q2, hU⟩, hS2⟩ := c_X6_addUp (P := shP P k ent f st) hW1 (fun j hj => ⟨w8 j hj, by
      show (if j < pl_n P then shV k ent f st j else 0) ≤ 9
      split
      · exact s9 j
      · omega⟩) (by rw [hF1.2 17 (by decide), u0.1, sm_0]) (by rw [hF1.2 18 (by decide), u0.2]; rw [show 0 <<< 7 = 0 from rfl, sm_0])
    have hW2 : aa_W r dy σ2 := hW1.of2 (by rw [e2])
    have qq : ∀ y, y ≠ 8 → y ≠ 17 → y ≠ 18 → σ2.1 y = σ.1 y := fun y h1 h2 h3 => by rw [q2 y h2 h3, hF1.2 y (by simpa using h1)]
    have hX2 : XP (shP P k ent f st) (hsP (shP P k ent f st)) σ2.1 := h.X.newW (fun j hj => by rw [if_pos hj]; exact s9 j) (fun j hj => by rw [if_neg (by omega)]) qq (fun j hj => by rw [q2 8 (by decide) (by decide)]; exact w8 j hj) (fun j hj => by rw [q2 8 (by decide) (by decide)]; exact hB j (by omega)) hU
    have hL2 : σ2.2.1 38 2 = lN S := by rw [e2, hF1.1]; exact h.M.2.2.2.2.2.2.2.2.1
    obtain ⟨h3, f3⟩ := h.newW (σ' := aa_sL σ2 38 2 (lN (S + 1))) hX2 (by show σ2.2.2 = _; rw [e2, hF1.1]) qq (fun y hy => by
      show aa_u2 σ2.2.1 38 2 (lN (S + 1)) y = _
      rw [aa_u2_ne hy, e2, hF1.1]) (by rw [sL_at, if_pos rfl])
    refine aa_go (aa_aload0 iX11_sheet_93) (aa_go (aa_getR iX11_sheet_94 fl_X11_19 (sh_0 hW1) rfl) (aa_go (aa_cVv iX11_sheet_97 (hS2) (by decide) lc_X6_addUp lk_X11_162 (sh_7 hW1) rfl rfl (Nat.le_of_ble_eq_true rfl)) ?_))
    refine aa_go (aa_aload0 iX11_sheet_100) (aa_go (aa_getR iX11_sheet_101 fl_X11_64 (sh_0 hW2) rfl) (aa_go (aa_cVv iX11_sheet_104 (c_X10_forget hW2 hL2) (by decide) lc_X10_forget lk_X11_165 (sh_38 hW2) rfl rfl (Nat.le_of_ble_eq_true rfl)) ?_))
    refine aa_go (aa_iload1 iX11_sheet_107) (aa_go (aa_iconst iX11_sheet_108 ki_3) ?_)
    refine aa_ic_neN iX11_sheet_109 (by omega) (by omega) (fun g1 => ?_) (fun g1 => ?_)
    · skip
      refine aa_go (aa_aload0 iX11_sheet_117) (aa_go (aa_getR iX11_sheet_118 fl_X11_19 (sh_0 h3.1) rfl) (aa_go (aa_aload0 iX11_sheet_121) (aa_go (aa_getR iX11_sheet_122 fl_X11_19 (sh_0 h3.1) rfl) (aa_go (aa_cVi iX11_sheet_125 (c_X6_full h3.1 h3.X) (by decide) lc_X6_full lk_X11_168 (sh_7 h3.1) rfl rfl (Nat.le_of_ble_eq_true rfl)) (aa_go (aa_cVi iX11_sheet_128 (c_X6_worthOf h3.1 h3.X (by show 2 ^ pl_n P - 1 < _; omega)) (by decide) lc_X6_worthOf lk_X11_171 (sh_7 h3.1) rfl rfl (Nat.le_of_ble_eq_true rfl)) ?_)))))
      refine aa_iret iX11_sheet_131 rfl ?_
      exact ⟨by rw [if_neg g1]; rfl, h3.to, f3⟩
    · skip
      refine aa_go (aa_bipush iX11_sheet_112 kb_m3) (aa_go (aa_goto iX11_sheet_114) ?_)
      refine aa_iret iX11_sheet_131 rfl ?_
      exact ⟨by rw [if_pos g1], h3.to, f3⟩
  have loop : ∀ f2 i (σ1 : aa_St), pl_n P - i < f2 → i ≤ pl_n P → FrA [8] σ σ1 → (∀ j, j < i → σ1.1 8 j = nI (shV k ent f st j)) → (∀ j, i ≤ j → σ1.1 8 j = σ.1 8 j) → aa_V mX11_sheet 100 44 [some (.ref 0), some (.int (nI k)), some (.int x), some (.int f), some (.int st), some (.int (nI ent)), some (.int (nI i))] [] σ1 (fun ra σ' => ra = some (.int (if k = 3 then -3 else nI (pl_wo (shP P k ent f st) (2 ^ pl_n P - 1)))) ∧ XI (shP P k ent f st) tx n g kp lk tl rw (N + 1) r dy σ' ∧ CF r σ r σ') := by
    intro f2
    induction f2 with
    | zero => intro i σ1 g1; omega
    | succ f2 ih =>
      intro i σ1 g1 g2 hF1 hA hB
      have hW1 := hF1.W h.1
      have e13 : σ1.1 7 13 = nI (pl_n P) := by rw [hF1.2 7 (by decide)]; exact h.X.n
      have ent14 : ent ≤ 14 := by omega
      have nxt : ∀ z, z = shV k ent f st i → aa_V mX11_sheet 100 44 [some (.ref 0), some (.int (nI k)), some (.int x), some (.int f), some (.int st), some (.int (nI ent)), some (.int (nI (i + 1)))] [] (aa_sI σ1 8 i (nI z)) (fun ra σ' => ra = some (.int (if k = 3 then -3 else nI (pl_wo (shP P k ent f st) (2 ^ pl_n P - 1)))) ∧ XI (shP P k ent f st) tx n g kp lk tl rw (N + 1) r dy σ' ∧ CF r σ r σ') ∨ pl_n P ≤ i := by
        intro z hz
        by_cases c : i < pl_n P
        · left
          refine ih (i + 1) _ (by omega) (by omega) (hF1.s (by decide) _ _) (fun j hj => ?_) (fun j hj => ?_)
          · rw [sI_at]
            by_cases cj : j = i
            · rw [if_pos cj, hz, cj]
            · rw [if_neg cj]; exact hA j (by omega)
          · rw [sI_at, if_neg (by omega)]; exact hB j (by omega)
        · exact Or.inr (by omega)
      refine aa_go (aa_iload6 iX11_sheet_44) (aa_go (aa_aload0 iX11_sheet_46) (aa_go (aa_getR iX11_sheet_47 fl_X11_19 (sh_0 hW1) rfl) (aa_go (aa_cVi iX11_sheet_50 (c_thingsE hW1 e13) (by decide) lc_X6_things lk_X11_151 (sh_7 hW1) rfl rfl (Nat.le_of_ble_eq_true rfl)) ?_)))
      refine aa_ic_geN iX11_sheet_53 (by omega) (by omega) (fun g3 => ?_) (fun g3 => ?_)
      · skip
        have e1 : i = pl_n P := by omega
        subst e1
        exact fin σ1 _ hF1 hA hB
      · skip
        refine aa_go (aa_aload0 iX11_sheet_56) (aa_go (aa_getR iX11_sheet_57 fl_X11_19 (sh_0 hW1) rfl) (aa_go (aa_iload6 iX11_sheet_60) (aa_go (aa_iload6 iX11_sheet_62) (aa_go (aa_iload5 iX11_sheet_64) ?_))))
        refine aa_ic_geN iX11_sheet_66 (by omega) (by omega) (fun g4 => ?_) (fun g4 => ?_)
        · skip
          refine aa_go (aa_iconst iX11_sheet_83 ki_0) (aa_go (aa_cVv iX11_sheet_84 (c_setWorthE hW1 e13 g3 hn _) (by decide) lc_X6_setWorth lk_X11_158 (sh_7 hW1) rfl rfl (Nat.le_of_ble_eq_true rfl)) (aa_go (aa_iincN6 (k := 1) iX11_sheet_87 rfl (by decide)) (aa_go (aa_goto iX11_sheet_90) ?_)))
          exact (nxt 0 (by rw [shV, if_neg (by omega)])).resolve_right (by omega)
        · skip
          refine aa_go (aa_iload1 iX11_sheet_69) (aa_go (aa_iload3 iX11_sheet_70) (aa_go (aa_iload6 iX11_sheet_71) (aa_go (aa_iload4 iX11_sheet_73) (aa_go (aa_imul iX11_sheet_75) (aa_go (aa_iadd iX11_sheet_76) (aa_go (aa_cSi iX11_sheet_77 (c_entry (by omega) _) (by decide) lc_X11_entry lk_X11_154 rfl (Nat.le_of_ble_eq_true rfl)) (aa_go (aa_goto iX11_sheet_80) ?_)))))))
          refine aa_go (aa_cVv iX11_sheet_84 (c_setWorthE hW1 e13 g3 hn _) (by decide) lc_X6_setWorth lk_X11_158 (sh_7 hW1) rfl rfl (Nat.le_of_ble_eq_true rfl)) (aa_go (aa_iincN6 (k := 1) iX11_sheet_87 rfl (by decide)) (aa_go (aa_goto iX11_sheet_90) ?_))
          exact (nxt _ (by rw [shV, if_pos g4])).resolve_right (by omega)
  have key : aa_V mX11_sheet 100 0 [some (.ref 0), some (.int (nI k)), some (.int x), some (.int f), some (.int st), none, none] [] σ (fun ra σ' => ra = some (.int (if k = 3 then -3 else nI (pl_wo (shP P k ent f st) (2 ^ pl_n P - 1)))) ∧ XI (shP P k ent f st) tx n g kp lk tl rw (N + 1) r dy σ' ∧ CF r σ r σ') := by
    have lp := loop (pl_n P + 1) 0 σ (by omega) (by omega) FrA.rf (fun j hj => by omega) (fun j _ => rfl)
    refine aa_go (aa_iload1 iX11_sheet_0) ?_
    refine aa_go (aa_if_ltN iX11_sheet_1 (by omega)) ?_
    refine aa_go (aa_iload1 iX11_sheet_4) (aa_go (aa_iconst iX11_sheet_5 ki_3) ?_)
    refine aa_ic_gtN iX11_sheet_6 (by omega) (by omega) (fun g1 => ?_) (fun g1 => ?_)
    · skip
      omega
    · skip
      refine aa_go (aa_iload2 iX11_sheet_9) (aa_go (aa_bipush iX11_sheet_10 kb_14) ?_)
      refine aa_ic_le iX11_sheet_12 (fun g2 => ?_) (fun g2 => ?_)
      · skip
        refine aa_go (aa_iload1 iX11_sheet_17) (aa_go (aa_iconst iX11_sheet_18 ki_3) ?_)
        refine aa_ic_geN iX11_sheet_19 (by omega) (by omega) (fun g3 => ?_) (fun g3 => ?_)
        · skip
          have k3 : k = 3 := by omega
          have e0 : ent = 0 := by omega
          subst k3
          subst e0
          refine aa_go (aa_iload1 iX11_sheet_29) (aa_go (aa_iconst iX11_sheet_30 ki_3) ?_)
          refine aa_ic_neN iX11_sheet_31 (by omega) (by omega) (fun g4 => ?_) (fun g4 => ?_)
          · skip
            exact absurd rfl g4
          · skip
            refine aa_go (aa_iconst iX11_sheet_34 ki_0) (aa_go (aa_goto iX11_sheet_35) (aa_go (aa_istore5 iX11_sheet_39 rfl (by decide)) (aa_go (aa_iconst iX11_sheet_41 ki_0) (aa_go (aa_istore6 iX11_sheet_42 rfl (by decide)) ?_))))
            exact lp
        · skip
          obtain ⟨-, rfl, e14⟩ := hx0.resolve_left (by omega)
          refine aa_go (aa_iload2 iX11_sheet_22) ?_
          refine aa_go (aa_if_geN iX11_sheet_23 (by omega)) ?_
          refine aa_go (aa_iload1 iX11_sheet_29) (aa_go (aa_iconst iX11_sheet_30 ki_3) ?_)
          refine aa_ic_neN iX11_sheet_31 (by omega) (by omega) (fun g4 => ?_) (fun g4 => ?_)
          · skip
            refine aa_go (aa_iload2 iX11_sheet_38) (aa_go (aa_istore5 iX11_sheet_39 rfl (by decide)) (aa_go (aa_iconst iX11_sheet_41 ki_0) (aa_go (aa_istore6 iX11_sheet_42 rfl (by decide)) ?_)))
            exact lp
          · skip
            omega
      · skip
        exact absurd hx g2
  obtain ⟨ra, σ', ⟨rfl, h1⟩, hS9⟩ := aa_S_of (avs := [.ref 0, .int (nI k), .int x, .int f, .int st]) (by decide) 2 [some (.ref 0), some (.int (nI k)), some (.int x), some (.int f), some (.int st), none, none] rfl rfl key
  exact ⟨σ', h1, hS9⟩
theorem p_sheetB (hW : aa_W r dy σ) {k x f st : Int32} (h : (k < 0 ∨ nI 3 < k) ∨ ¬ x ≤ nI 14) : aa_SX mX11_sheet 100 [.ref 0, .int k, .int x, .int f, .int st] σ (some (.int (-1))) σ := by
  refine aa_E_of (by decide) 2 [some (.ref 0), some (.int (k)), some (.int (x)), some (.int (f)), some (.int (st)), none, none] rfl rfl ?_
  refine aa_go (aa_iload1 iX11_sheet_0) ?_
  refine aa_if_lt iX11_sheet_1 (fun g1 => ?_) (fun g1 => ?_)
  · skip
    refine aa_go (aa_iconst iX11_sheet_15 ki_m1) ?_
    refine aa_iret iX11_sheet_16 rfl ?_
    exact ⟨rfl, rfl⟩
  · skip
    refine aa_go (aa_iload1 iX11_sheet_4) (aa_go (aa_iconst iX11_sheet_5 ki_3) ?_)
    refine aa_ic_gt iX11_sheet_6 (fun g2 => ?_) (fun g2 => ?_)
    · skip
      refine aa_go (aa_iconst iX11_sheet_15 ki_m1) ?_
      refine aa_iret iX11_sheet_16 rfl ?_
      exact ⟨rfl, rfl⟩
    · skip
      refine aa_go (aa_iload2 iX11_sheet_9) (aa_go (aa_bipush iX11_sheet_10 kb_14) ?_)
      refine aa_ic_le iX11_sheet_12 (fun g3 => ?_) (fun g3 => ?_)
      · skip
        rcases h with (h | h) | h
        · exact absurd h g1
        · exact absurd h g2
        · exact absurd g3 h
      · skip
        refine aa_go (aa_iconst iX11_sheet_15 ki_m1) ?_
        refine aa_iret iX11_sheet_16 rfl ?_
        exact ⟨rfl, rfl⟩
theorem p_sheetM (hW : aa_W r dy σ) {k : Nat} {x f st : Int32} (hk : k < 3) (hx : x < 0) : aa_SX mX11_sheet 100 [.ref 0, .int (nI k), .int x, .int f, .int st] σ (some (.int (-2))) σ := by
  refine aa_E_of (by decide) 2 [some (.ref 0), some (.int (nI k)), some (.int (x)), some (.int (f)), some (.int (st)), none, none] rfl rfl ?_
  refine aa_go (aa_iload1 iX11_sheet_0) ?_
  refine aa_go (aa_if_ltN iX11_sheet_1 (by omega)) ?_
  refine aa_go (aa_iload1 iX11_sheet_4) (aa_go (aa_iconst iX11_sheet_5 ki_3) ?_)
  refine aa_ic_gtN iX11_sheet_6 (by omega) (by omega) (fun g1 => ?_) (fun g1 => ?_)
  · skip
    omega
  · skip
    refine aa_go (aa_iload2 iX11_sheet_9) (aa_go (aa_bipush iX11_sheet_10 kb_14) ?_)
    refine aa_ic_le iX11_sheet_12 (fun g2 => ?_) (fun g2 => ?_)
    · skip
      refine aa_go (aa_iload1 iX11_sheet_17) (aa_go (aa_iconst iX11_sheet_18 ki_3) ?_)
      refine aa_ic_geN iX11_sheet_19 (by omega) (by omega) (fun g3 => ?_) (fun g3 => ?_)
      · skip
        omega
      · skip
        refine aa_go (aa_iload2 iX11_sheet_22) ?_
        refine aa_if_ge iX11_sheet_23 (fun g4 => ?_) (fun g4 => ?_)
        · skip
          exact absurd g4 (Int32.not_le.mpr hx)
        · skip
          refine aa_go (aa_bipush iX11_sheet_26 kb_m2) ?_
          refine aa_iret iX11_sheet_28 rfl ?_
          exact ⟨rfl, rfl⟩
    · skip
      refine absurd (Int32.le_of_lt (Int32.lt_trans hx ?_)) g2
      decide
end
