/-! PUBLIC METHODS, fourth part: the text, the game, games kept -/
section
variable {v W S R : Nat} {r : Nat → Nat} {dy : List aa_Shp} {σ σ' : aa_St} {P : pl_T} {tx tx' : Nat → Nat} {n n' : Nat} {g g' : gm_T} {kp kp' : Nat → Option gm_T} {lk lk' tl tl' : Nat} {rw rw' : Nat → Int} {N : Nat}
theorem XIv.set (h : XIv P tx n g kp lk tl rw N v W S R r dy σ) (hF : FrA [0, 1, 2, 3, 4, 5, 6, 20, 21, 23, 46, 57, 58, 59, 60, 61, 62] σ σ') (hT : XT P tx' n' g' kp' lk' tl' rw' σ') : XIv P tx' n' g' kp' lk' tl' rw' N v W S R r dy σ' ∧ CF r σ r σ' := by
  obtain ⟨a1, a2, a3, a4, a5, a6, a7, a8, w1, w2, w3, w4⟩ := h
  have q : ∀ x, (6 < x ∧ x < 20) ∨ (21 < x ∧ x < 57 ∧ x ≠ 23 ∧ x ≠ 46) ∨ 62 < x → σ'.1 x = σ.1 x := fun x hx => hF.2 x (by simp; omega)
  have e2 := hF.1
  have qr : ∀ j, j < 7 → σ'.1 (r j) = σ.1 (r j) := fun j hj => q _ (by have := a2.lo hj; omega)
  refine ⟨⟨hF.W a1, a2, a3.fr ⟨by rw [q 7 (by decide)], by rw [q 7 (by decide)], by rw [q 7 (by decide)]⟩ (fun x h1 h2 => q x (by omega)), by rw [q 7 (by decide)]; exact a4, a5, hT, ?_, a8.fr (by rw [e2]) (fun x hx => by rw [q x (by omega)]), w1, w2, w3, w4.fr (fun x hx => by rw [q x (by simp at hx; omega)]) (by rw [q 49 (by decide)])⟩, ⟨fun x h1 h2 => ⟨q x (by omega), by rw [e2]⟩, rfl, rfl⟩⟩
  obtain ⟨a0, a1, a2', a3, a4, a5, ⟨a6, a6'⟩, a7, a8, a9⟩ := a7
  refine ⟨?_, ?_, ?_, ?_, ?_, ?_, ⟨?_, ?_⟩, ?_, ?_, a9⟩
  · unfold S0 R0; rw [q 25 (by decide), e2]; exact a0
  · unfold S1 R1; rw [q 27 (by decide), e2]; exact a1
  · unfold S2 R2; rw [q 30 (by decide), e2]; exact a2'
  · unfold S3 R3; rw [e2, qr 3 (by decide)]; exact a3
  · unfold S4 R4; rw [q 39 (by decide), e2]; exact a4
  · unfold S5 R5; rw [q 47 (by decide), e2]; exact a5
  · rw [q 49 (by decide)]; exact a6
  · rw [e2, qr 6 (by decide), q 49 (by decide)]
    rcases a6' with a | ⟨a, b, c, d⟩
    · exact Or.inl a
    · refine Or.inr ⟨a, b, c, fun T e x1 x2 x3 x4 x5 x6 => ?_⟩
      obtain ⟨y1, y2⟩ := d T e x1 x2 x3 x4 x5 x6
      exact ⟨y1.fr (by rw [q 51 (by decide)]) (q 52 (by decide)) (q 53 (by decide)) (q 54 (by decide)), y2⟩
  · rw [q 24 (by decide)]; exact a7
  · rw [e2]; exact a8
theorem XT.text (h : XT P tx n g kp lk tl rw σ) (hi : ∀ x, x ≠ 1 → x ≠ 2 → x ∈ XTc → σ'.1 x = σ.1 x) (hl : σ'.2.1 56 = σ.2.1 56) (hC : TC tx' n' σ'.1) : XT P tx' n' g kp lk tl rw σ' := by
  have e : XT P tx n g kp lk tl rw (fun x k => if x = 1 ∨ x = 2 then σ.1 x k else σ'.1 x k, σ'.2) := h.fr (fun x hx => by
    funext k
    by_cases c : x = 1 ∨ x = 2
    · simp only [c, if_true]
    · simp only [c, if_false]; rw [hi x (fun q => c (Or.inl q)) (fun q => c (Or.inr q)) hx]) hl
  obtain ⟨-, b, c, d, e'⟩ := e
  refine ⟨hC, ⟨?_, b.2⟩, fun j hj => ?_, ?_, ?_⟩
  · exact b.1
  · obtain ⟨c1, c2⟩ := c j hj
    refine ⟨c1, fun g1 hg => ?_⟩
    obtain ⟨f1, f2⟩ := c2 g1 hg
    refine ⟨?_, f2⟩
    unfold XGg XG at f1 ⊢
    have n1 : ¬ (57 + 2 * j = 1 ∨ 57 + 2 * j = 2) := by omega
    have n2 : ¬ (57 + 2 * j + 1 = 1 ∨ 57 + 2 * j + 1 = 2) := by omega
    simp only [n1, n2, if_false] at f1
    exact f1
  · exact d
  · exact e'
theorem XT.game (h : XT P tx n g kp lk tl rw σ) (hi : ∀ x, x ≠ 20 → x ≠ 21 → x ∈ XTc → σ'.1 x = σ.1 x) (hl : σ'.2.1 56 = σ.2.1 56) (hG : XGg 20 g' σ'.1) (hV : GV P g') : XT P tx n g' kp lk tl rw σ' := by
  have e : XT P tx n g kp lk tl rw (fun x k => if x = 20 ∨ x = 21 then σ.1 x k else σ'.1 x k, σ'.2) := h.fr (fun x hx => by
    funext k
    by_cases c : x = 20 ∨ x = 21
    · simp only [c, if_true]
    · simp only [c, if_false]; rw [hi x (fun q => c (Or.inl q)) (fun q => c (Or.inr q)) hx]) hl
  obtain ⟨a, -, c, d, e'⟩ := e
  refine ⟨a, ⟨hG, hV⟩, fun j hj => ?_, d, e'⟩
  obtain ⟨c1, c2⟩ := c j hj
  refine ⟨c1, fun g1 hg => ?_⟩
  obtain ⟨f1, f2⟩ := c2 g1 hg
  refine ⟨?_, f2⟩
  unfold XGg XG at f1 ⊢
  have n1 : ¬ (57 + 2 * j = 20 ∨ 57 + 2 * j = 21) := by omega
  have n2 : ¬ (57 + 2 * j + 1 = 20 ∨ 57 + 2 * j + 1 = 21) := by omega
  simp only [n1, n2, if_false] at f1
  exact f1
theorem XIv.T (h : XIv P tx n g kp lk tl rw N v W S R r dy σ) : XT P tx n g kp lk tl rw σ := h.2.2.2.2.2.1
theorem p_signY (h : XIv P tx n g kp lk tl rw N v W S R r dy σ) (hn : n ≤ 76) {a : Nat} (ha : a < 4294967296) : ∃ σ', (XI P (txA tx n a) (n + 4) g kp lk tl rw N r dy σ' ∧ CF r σ r σ') ∧ aa_SX mX11_sign 100 [.ref 0, .int (nI a)] σ (some (.int (nI (n + 4)))) σ' := by
  obtain ⟨σ1, ⟨hF1, hk1, hC1⟩, hS1⟩ := c_X7_appendY h.1 h.T.1 hn ha
  obtain ⟨h1, f1⟩ := h.set (σ' := σ1) ⟨hF1.1, fun x hx => hF1.2 x (fun c => hx (by simp at c ⊢; omega))⟩ (h.T.text (fun x h1 h2 _ => hF1.2 x (by simp; omega)) (by rw [hF1.1]) hC1)
  refine ⟨σ1, ⟨h1.to, f1⟩, ?_⟩
  refine aa_E_of (by decide) 0 [some (.ref 0), some (.int (nI a))] rfl rfl ?_
  refine aa_go (aa_aload0 iX11_sign_0) (aa_go (aa_getR iX11_sign_1 fl_X11_12 (sh_0 h.1) rfl) (aa_go (aa_iload1 iX11_sign_4) (aa_go (aa_cVi iX11_sign_5 (hS1) (by decide) lc_X7_append lk_X11_97 (sh_1 h.1) rfl rfl (Nat.le_of_ble_eq_true rfl)) ?_)))
  refine aa_iret iX11_sign_8 rfl ?_
  exact ⟨rfl, rfl⟩
theorem p_signN (h : XIv P tx n g kp lk tl rw N v W S R r dy σ) (hn : 76 < n) (x : Int32) : aa_SX mX11_sign 100 [.ref 0, .int x] σ (some (.int (-1))) σ := by
  refine aa_E_of (by decide) 0 [some (.ref 0), some (.int (x))] rfl rfl ?_
  refine aa_go (aa_aload0 iX11_sign_0) (aa_go (aa_getR iX11_sign_1 fl_X11_12 (sh_0 h.1) rfl) (aa_go (aa_iload1 iX11_sign_4) (aa_go (aa_cVi iX11_sign_5 (c_X7_appendN h.1 h.T.1 hn x) (by decide) lc_X7_append lk_X11_97 (sh_1 h.1) rfl rfl (Nat.le_of_ble_eq_true rfl)) ?_)))
  refine aa_iret iX11_sign_8 rfl ?_
  exact ⟨rfl, rfl⟩
theorem TC.cut (h : TC tx n σ.1) {k : Nat} (hk : k ≤ n) : TC tx k (aa_sI σ 1 1 (nI k)).1 := ⟨sI_eq, by have := h.2.1; omega, fun p hp => by rw [sI_ne (by decide)]; exact h.2.2 p (by omega)⟩
theorem p_endY (h : XIv P tx n g kp lk tl rw N v W S R r dy σ) {k : Nat} (hk : k ≤ n) : ∃ σ', (XI P tx k g kp lk tl rw N r dy σ' ∧ CF r σ r σ') ∧ aa_SX mX11_end 100 [.ref 0, .int (nI k)] σ (some (.int (nI 1))) σ' := by
  obtain ⟨h1, f1⟩ := h.set (σ' := aa_sI σ 1 1 (nI k)) (FrA.rf.s (by decide) _ _) (h.T.text (fun x h1 h2 _ => sI_ne h1) rfl (h.T.1.cut hk))
  refine ⟨_, ⟨h1.to, f1⟩, ?_⟩
  refine aa_E_of (by decide) 0 [some (.ref 0), some (.int (nI k))] rfl rfl ?_
  refine aa_go (aa_aload0 iX11_end_0) (aa_go (aa_getR iX11_end_1 fl_X11_12 (sh_0 h.1) rfl) (aa_go (aa_iload1 iX11_end_4) (aa_go (aa_cVi iX11_end_5 (c_X7_cutY h.1 h.T.1.1 hk h.T.1.2.1) (by decide) lc_X7_cut lk_X11_101 (sh_1 h.1) rfl rfl (Nat.le_of_ble_eq_true rfl)) ?_)))
  refine aa_zretT iX11_end_8 rfl ?_
  exact ⟨rfl, rfl⟩
theorem p_endN (h : XIv P tx n g kp lk tl rw N v W S R r dy σ) {x : Int32} (hx : x < 0 ∨ nI n < x) : aa_SX mX11_end 100 [.ref 0, .int x] σ (some (.int (nI 0))) σ := by
  refine aa_E_of (by decide) 0 [some (.ref 0), some (.int (x))] rfl rfl ?_
  refine aa_go (aa_aload0 iX11_end_0) (aa_go (aa_getR iX11_end_1 fl_X11_12 (sh_0 h.1) rfl) (aa_go (aa_iload1 iX11_end_4) (aa_go (aa_cVi iX11_end_5 (c_X7_cutN h.1 h.T.1.1 hx) (by decide) lc_X7_cut lk_X11_101 (sh_1 h.1) rfl rfl (Nat.le_of_ble_eq_true rfl)) ?_)))
  refine aa_zretF iX11_end_8 rfl ?_
  exact ⟨rfl, rfl⟩
theorem p_ends (h : XIv P tx n g kp lk tl rw N v W S R r dy σ) {k : Nat} (hk : k ≤ 1) : ∃ σ', (XI P tx n (g.1, g.2.1, g.2.2.1, k) kp lk tl rw N r dy σ' ∧ CF r σ r σ') ∧ aa_SX mX11_ends 100 [.ref 0, .int (nI k)] σ (some (.int (nI (gen g)))) σ' := by
  obtain ⟨b1, b2, b3, b4, b5, b6⟩ := h.G
  obtain ⟨h1, f1⟩ := h.set (σ' := aa_sI σ 20 4 (nI k)) (g' := (g.1, g.2.1, g.2.2.1, k)) (FrA.rf.s (by decide) _ _) (h.T.game (fun x h1 h2 _ => sI_ne h1) rfl ⟨by rw [sI_nk (by decide)]; exact b1, b2, by rw [sI_nk (by decide)]; exact b3, sI_eq, hk, fun j hj => by rw [sI_ne (by decide)]; exact b6 j hj⟩ h.GV)
  refine ⟨_, ⟨h1.to, f1⟩, ?_⟩
  refine aa_E_of (by decide) 1 [some (.ref 0), some (.int (nI k)), none] rfl rfl ?_
  refine aa_go (aa_iload1 iX11_ends_0) ?_
  refine aa_go (aa_if_ltN iX11_ends_1 (by omega)) ?_
  refine aa_go (aa_iload1 iX11_ends_4) (aa_go (aa_iconst iX11_ends_5 ki_1) ?_)
  refine aa_ic_leN iX11_ends_6 (by omega) (by omega) (fun g1 => ?_) (fun g1 => ?_)
  · skip
    refine aa_go (aa_aload0 iX11_ends_11) (aa_go (aa_getR iX11_ends_12 fl_X11_28 (sh_0 h.1) rfl) (aa_go (aa_cVi iX11_ends_15 (c_X2_ending h.1 h.G) (by decide) lc_X2_ending lk_X11_144 (sh_20 h.1) rfl rfl (Nat.le_of_ble_eq_true rfl)) (aa_go (aa_istore2 iX11_ends_18 rfl (by decide)) (aa_go (aa_aload0 iX11_ends_19) (aa_go (aa_getR iX11_ends_20 fl_X11_28 (sh_0 h.1) rfl) (aa_go (aa_iload1 iX11_ends_23) (aa_go (aa_cVv iX11_ends_24 (c_X2_endBy h.1 _) (by decide) lc_X2_endBy lk_X11_147 (sh_20 h.1) rfl rfl (Nat.le_of_ble_eq_true rfl)) ?_)))))))
    refine aa_go (aa_iload2 iX11_ends_27) ?_
    refine aa_iret iX11_ends_28 rfl ?_
    exact ⟨rfl, rfl⟩
  · skip
    omega
theorem p_endsB (hW : aa_W r dy σ) {x : Int32} (hx : x < 0 ∨ nI 1 < x) : aa_SX mX11_ends 100 [.ref 0, .int x] σ (some (.int (-1))) σ := by
  refine aa_E_of (by decide) 1 [some (.ref 0), some (.int (x)), none] rfl rfl ?_
  refine aa_go (aa_iload1 iX11_ends_0) ?_
  refine aa_if_lt iX11_ends_1 (fun g1 => ?_) (fun g1 => ?_)
  · skip
    refine aa_go (aa_iconst iX11_ends_9 ki_m1) ?_
    refine aa_iret iX11_ends_10 rfl ?_
    exact ⟨rfl, rfl⟩
  · skip
    refine aa_go (aa_iload1 iX11_ends_4) (aa_go (aa_iconst iX11_ends_5 ki_1) ?_)
    refine aa_ic_le iX11_ends_6 (fun g2 => ?_) (fun g2 => ?_)
    · skip
      rcases hx with q | q
      · exact absurd q g1
      · exact absurd q (Int32.not_lt.mpr g2)
    · skip
      refine aa_go (aa_iconst iX11_ends_9 ki_m1) ?_
      refine aa_iret iX11_ends_10 rfl ?_
      exact ⟨rfl, rfl⟩
theorem p_may (h : XIv P tx n g kp lk tl rw N v W S R r dy σ) {k : Nat} (hk : k ≤ 2) : aa_SX mX11_may 100 [.ref 0, .int (nI k)] σ (some (.int (nI (pl_nmk P (pl_mv P k (gst g)) (pl_b P))))) σ := by
  have p16 := h.p16
  have lmv := pl_mv_lt P k (gst g)
  refine aa_E_of (by decide) 0 [some (.ref 0), some (.int (nI k))] rfl rfl ?_
  refine aa_go (aa_iload1 iX11_may_0) ?_
  refine aa_go (aa_if_ltN iX11_may_1 (by omega)) ?_
  refine aa_go (aa_iload1 iX11_may_4) (aa_go (aa_iconst iX11_may_5 ki_2) ?_)
  refine aa_ic_leN iX11_may_6 (by omega) (by omega) (fun g1 => ?_) (fun g1 => ?_)
  · skip
    refine aa_go (aa_aload0 iX11_may_13) (aa_go (aa_getR iX11_may_14 fl_X11_19 (sh_0 h.1) rfl) (aa_go (aa_aload0 iX11_may_17) (aa_go (aa_getR iX11_may_18 fl_X11_19 (sh_0 h.1) rfl) (aa_go (aa_aload0 iX11_may_21) (aa_go (aa_getR iX11_may_22 fl_X11_28 (sh_0 h.1) rfl) (aa_go (aa_cVi iX11_may_25 (c_X2_state h.1 h.G) (by decide) lc_X2_state lk_X11_140 (sh_20 h.1) rfl rfl (Nat.le_of_ble_eq_true rfl)) (aa_go (aa_iload1 iX11_may_28) ?_)))))))
    refine aa_go (aa_cVi iX11_may_29 (c_X6_moves h.1 h.X (by omega)) (by decide) lc_X6_moves lk_X11_182 (sh_7 h.1) rfl rfl (Nat.le_of_ble_eq_true rfl)) (aa_go (aa_cVi iX11_may_32 (c_X6_named h.1 h.X (v := pl_mv P k (gst g)) (by omega)) (by decide) lc_X6_named lk_X11_185 (sh_7 h.1) rfl rfl (Nat.le_of_ble_eq_true rfl)) ?_)
    refine aa_iret iX11_may_35 rfl ?_
    exact ⟨rfl, rfl⟩
  · skip
    omega
theorem p_mayB (hW : aa_W r dy σ) {x : Int32} (hx : x < 0 ∨ nI 2 < x) : aa_SX mX11_may 100 [.ref 0, .int x] σ (some (.int (-1))) σ := by
  refine aa_E_of (by decide) 0 [some (.ref 0), some (.int (x))] rfl rfl ?_
  refine aa_go (aa_iload1 iX11_may_0) ?_
  refine aa_if_lt iX11_may_1 (fun g1 => ?_) (fun g1 => ?_)
  · skip
    refine aa_go (aa_iconst iX11_may_9 ki_m1) (aa_go (aa_goto iX11_may_10) ?_)
    refine aa_iret iX11_may_35 rfl ?_
    exact ⟨rfl, rfl⟩
  · skip
    refine aa_go (aa_iload1 iX11_may_4) (aa_go (aa_iconst iX11_may_5 ki_2) ?_)
    refine aa_ic_le iX11_may_6 (fun g2 => ?_) (fun g2 => ?_)
    · skip
      rcases hx with q | q
      · exact absurd q g1
      · exact absurd q (Int32.not_lt.mpr g2)
    · skip
      refine aa_go (aa_iconst iX11_may_9 ki_m1) (aa_go (aa_goto iX11_may_10) ?_)
      refine aa_iret iX11_may_35 rfl ?_
      exact ⟨rfl, rfl⟩
theorem GV.mu (ok : pl_ok P) (h : GV P g) : ∀ k, k ≤ g.1 → pl_mu P (g.2.1 k) + k ≤ 18
  | 0, _ => by have := pl_mu_le ok (g.2.1 0); omega
  | k + 1, hk => by
    have ih := GV.mu ok h k (by omega)
    obtain ⟨h1, h2⟩ := h.2.2 k (by omega)
    have := pl_mu_lt ok h1
    rw [h2]; omega
def gGo (P : pl_T) (g : gm_T) (j : Nat) : gm_T := (g.1 + 1, nup g.2.1 (g.1 + 1) (pl_nx P (gst g) j), nup g.2.2.1 g.1 j, g.2.2.2)
theorem GV.go (ok : pl_ok P) (h : GV P g) {j : Nat} (hl : pl_lg P (gtn g) (gst g) j = true) : GV P (gGo P g j) := by
  refine ⟨?_, fun k => ?_, fun k hk => ?_⟩
  · show nup g.2.1 (g.1 + 1) (pl_nx P (gst g) j) 0 = _
    rw [nup_ne (by omega)]; exact h.1
  · show nup g.2.1 (g.1 + 1) (pl_nx P (gst g) j) k < _
    by_cases c : k = g.1 + 1
    · rw [c, nup_eq]; exact pl_nx_lt ok (h.2.1 g.1) (pl_lg_lt hl)
    · rw [nup_ne c]; exact h.2.1 k
  · show pl_lg P (k % 2) (nup g.2.1 (g.1 + 1) (pl_nx P (gst g) j) k) (nup g.2.2.1 g.1 j k) = true ∧ nup g.2.1 (g.1 + 1) (pl_nx P (gst g) j) (k + 1) = pl_nx P (nup g.2.1 (g.1 + 1) (pl_nx P (gst g) j) k) (nup g.2.2.1 g.1 j k)
    have hk' : k < g.1 + 1 := hk
    rw [nup_ne (show k ≠ g.1 + 1 by omega)]
    by_cases c : k = g.1
    · subst c
      rw [nup_eq, nup_eq]
      exact ⟨hl, rfl⟩
    · rw [nup_ne c, nup_ne (show k + 1 ≠ g.1 + 1 by omega)]
      exact h.2.2 k (by omega)
theorem p_moveY (h : XIv P tx n g kp lk tl rw N v W S R r dy σ) {m j : Nat} (hm : m < 28) (hmn : m % 14 < pl_n P) (hj : pl_sp P m = some j) (hjl : j < pl_n P + pl_b P) (hl : pl_lg P (gtn g) (gst g) j = true) : ∃ σ', (XI P tx n (gGo P g j) kp lk tl rw N r dy σ' ∧ CF r σ r σ') ∧ aa_SX mX11_move 100 [.ref 0, .int (nI m)] σ (some (.int (nI (bd (gst g) (pl_nx P (gst g) j))))) σ' := by
  obtain ⟨b1, b2, b3, b4, b5, b6⟩ := h.G
  have hn := h.X.n14
  have hb := h.X.b2
  have mu := h.GV.mu h.ok g.1 (Nat.le_refl _)
  have ml := pl_mu_lt h.ok hl
  have m18 : g.1 < 18 := by unfold gst at ml; omega
  have hG1 : XGg 20 (gGo P g j) (aa_sI (aa_sI (aa_sI σ 21 g.1 (nI (g.2.1 g.1))) 20 2 (nI (g.1 + 1))) 20 3 (nI (pl_nx P (g.2.1 g.1) j))).1 := by
    refine ⟨by rw [sI_nk (by decide), sI_eq]; rfl, by show g.1 + 1 ≤ 18; omega, ?_, ?_, b5, fun k hk => ?_⟩
    · rw [sI_eq]
      show _ = nI (nup g.2.1 (g.1 + 1) (pl_nx P (gst g) j) (g.1 + 1))
      rw [nup_eq]; rfl
    · rw [sI_nk (by decide), sI_nk (by decide), sI_ne (by decide)]; exact b4
    · have hk' : k < g.1 + 1 := hk
      show (aa_sI (aa_sI (aa_sI σ 21 g.1 (nI (g.2.1 g.1))) 20 2 (nI (g.1 + 1))) 20 3 (nI (pl_nx P (g.2.1 g.1) j))).1 21 k = nI (nup g.2.1 (g.1 + 1) (pl_nx P (gst g) j) k)
      rw [sI_ne (by decide), sI_ne (by decide), sI_at, nup_ne (show k ≠ g.1 + 1 by omega)]
      by_cases c : k = g.1
      · rw [if_pos c, c]
      · rw [if_neg c]; exact b6 k (by omega)
  obtain ⟨h1, f1⟩ := h.set (g' := gGo P g j) (((FrA.rf.s (by decide) _ _).s (by decide) _ _).s (by decide) _ _) (h.T.game (fun x h1 h2 _ => by rw [sI_ne h1, sI_ne h1, sI_ne h2]) rfl hG1 (h.GV.go h.ok hl))
  refine ⟨_, ⟨h1.to, f1⟩, ?_⟩
  have hS1 : aa_SX mX6_step 2 [.ref 7, .int (nI m)] σ (some (.int (nI j))) σ := by
    have := c_X6_step h.1 h.X (m := m) (by omega)
    rw [hj] at this
    exact this
  refine aa_E_of (by decide) 1 [some (.ref 0), some (.int (nI m)), none] rfl rfl ?_
  refine aa_go (aa_iload1 iX11_move_0) ?_
  refine aa_go (aa_if_ltN iX11_move_1 (by omega)) ?_
  refine aa_go (aa_iload1 iX11_move_4) (aa_go (aa_bipush iX11_move_5 kb_28) ?_)
  refine aa_ic_geN iX11_move_7 (by omega) (by omega) (fun g1 => ?_) (fun g1 => ?_)
  · skip
    omega
  · skip
    refine aa_go (aa_aload0 iX11_move_10) (aa_go (aa_getR iX11_move_11 fl_X11_19 (sh_0 h.1) rfl) (aa_go (aa_iload1 iX11_move_14) (aa_go (aa_bipush iX11_move_15 kb_14) (aa_go (aa_iremN iX11_move_17 (by omega) (by omega) (by omega)) (aa_go (aa_cVi iX11_move_18 (c_X6_hasN h.1 h.X (by omega)) (by decide) lc_X6_has lk_X11_115 (sh_7 h.1) rfl rfl (Nat.le_of_ble_eq_true rfl)) ?_)))))
    refine aa_if_neB iX11_move_21 (fun g2 => ?_) (fun g2 => ?_)
    · skip
      refine aa_go (aa_aload0 iX11_move_26) (aa_go (aa_getR iX11_move_27 fl_X11_19 (sh_0 h.1) rfl) (aa_go (aa_iload1 iX11_move_30) (aa_go (aa_cVi iX11_move_31 (hS1) (by decide) lc_X6_step lk_X11_188 (sh_7 h.1) rfl rfl (Nat.le_of_ble_eq_true rfl)) (aa_go (aa_istore2 iX11_move_34 rfl (by decide)) (aa_go (aa_aload0 iX11_move_35) (aa_go (aa_getR iX11_move_36 fl_X11_19 (sh_0 h.1) rfl) (aa_go (aa_aload0 iX11_move_39) ?_)))))))
      refine aa_go (aa_getR iX11_move_40 fl_X11_28 (sh_0 h.1) rfl) (aa_go (aa_cVi iX11_move_43 (c_X2_state h.1 h.G) (by decide) lc_X2_state lk_X11_140 (sh_20 h.1) rfl rfl (Nat.le_of_ble_eq_true rfl)) (aa_go (aa_aload0 iX11_move_46) (aa_go (aa_getR iX11_move_47 fl_X11_28 (sh_0 h.1) rfl) (aa_go (aa_cVi iX11_move_50 (c_X2_turn h.1 h.G) (by decide) lc_X2_turn lk_X11_191 (sh_20 h.1) rfl rfl (Nat.le_of_ble_eq_true rfl)) (aa_go (aa_iload2 iX11_move_53) (aa_go (aa_cVi iX11_move_54 (c_X6_can h.1 h.X (by omega) (by omega)) (by decide) lc_X6_can lk_X11_194 (sh_7 h.1) rfl rfl (Nat.le_of_ble_eq_true rfl)) ?_))))))
      refine aa_if_eqB iX11_move_57 (fun g3 => ?_) (fun g3 => ?_)
      · skip
        have : (decide (j < pl_n P + pl_b P) && pl_lg P (g.1 % 2) (g.2.1 g.1) j) = true := by rw [decide_eq_true hjl]; exact hl
        rw [this] at g3; exact absurd g3 (by decide)
      · skip
        refine aa_go (aa_aload0 iX11_move_60) (aa_go (aa_getR iX11_move_61 fl_X11_28 (sh_0 h.1) rfl) (aa_go (aa_iload2 iX11_move_64) (aa_go (aa_cVi iX11_move_65 (c_X2_go h.1 h.X h.G m18 hjl) (by decide) lc_X2_go lk_X11_198 (sh_20 h.1) rfl rfl (Nat.le_of_ble_eq_true rfl)) (aa_go (aa_goto iX11_move_68) ?_))))
        refine aa_iret iX11_move_73 rfl ?_
        exact ⟨rfl, rfl⟩
    · skip
      exact absurd hmn (of_decide_eq_false g2)
theorem p_moveN (h : XIv P tx n g kp lk tl rw N v W S R r dy σ) {m : Nat} (hm : m < 28) (hmn : m % 14 < pl_n P) (hj : ∀ j, pl_sp P m = some j → j < pl_n P + pl_b P ∧ pl_lg P (gtn g) (gst g) j = false) : aa_SX mX11_move 100 [.ref 0, .int (nI m)] σ (some (.int (-2))) σ := by
  have hn := h.X.n14
  have hb := h.X.b2
  have hS1 := c_X6_step h.1 h.X (m := m) (by omega)
  cases q : pl_sp P m with
  | none =>
    rw [q] at hS1
    have hS2 : aa_SX mX6_step 2 [.ref 7, .int (nI m)] σ (some (.int (-1))) σ := hS1
    refine aa_E_of (by decide) 1 [some (.ref 0), some (.int (nI m)), none] rfl rfl ?_
    refine aa_go (aa_iload1 iX11_move_0) ?_
    refine aa_go (aa_if_ltN iX11_move_1 (by omega)) ?_
    refine aa_go (aa_iload1 iX11_move_4) (aa_go (aa_bipush iX11_move_5 kb_28) ?_)
    refine aa_ic_geN iX11_move_7 (by omega) (by omega) (fun g1 => ?_) (fun g1 => ?_)
    · skip
      omega
    · skip
      refine aa_go (aa_aload0 iX11_move_10) (aa_go (aa_getR iX11_move_11 fl_X11_19 (sh_0 h.1) rfl) (aa_go (aa_iload1 iX11_move_14) (aa_go (aa_bipush iX11_move_15 kb_14) (aa_go (aa_iremN iX11_move_17 (by omega) (by omega) (by omega)) (aa_go (aa_cVi iX11_move_18 (c_X6_hasN h.1 h.X (by omega)) (by decide) lc_X6_has lk_X11_115 (sh_7 h.1) rfl rfl (Nat.le_of_ble_eq_true rfl)) ?_)))))
      refine aa_if_neB iX11_move_21 (fun g2 => ?_) (fun g2 => ?_)
      · skip
        refine aa_go (aa_aload0 iX11_move_26) (aa_go (aa_getR iX11_move_27 fl_X11_19 (sh_0 h.1) rfl) (aa_go (aa_iload1 iX11_move_30) (aa_go (aa_cVi iX11_move_31 (hS2) (by decide) lc_X6_step lk_X11_188 (sh_7 h.1) rfl rfl (Nat.le_of_ble_eq_true rfl)) (aa_go (aa_istore2 iX11_move_34 rfl (by decide)) (aa_go (aa_aload0 iX11_move_35) (aa_go (aa_getR iX11_move_36 fl_X11_19 (sh_0 h.1) rfl) (aa_go (aa_aload0 iX11_move_39) ?_)))))))
        refine aa_go (aa_getR iX11_move_40 fl_X11_28 (sh_0 h.1) rfl) (aa_go (aa_cVi iX11_move_43 (c_X2_state h.1 h.G) (by decide) lc_X2_state lk_X11_140 (sh_20 h.1) rfl rfl (Nat.le_of_ble_eq_true rfl)) (aa_go (aa_aload0 iX11_move_46) (aa_go (aa_getR iX11_move_47 fl_X11_28 (sh_0 h.1) rfl) (aa_go (aa_cVi iX11_move_50 (c_X2_turn h.1 h.G) (by decide) lc_X2_turn lk_X11_191 (sh_20 h.1) rfl rfl (Nat.le_of_ble_eq_true rfl)) (aa_go (aa_iload2 iX11_move_53) (aa_go (aa_cVi iX11_move_54 (c_X6_canM h.1) (by decide) lc_X6_can lk_X11_194 (sh_7 h.1) rfl rfl (Nat.le_of_ble_eq_true rfl)) ?_))))))
        refine aa_if_eqB iX11_move_57 (fun g3 => ?_) (fun g3 => ?_)
        · skip
          refine aa_go (aa_bipush iX11_move_71 kb_m2) ?_
          refine aa_iret iX11_move_73 rfl ?_
          exact ⟨rfl, rfl⟩
        · skip
          exact absurd g3 (by decide)
      · skip
        exact absurd hmn (of_decide_eq_false g2)
  | some j =>
    obtain ⟨jl, lg⟩ := hj j q
    rw [q] at hS1
    have hS2 : aa_SX mX6_step 2 [.ref 7, .int (nI m)] σ (some (.int (nI j))) σ := hS1
    refine aa_E_of (by decide) 1 [some (.ref 0), some (.int (nI m)), none] rfl rfl ?_
    refine aa_go (aa_iload1 iX11_move_0) ?_
    refine aa_go (aa_if_ltN iX11_move_1 (by omega)) ?_
    refine aa_go (aa_iload1 iX11_move_4) (aa_go (aa_bipush iX11_move_5 kb_28) ?_)
    refine aa_ic_geN iX11_move_7 (by omega) (by omega) (fun g1 => ?_) (fun g1 => ?_)
    · skip
      omega
    · skip
      refine aa_go (aa_aload0 iX11_move_10) (aa_go (aa_getR iX11_move_11 fl_X11_19 (sh_0 h.1) rfl) (aa_go (aa_iload1 iX11_move_14) (aa_go (aa_bipush iX11_move_15 kb_14) (aa_go (aa_iremN iX11_move_17 (by omega) (by omega) (by omega)) (aa_go (aa_cVi iX11_move_18 (c_X6_hasN h.1 h.X (by omega)) (by decide) lc_X6_has lk_X11_115 (sh_7 h.1) rfl rfl (Nat.le_of_ble_eq_true rfl)) ?_)))))
      refine aa_if_neB iX11_move_21 (fun g2 => ?_) (fun g2 => ?_)
      · skip
        refine aa_go (aa_aload0 iX11_move_26) (aa_go (aa_getR iX11_move_27 fl_X11_19 (sh_0 h.1) rfl) (aa_go (aa_iload1 iX11_move_30) (aa_go (aa_cVi iX11_move_31 (hS2) (by decide) lc_X6_step lk_X11_188 (sh_7 h.1) rfl rfl (Nat.le_of_ble_eq_true rfl)) (aa_go (aa_istore2 iX11_move_34 rfl (by decide)) (aa_go (aa_aload0 iX11_move_35) (aa_go (aa_getR iX11_move_36 fl_X11_19 (sh_0 h.1) rfl) (aa_go (aa_aload0 iX11_move_39) ?_)))))))
        refine aa_go (aa_getR iX11_move_40 fl_X11_28 (sh_0 h.1) rfl) (aa_go (aa_cVi iX11_move_43 (c_X2_state h.1 h.G) (by decide) lc_X2_state lk_X11_140 (sh_20 h.1) rfl rfl (Nat.le_of_ble_eq_true rfl)) (aa_go (aa_aload0 iX11_move_46) (aa_go (aa_getR iX11_move_47 fl_X11_28 (sh_0 h.1) rfl) (aa_go (aa_cVi iX11_move_50 (c_X2_turn h.1 h.G) (by decide) lc_X2_turn lk_X11_191 (sh_20 h.1) rfl rfl (Nat.le_of_ble_eq_true rfl)) (aa_go (aa_iload2 iX11_move_53) (aa_go (aa_cVi iX11_move_54 (c_X6_can h.1 h.X (by omega) (by omega)) (by decide) lc_X6_can lk_X11_194 (sh_7 h.1) rfl rfl (Nat.le_of_ble_eq_true rfl)) ?_))))))
        refine aa_if_eqB iX11_move_57 (fun g3 => ?_) (fun g3 => ?_)
        · skip
          refine aa_go (aa_bipush iX11_move_71 kb_m2) ?_
          refine aa_iret iX11_move_73 rfl ?_
          exact ⟨rfl, rfl⟩
        · skip
          rw [Bool.and_eq_true] at g3
          have : pl_lg P (g.1 % 2) (g.2.1 g.1) j = false := lg
          rw [this] at g3; exact absurd g3.2 (by decide)
      · skip
        exact absurd hmn (of_decide_eq_false g2)
theorem p_moveB (h : XIv P tx n g kp lk tl rw N v W S R r dy σ) {x : Int32} (hx : (x < 0 ∨ nI 27 < x) ∨ ∃ m, x = nI m ∧ m < 28 ∧ ¬ m % 14 < pl_n P) : aa_SX mX11_move 100 [.ref 0, .int x] σ (some (.int (-1))) σ := by
  rcases hx with hx | ⟨m, rfl, hm, hmn⟩
  · skip
    refine aa_E_of (by decide) 1 [some (.ref 0), some (.int (x)), none] rfl rfl ?_
    refine aa_go (aa_iload1 iX11_move_0) ?_
    refine aa_if_lt iX11_move_1 (fun g1 => ?_) (fun g1 => ?_)
    · skip
      refine aa_go (aa_iconst iX11_move_24 ki_m1) ?_
      refine aa_iret iX11_move_25 rfl ?_
      exact ⟨rfl, rfl⟩
    · skip
      refine aa_go (aa_iload1 iX11_move_4) (aa_go (aa_bipush iX11_move_5 kb_28) ?_)
      refine aa_ic_ge iX11_move_7 (fun g2 => ?_) (fun g2 => ?_)
      · skip
        refine aa_go (aa_iconst iX11_move_24 ki_m1) ?_
        refine aa_iret iX11_move_25 rfl ?_
        exact ⟨rfl, rfl⟩
      · skip
        rcases hx with q | q
        · exact absurd q g1
        · refine absurd g2 (fun q2 => ?_)
          rw [Int32.le_iff_toInt_le, nI_toInt (by omega)] at q2
          rw [Int32.lt_iff_toInt_lt, nI_toInt (by omega)] at q
          first | omega | exact q2 (by omega)
  · skip
    refine aa_E_of (by decide) 1 [some (.ref 0), some (.int (nI m)), none] rfl rfl ?_
    refine aa_go (aa_iload1 iX11_move_0) ?_
    refine aa_go (aa_if_ltN iX11_move_1 (by omega)) ?_
    refine aa_go (aa_iload1 iX11_move_4) (aa_go (aa_bipush iX11_move_5 kb_28) ?_)
    refine aa_ic_geN iX11_move_7 (by omega) (by omega) (fun g1 => ?_) (fun g1 => ?_)
    · skip
      omega
    · skip
      refine aa_go (aa_aload0 iX11_move_10) (aa_go (aa_getR iX11_move_11 fl_X11_19 (sh_0 h.1) rfl) (aa_go (aa_iload1 iX11_move_14) (aa_go (aa_bipush iX11_move_15 kb_14) (aa_go (aa_iremN iX11_move_17 (by omega) (by omega) (by omega)) (aa_go (aa_cVi iX11_move_18 (c_X6_hasN h.1 h.X (by omega)) (by decide) lc_X6_has lk_X11_115 (sh_7 h.1) rfl rfl (Nat.le_of_ble_eq_true rfl)) ?_)))))
      refine aa_if_neB iX11_move_21 (fun g2 => ?_) (fun g2 => ?_)
      · skip
        exact absurd (of_decide_eq_true g2) hmn
      · skip
        refine aa_go (aa_iconst iX11_move_24 ki_m1) ?_
        refine aa_iret iX11_move_25 rfl ?_
        exact ⟨rfl, rfl⟩
theorem p_undo0 (h : XIv P tx n g kp lk tl rw N v W S R r dy σ) (h0 : g.1 = 0) : aa_SX mX11_undo 100 [.ref 0] σ (some (.int (-1))) σ := by
  have hG : XG 20 0 g.2.1 g.2.2.2 σ.1 := by have := h.G; rw [h0] at this; exact this
  refine aa_E_of (by decide) 0 [some (.ref 0)] rfl rfl ?_
  refine aa_go (aa_aload0 iX11_undo_0) (aa_go (aa_getR iX11_undo_1 fl_X11_28 (sh_0 h.1) rfl) (aa_go (aa_cVi iX11_undo_4 (c_X2_goBack0 h.1 hG) (by decide) lc_X2_goBack lk_X11_201 (sh_20 h.1) rfl rfl (Nat.le_of_ble_eq_true rfl)) ?_))
  refine aa_iret iX11_undo_7 rfl ?_
  exact ⟨rfl, rfl⟩
theorem p_undo (h : XIv P tx n g kp lk tl rw N v W S R r dy σ) {m : Nat} (h0 : g.1 = m + 1) : ∃ σ', (XI P tx n (m, g.2) kp lk tl rw N r dy σ' ∧ CF r σ r σ') ∧ aa_SX mX11_undo 100 [.ref 0] σ (some (.int (nI m))) σ' := by
  have hG : XG 20 (m + 1) g.2.1 g.2.2.2 σ.1 := by have := h.G; rw [h0] at this; exact this
  obtain ⟨b1, b2, b3, b4, b5, b6⟩ := hG
  have hG1 : XGg 20 (m, g.2) (aa_sI (aa_sI σ 20 2 (nI m)) 20 3 (nI (g.2.1 m))).1 := by
    refine ⟨by rw [sI_nk (by decide), sI_eq], by show m ≤ 18; omega, sI_eq, ?_, b5, fun k hk => ?_⟩
    · rw [sI_nk (by decide), sI_nk (by decide)]; exact b4
    · have hk' : k < m := hk
      rw [sI_ne (by decide), sI_ne (by decide)]; exact b6 k (by omega)
  have hV : GV P (m, g.2) := ⟨h.GV.1, h.GV.2.1, fun k hk => h.GV.2.2 k (by have hk' : k < m := hk; omega)⟩
  obtain ⟨h1, f1⟩ := h.set (g' := (m, g.2)) ((FrA.rf.s (by decide) _ _).s (by decide) _ _) (h.T.game (fun x h1 h2 _ => by rw [sI_ne h1, sI_ne h1]) rfl hG1 hV)
  refine ⟨_, ⟨h1.to, f1⟩, ?_⟩
  refine aa_E_of (by decide) 0 [some (.ref 0)] rfl rfl ?_
  refine aa_go (aa_aload0 iX11_undo_0) (aa_go (aa_getR iX11_undo_1 fl_X11_28 (sh_0 h.1) rfl) (aa_go (aa_cVi iX11_undo_4 (c_X2_goBack h.1 ⟨b1, b2, b3, b4, b5, b6⟩) (by decide) lc_X2_goBack lk_X11_201 (sh_20 h.1) rfl rfl (Nat.le_of_ble_eq_true rfl)) ?_))
  refine aa_iret iX11_undo_7 rfl ?_
  exact ⟨rfl, rfl⟩
theorem XIv.start (h : XIv P tx n g kp lk tl rw N v W S R r dy σ) : XIv P tx n (0, g.2) kp lk tl rw N v W S R r dy (aa_sI (aa_sI σ 20 2 (nI 0)) 20 3 (nI (2 ^ pl_n P - 1))) ∧ CF r σ r (aa_sI (aa_sI σ 20 2 (nI 0)) 20 3 (nI (2 ^ pl_n P - 1))) := by
  obtain ⟨b1, b2, b3, b4, b5, b6⟩ := h.G
  have hG1 : XGg 20 (0, g.2) (aa_sI (aa_sI σ 20 2 (nI 0)) 20 3 (nI (2 ^ pl_n P - 1))).1 := by
    refine ⟨by rw [sI_nk (by decide), sI_eq], by show 0 ≤ 18; omega, ?_, ?_, b5, fun k hk => absurd hk (Nat.not_lt_zero k)⟩
    · rw [sI_eq]
      show nI (2 ^ pl_n P - 1) = nI (g.2.1 0)
      rw [h.GV.1]
    · rw [sI_nk (by decide), sI_nk (by decide)]; exact b4
  exact h.set (g' := (0, g.2)) ((FrA.rf.s (by decide) _ _).s (by decide) _ _) (h.T.game (fun x h1 h2 _ => by rw [sI_ne h1, sI_ne h1]) rfl hG1 ⟨h.GV.1, h.GV.2.1, fun k hk => absurd hk (Nat.not_lt_zero k)⟩)
theorem p_begin (h : XIv P tx n g kp lk tl rw N v W S R r dy σ) : ∃ σ', (XI P tx n (0, g.2) kp lk tl rw N r dy σ' ∧ CF r σ r σ') ∧ aa_SX mX11_begin 100 [.ref 0] σ (some (.int (nI g.1))) σ' := by
  obtain ⟨h1, f1⟩ := h.start
  refine ⟨_, ⟨h1.to, f1⟩, ?_⟩
  refine aa_E_of (by decide) 1 [some (.ref 0), none] rfl rfl ?_
  refine aa_go (aa_aload0 iX11_begin_0) (aa_go (aa_getR iX11_begin_1 fl_X11_28 (sh_0 h.1) rfl) (aa_go (aa_cVi iX11_begin_4 (c_X2_made h.1 h.G) (by decide) lc_X2_made lk_X11_204 (sh_20 h.1) rfl rfl (Nat.le_of_ble_eq_true rfl)) (aa_go (aa_istore1 iX11_begin_7 rfl (by decide)) (aa_go (aa_aload0 iX11_begin_8) (aa_go (aa_getR iX11_begin_9 fl_X11_28 (sh_0 h.1) rfl) (aa_go (aa_cVv iX11_begin_12 (c_X2_start h.1 h.X) (by decide) lc_X2_start lk_X11_112 (sh_20 h.1) rfl rfl (Nat.le_of_ble_eq_true rfl)) (aa_go (aa_iload1 iX11_begin_15) ?_)))))))
  refine aa_iret iX11_begin_16 rfl ?_
  exact ⟨rfl, rfl⟩
theorem p_taken (h : XIv P tx n g kp lk tl rw N v W S R r dy σ) : ∃ σ', (XI P tx n g kp lk 2 (rw2 (pl_tk P g.2.1 0 g.1) (pl_tk P g.2.1 1 g.1)) N r dy σ' ∧ CF r σ r σ') ∧ aa_SX mX11_taken 100 [.ref 0] σ (some (.int (nI (pl_tk P g.2.1 0 g.1 + pl_tk P g.2.1 1 g.1)))) σ' := by
  have p16 := h.p16
  have hq : ∀ k, g.2.1 k < 65536 := fun k => by have := h.GV.2.1 k; omega
  have m18 := h.G.2.1
  have l0 := pl_tk_le h.ok g.2.1 0 g.1
  have l1 := pl_tk_le h.ok g.2.1 1 g.1
  obtain ⟨h2, f2⟩ := h.tell2 (pl_tk P g.2.1 0 g.1) (pl_tk P g.2.1 1 g.1)
  refine ⟨_, ⟨h2.to, f2⟩, ?_⟩
  refine aa_E_of (by decide) 2 [some (.ref 0), none, none] rfl rfl ?_
  refine aa_go (aa_aload0 iX11_taken_0) (aa_go (aa_getR iX11_taken_1 fl_X11_28 (sh_0 h.1) rfl) (aa_go (aa_iconst iX11_taken_4 ki_0) (aa_go (aa_cVi iX11_taken_5 (c_X2_takenBy h.1 h.X h.G hq (by omega)) (by decide) lc_X2_takenBy lk_X11_217 (sh_20 h.1) rfl rfl (Nat.le_of_ble_eq_true rfl)) (aa_go (aa_istore1 iX11_taken_8 rfl (by decide)) (aa_go (aa_aload0 iX11_taken_9) (aa_go (aa_getR iX11_taken_10 fl_X11_28 (sh_0 h.1) rfl) (aa_go (aa_iconst iX11_taken_13 ki_1) ?_)))))))
  refine aa_go (aa_cVi iX11_taken_14 (c_X2_takenBy h.1 h.X h.G hq (by omega)) (by decide) lc_X2_takenBy lk_X11_217 (sh_20 h.1) rfl rfl (Nat.le_of_ble_eq_true rfl)) (aa_go (aa_istore2 iX11_taken_17 rfl (by decide)) (aa_go (aa_aload0 iX11_taken_18) (aa_go (aa_iload1 iX11_taken_19) (aa_go (aa_i2lN iX11_taken_20 (by omega)) (aa_go (aa_iload2 iX11_taken_21) (aa_go (aa_i2lN iX11_taken_22 (by omega)) (aa_go (aa_cVv iX11_taken_23 (c_tell2 h.1 _ _) (by decide) lc_X11_tell_ lk_X11_207 (sh_0 h.1) rfl rfl (Nat.le_of_ble_eq_true rfl)) ?_)))))))
  refine aa_go (aa_iload1 iX11_taken_26) (aa_go (aa_iload2 iX11_taken_27) (aa_go (aa_iaddN iX11_taken_28 ) ?_))
  refine aa_iret iX11_taken_29 rfl ?_
  exact ⟨rfl, rfl⟩
theorem lks_lt (hl : lk < 8) {a b : Nat} (ha : a ≤ 2) : lks lk a b < 8 := by
  unfold lks
  split
  · exact bb_bd hl
  · exact bb_or (k := 3) hl (bb_p2 (by omega))
theorem p_likes (h : XIv P tx n g kp lk tl rw N v W S R r dy σ) {a b : Nat} (ha : a ≤ 2) (hb : b ≤ 2) (hab : a ≠ b) : ∃ σ', (XI P tx n g kp (lks lk a b) tl rw N r dy σ' ∧ CF r σ r σ') ∧ aa_SX mX11_likes 100 [.ref 0, .int (nI a), .int (nI b)] σ (some (.int (nI 1))) σ' := by
  have hL := h.T.2.2.2.1
  have hT : XT P tx n g kp (lks lk a b) tl rw (aa_sI σ 46 2 (nI (lks lk a b))) := by
    obtain ⟨t1, t2, t3, t4, t5⟩ := h.T
    refine ⟨⟨by rw [sI_ne (by decide)]; exact t1.1, t1.2.1, fun p hp => by rw [sI_ne (by decide)]; exact t1.2.2 p hp⟩, ⟨?_, t2.2⟩, fun j hj => ?_, ⟨sI_eq, lks_lt hL.2 ha⟩, ⟨by rw [sI_ne (by decide)]; exact t5.1, t5.2⟩⟩
    · unfold XGg XG; rw [sI_ne (by decide), sI_ne (by decide)]; exact t2.1
    · obtain ⟨c1, c2⟩ := t3 j hj
      refine ⟨by rw [sI_ne (by decide)]; exact c1, fun g1 hg => ?_⟩
      obtain ⟨f1, f2⟩ := c2 g1 hg
      refine ⟨?_, f2⟩
      unfold XGg XG; rw [sI_ne (show 57 + 2 * j ≠ 46 by omega), sI_ne (show 57 + 2 * j + 1 ≠ 46 by omega)]; exact f1
  obtain ⟨h1, f1⟩ := h.set (FrA.rf.s (by decide) _ _) hT
  refine ⟨_, ⟨h1.to, f1⟩, ?_⟩
  refine aa_E_of (by decide) 0 [some (.ref 0), some (.int (nI a)), some (.int (nI b))] rfl rfl ?_
  refine aa_go (aa_iload1 iX11_likes_0) ?_
  refine aa_go (aa_if_ltN iX11_likes_1 (by omega)) ?_
  refine aa_go (aa_iload1 iX11_likes_4) (aa_go (aa_iconst iX11_likes_5 ki_2) ?_)
  refine aa_ic_gtN iX11_likes_6 (by omega) (by omega) (fun g1 => ?_) (fun g1 => ?_)
  · skip
    omega
  · skip
    refine aa_go (aa_iload2 iX11_likes_9) ?_
    refine aa_go (aa_if_ltN iX11_likes_10 (by omega)) ?_
    refine aa_go (aa_iload2 iX11_likes_13) (aa_go (aa_iconst iX11_likes_14 ki_2) ?_)
    refine aa_ic_gtN iX11_likes_15 (by omega) (by omega) (fun g2 => ?_) (fun g2 => ?_)
    · skip
      omega
    · skip
      refine aa_go (aa_iload1 iX11_likes_18) (aa_go (aa_iload2 iX11_likes_19) ?_)
      refine aa_ic_neN iX11_likes_20 (by omega) (by omega) (fun g3 => ?_) (fun g3 => ?_)
      · skip
        refine aa_go (aa_aload0 iX11_likes_25) (aa_go (aa_getR iX11_likes_26 fl_X11_78 (sh_0 h.1) rfl) (aa_go (aa_iload1 iX11_likes_29) (aa_go (aa_iload2 iX11_likes_30) (aa_go (aa_cVv iX11_likes_31 (c_X5_like h.1 hL.1 hL.2 ha hb) (by decide) lc_X5_like lk_X11_331 (sh_46 h.1) rfl rfl (Nat.le_of_ble_eq_true rfl)) (aa_go (aa_iconst iX11_likes_34 ki_1) ?_)))))
        refine aa_zretT iX11_likes_35 rfl ?_
        exact ⟨rfl, rfl⟩
      · skip
        exact absurd g3 hab
theorem p_likesB (hW : aa_W r dy σ) {a b : Int32} (h : (a < 0 ∨ nI 2 < a) ∨ (b < 0 ∨ nI 2 < b) ∨ a = b) : aa_SX mX11_likes 100 [.ref 0, .int a, .int b] σ (some (.int (nI 0))) σ := by
  refine aa_E_of (by decide) 0 [some (.ref 0), some (.int (a)), some (.int (b))] rfl rfl ?_
  refine aa_go (aa_iload1 iX11_likes_0) ?_
  refine aa_if_lt iX11_likes_1 (fun g1 => ?_) (fun g1 => ?_)
  · skip
    refine aa_go (aa_iconst iX11_likes_23 ki_0) ?_
    refine aa_zretF iX11_likes_24 rfl ?_
    exact ⟨rfl, rfl⟩
  · skip
    refine aa_go (aa_iload1 iX11_likes_4) (aa_go (aa_iconst iX11_likes_5 ki_2) ?_)
    refine aa_ic_gt iX11_likes_6 (fun g2 => ?_) (fun g2 => ?_)
    · skip
      refine aa_go (aa_iconst iX11_likes_23 ki_0) ?_
      refine aa_zretF iX11_likes_24 rfl ?_
      exact ⟨rfl, rfl⟩
    · skip
      refine aa_go (aa_iload2 iX11_likes_9) ?_
      refine aa_if_lt iX11_likes_10 (fun g3 => ?_) (fun g3 => ?_)
      · skip
        refine aa_go (aa_iconst iX11_likes_23 ki_0) ?_
        refine aa_zretF iX11_likes_24 rfl ?_
        exact ⟨rfl, rfl⟩
      · skip
        refine aa_go (aa_iload2 iX11_likes_13) (aa_go (aa_iconst iX11_likes_14 ki_2) ?_)
        refine aa_ic_gt iX11_likes_15 (fun g4 => ?_) (fun g4 => ?_)
        · skip
          refine aa_go (aa_iconst iX11_likes_23 ki_0) ?_
          refine aa_zretF iX11_likes_24 rfl ?_
          exact ⟨rfl, rfl⟩
        · skip
          refine aa_go (aa_iload1 iX11_likes_18) (aa_go (aa_iload2 iX11_likes_19) ?_)
          refine aa_ic_ne iX11_likes_20 (fun g5 => ?_) (fun g5 => ?_)
          · skip
            rcases h with (h | h) | (h | h) | h
            · exact absurd h g1
            · exact absurd h g2
            · exact absurd h g3
            · exact absurd h g4
            · exact absurd h g5
          · skip
            refine aa_go (aa_iconst iX11_likes_23 ki_0) ?_
            refine aa_zretF iX11_likes_24 rfl ?_
            exact ⟨rfl, rfl⟩
end
