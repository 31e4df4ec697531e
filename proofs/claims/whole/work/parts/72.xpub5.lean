/-! PUBLIC METHODS, fifth part: kept, counts, parrots, limits, changes -/
section
variable {v W S R : Nat} {r : Nat → Nat} {dy : List aa_Shp} {σ σ' : aa_St} {P : pl_T} {tx tx' : Nat → Nat} {n n' : Nat} {g g' : gm_T} {kp kp' : Nat → Option gm_T} {lk lk' tl tl' : Nat} {rw rw' : Nat → Int} {N : Nat}
def kup (kp : Nat → Option gm_T) (i : Nat) (g : gm_T) : Nat → Option gm_T := fun j => if j = i then some g else kp j
theorem XT.keep {i : Nat} (hi : i < 3) (h : XT P tx n g kp lk tl rw σ) (q : ∀ x, x ≠ 23 → x ≠ 57 + 2 * i → x ≠ 57 + 2 * i + 1 → σ'.1 x = σ.1 x) (hl : σ'.2.1 56 = σ.2.1 56) (h23 : ∀ j, σ'.1 23 j = if j = i then nI 1 else σ.1 23 j) (hG : XGg (57 + 2 * i) g σ'.1) : XT P tx n g (kup kp i g) lk tl rw σ' := by
  obtain ⟨t1, t2, t3, t4, t5⟩ := h
  refine ⟨⟨by rw [q 1 (by omega) (by omega) (by omega)]; exact t1.1, t1.2.1, fun p hp => by rw [q 2 (by omega) (by omega) (by omega)]; exact t1.2.2 p hp⟩, ⟨?_, t2.2⟩, fun j hj => ?_, ⟨by rw [q 46 (by omega) (by omega) (by omega)]; exact t4.1, t4.2⟩, ⟨by rw [q 0 (by omega) (by omega) (by omega)]; exact t5.1, t5.2.1, fun k hk => by rw [hl]; exact t5.2.2 k hk⟩⟩
  · unfold XGg XG; rw [q 20 (by omega) (by omega) (by omega), q 21 (by omega) (by omega) (by omega)]; exact t2.1
  · rw [h23 j]
    unfold kup
    by_cases c : j = i
    · subst c
      rw [if_pos rfl, if_pos rfl]
      exact ⟨rfl, fun g1 hg => by cases hg; exact ⟨hG, t2.2⟩⟩
    · rw [if_neg c, if_neg c]
      obtain ⟨c1, c2⟩ := t3 j hj
      refine ⟨c1, fun g1 hg => ?_⟩
      obtain ⟨f1, f2⟩ := c2 g1 hg
      refine ⟨?_, f2⟩
      unfold XGg XG; rw [q (57 + 2 * j) (by omega) (by omega) (by omega), q (57 + 2 * j + 1) (by omega) (by omega) (by omega)]; exact f1
theorem p_keep0 (h : XIv P tx n g kp lk tl rw N v W S R r dy σ) : ∃ σ', (XI P tx n g (kup kp 0 g) lk tl rw N r dy σ' ∧ CF r σ r σ') ∧ aa_SX mX11_keep 100 [.ref 0, .int (nI 0)] σ (some (.int (nI 1))) σ' := by
  obtain ⟨b1, b2, b3, b4, b5, b6⟩ := h.G
  obtain ⟨σ1, ⟨e1, e2, e3, e4, e5, e6⟩, hS1⟩ := c_copy_57_20 h.1
  have hW1 : aa_W r dy σ1 := h.1.of2 (by rw [e1])
  have hG1 : XGg 57 g (aa_sI σ1 23 0 (nI 1)).1 := ⟨by rw [sI_ne (by decide), e4]; exact b1, b2, by rw [sI_ne (by decide), e5]; exact b3, by rw [sI_ne (by decide), e6]; exact b4, b5, fun k hk => by rw [sI_ne (by decide), e3 k (by omega)]; exact b6 k hk⟩
  obtain ⟨h1, f1⟩ := h.set (σ' := aa_sI σ1 23 0 (nI 1)) ⟨e1, fun x hx => by
    simp only [List.mem_cons, List.not_mem_nil, or_false, not_or] at hx
    rw [sI_ne (by omega), e2 x (by omega) (by omega)]⟩ (h.T.keep (i := 0) (by decide) (fun x h1 h2 h3 => by rw [sI_ne h1, e2 x h2 h3]) (by rw [show (aa_sI σ1 23 0 (nI 1)).2 = σ1.2 from rfl, e1]) (fun j => by rw [sI_at, e2 23 (by decide) (by decide)]) hG1)
  refine ⟨_, ⟨h1.to, f1⟩, ?_⟩
  refine aa_E_of (by decide) 0 [some (.ref 0), some (.int (nI 0))] rfl rfl ?_
  refine aa_go (aa_iload1 iX11_keep_0) ?_
  refine aa_go (aa_if_ltN iX11_keep_1 (by omega)) ?_
  refine aa_go (aa_iload1 iX11_keep_4) (aa_go (aa_iconst iX11_keep_5 ki_3) ?_)
  refine aa_ic_ltN iX11_keep_6 (by omega) (by omega) (fun g1 => ?_) (fun g1 => ?_)
  · skip
    refine aa_go (aa_aload0 iX11_keep_11) (aa_go (aa_getR iX11_keep_12 fl_X11_32 (sh_0 h.1) rfl) (aa_go (aa_iload1 iX11_keep_15) (aa_go (aa_aald iX11_keep_16 (sh_22 h.1) (vp_in_nI (by decide) (by decide)) rfl) (aa_go (aa_aload0 iX11_keep_17) (aa_go (aa_getR iX11_keep_18 fl_X11_28 (sh_0 h.1) rfl) (aa_go (aa_cVv iX11_keep_21 (hS1) (by decide) lc_X2_copy lk_X11_369 (sh_57 h.1) rfl rfl (Nat.le_of_ble_eq_true rfl)) ?_))))))
    refine aa_go (aa_aload0 iX11_keep_24) (aa_go (aa_getR iX11_keep_25 fl_X11_36 (sh_0 hW1) rfl) (aa_go (aa_iload1 iX11_keep_28) (aa_go (aa_iconst iX11_keep_29 ki_1) (aa_go (aa_zasN iX11_keep_30 (sh_23 hW1) (by omega) (by omega) (aa_nz1)) (aa_go (aa_iconst iX11_keep_31 ki_1) ?_)))))
    refine aa_zretT iX11_keep_32 rfl ?_
    exact ⟨rfl, rfl⟩
  · skip
    omega
theorem p_again0 (h : XIv P tx n g kp lk tl rw N v W S R r dy σ) (hk : kp 0 = some g') : ∃ σ', (XI P tx n g' kp lk tl rw N r dy σ' ∧ CF r σ r σ') ∧ aa_SX mX11_again 100 [.ref 0, .int (nI 0)] σ (some (.int (nI 1))) σ' := by
  obtain ⟨k1, k2⟩ := h.T.2.2.1 0 (by decide)
  obtain ⟨⟨b1, b2, b3, b4, b5, b6⟩, gv⟩ := k2 g' hk
  rw [hk] at k1
  obtain ⟨σ1, ⟨e1, e2, e3, e4, e5, e6⟩, hS1⟩ := c_copy_20_57 h.1
  have hG1 : XGg 20 g' σ1.1 := ⟨by rw [e4]; exact b1, b2, by rw [e5]; exact b3, by rw [e6]; exact b4, b5, fun k hk => by rw [e3 k (by omega)]; exact b6 k hk⟩
  obtain ⟨h1, f1⟩ := h.set (σ' := σ1) (g' := g') ⟨e1, fun x hx => by
    simp only [List.mem_cons, List.not_mem_nil, or_false, not_or] at hx
    rw [e2 x (by omega) (by omega)]⟩ (h.T.game (fun x h1 h2 _ => e2 x h1 h2) (by rw [e1]) hG1 gv)
  refine ⟨_, ⟨h1.to, f1⟩, ?_⟩
  refine aa_E_of (by decide) 0 [some (.ref 0), some (.int (nI 0))] rfl rfl ?_
  refine aa_go (aa_iload1 iX11_again_0) ?_
  refine aa_go (aa_if_ltN iX11_again_1 (by omega)) ?_
  refine aa_go (aa_iload1 iX11_again_4) (aa_go (aa_iconst iX11_again_5 ki_3) ?_)
  refine aa_ic_geN iX11_again_6 (by omega) (by omega) (fun g1 => ?_) (fun g1 => ?_)
  · skip
    omega
  · skip
    refine aa_go (aa_aload0 iX11_again_9) (aa_go (aa_getR iX11_again_10 fl_X11_36 (sh_0 h.1) rfl) (aa_go (aa_iload1 iX11_again_13) (aa_go (aa_zalE iX11_again_14 (sh_23 h.1) (by omega) (by omega) (k1)) ?_)))
    refine aa_if_neB iX11_again_15 (fun g2 => ?_) (fun g2 => ?_)
    · skip
      refine aa_go (aa_aload0 iX11_again_20) (aa_go (aa_getR iX11_again_21 fl_X11_28 (sh_0 h.1) rfl) (aa_go (aa_aload0 iX11_again_24) (aa_go (aa_getR iX11_again_25 fl_X11_32 (sh_0 h.1) rfl) (aa_go (aa_iload1 iX11_again_28) (aa_go (aa_aald iX11_again_29 (sh_22 h.1) (vp_in_nI (by decide) (by decide)) rfl) (aa_go (aa_cVv iX11_again_30 (hS1) (by decide) lc_X2_copy lk_X11_369 (sh_20 h.1) rfl rfl (Nat.le_of_ble_eq_true rfl)) (aa_go (aa_iconst iX11_again_33 ki_1) ?_)))))))
      refine aa_zretT iX11_again_34 rfl ?_
      exact ⟨rfl, rfl⟩
    · skip
      simp at g2
theorem p_againN0 (h : XIv P tx n g kp lk tl rw N v W S R r dy σ) (hk : kp 0 = none) : aa_SX mX11_again 100 [.ref 0, .int (nI 0)] σ (some (.int (nI 0))) σ := by
  obtain ⟨k1, k2⟩ := h.T.2.2.1 0 (by decide)
  rw [hk] at k1
  refine aa_E_of (by decide) 0 [some (.ref 0), some (.int (nI 0))] rfl rfl ?_
  refine aa_go (aa_iload1 iX11_again_0) ?_
  refine aa_go (aa_if_ltN iX11_again_1 (by omega)) ?_
  refine aa_go (aa_iload1 iX11_again_4) (aa_go (aa_iconst iX11_again_5 ki_3) ?_)
  refine aa_ic_geN iX11_again_6 (by omega) (by omega) (fun g1 => ?_) (fun g1 => ?_)
  · skip
    omega
  · skip
    refine aa_go (aa_aload0 iX11_again_9) (aa_go (aa_getR iX11_again_10 fl_X11_36 (sh_0 h.1) rfl) (aa_go (aa_iload1 iX11_again_13) (aa_go (aa_zalE iX11_again_14 (sh_23 h.1) (by omega) (by omega) (k1)) ?_)))
    refine aa_if_neB iX11_again_15 (fun g2 => ?_) (fun g2 => ?_)
    · skip
      exact absurd g2 (by decide)
    · skip
      refine aa_go (aa_iconst iX11_again_18 ki_0) ?_
      refine aa_zretF iX11_again_19 rfl ?_
      exact ⟨rfl, rfl⟩
theorem p_keep1 (h : XIv P tx n g kp lk tl rw N v W S R r dy σ) : ∃ σ', (XI P tx n g (kup kp 1 g) lk tl rw N r dy σ' ∧ CF r σ r σ') ∧ aa_SX mX11_keep 100 [.ref 0, .int (nI 1)] σ (some (.int (nI 1))) σ' := by
  obtain ⟨b1, b2, b3, b4, b5, b6⟩ := h.G
  obtain ⟨σ1, ⟨e1, e2, e3, e4, e5, e6⟩, hS1⟩ := c_copy_59_20 h.1
  have hW1 : aa_W r dy σ1 := h.1.of2 (by rw [e1])
  have hG1 : XGg 59 g (aa_sI σ1 23 1 (nI 1)).1 := ⟨by rw [sI_ne (by decide), e4]; exact b1, b2, by rw [sI_ne (by decide), e5]; exact b3, by rw [sI_ne (by decide), e6]; exact b4, b5, fun k hk => by rw [sI_ne (by decide), e3 k (by omega)]; exact b6 k hk⟩
  obtain ⟨h1, f1⟩ := h.set (σ' := aa_sI σ1 23 1 (nI 1)) ⟨e1, fun x hx => by
    simp only [List.mem_cons, List.not_mem_nil, or_false, not_or] at hx
    rw [sI_ne (by omega), e2 x (by omega) (by omega)]⟩ (h.T.keep (i := 1) (by decide) (fun x h1 h2 h3 => by rw [sI_ne h1, e2 x h2 h3]) (by rw [show (aa_sI σ1 23 1 (nI 1)).2 = σ1.2 from rfl, e1]) (fun j => by rw [sI_at, e2 23 (by decide) (by decide)]) hG1)
  refine ⟨_, ⟨h1.to, f1⟩, ?_⟩
  refine aa_E_of (by decide) 0 [some (.ref 0), some (.int (nI 1))] rfl rfl ?_
  refine aa_go (aa_iload1 iX11_keep_0) ?_
  refine aa_go (aa_if_ltN iX11_keep_1 (by omega)) ?_
  refine aa_go (aa_iload1 iX11_keep_4) (aa_go (aa_iconst iX11_keep_5 ki_3) ?_)
  refine aa_ic_ltN iX11_keep_6 (by omega) (by omega) (fun g1 => ?_) (fun g1 => ?_)
  · skip
    refine aa_go (aa_aload0 iX11_keep_11) (aa_go (aa_getR iX11_keep_12 fl_X11_32 (sh_0 h.1) rfl) (aa_go (aa_iload1 iX11_keep_15) (aa_go (aa_aald iX11_keep_16 (sh_22 h.1) (vp_in_nI (by decide) (by decide)) rfl) (aa_go (aa_aload0 iX11_keep_17) (aa_go (aa_getR iX11_keep_18 fl_X11_28 (sh_0 h.1) rfl) (aa_go (aa_cVv iX11_keep_21 (hS1) (by decide) lc_X2_copy lk_X11_369 (sh_59 h.1) rfl rfl (Nat.le_of_ble_eq_true rfl)) ?_))))))
    refine aa_go (aa_aload0 iX11_keep_24) (aa_go (aa_getR iX11_keep_25 fl_X11_36 (sh_0 hW1) rfl) (aa_go (aa_iload1 iX11_keep_28) (aa_go (aa_iconst iX11_keep_29 ki_1) (aa_go (aa_zasN iX11_keep_30 (sh_23 hW1) (by omega) (by omega) (aa_nz1)) (aa_go (aa_iconst iX11_keep_31 ki_1) ?_)))))
    refine aa_zretT iX11_keep_32 rfl ?_
    exact ⟨rfl, rfl⟩
  · skip
    omega
theorem p_again1 (h : XIv P tx n g kp lk tl rw N v W S R r dy σ) (hk : kp 1 = some g') : ∃ σ', (XI P tx n g' kp lk tl rw N r dy σ' ∧ CF r σ r σ') ∧ aa_SX mX11_again 100 [.ref 0, .int (nI 1)] σ (some (.int (nI 1))) σ' := by
  obtain ⟨k1, k2⟩ := h.T.2.2.1 1 (by decide)
  obtain ⟨⟨b1, b2, b3, b4, b5, b6⟩, gv⟩ := k2 g' hk
  rw [hk] at k1
  obtain ⟨σ1, ⟨e1, e2, e3, e4, e5, e6⟩, hS1⟩ := c_copy_20_59 h.1
  have hG1 : XGg 20 g' σ1.1 := ⟨by rw [e4]; exact b1, b2, by rw [e5]; exact b3, by rw [e6]; exact b4, b5, fun k hk => by rw [e3 k (by omega)]; exact b6 k hk⟩
  obtain ⟨h1, f1⟩ := h.set (σ' := σ1) (g' := g') ⟨e1, fun x hx => by
    simp only [List.mem_cons, List.not_mem_nil, or_false, not_or] at hx
    rw [e2 x (by omega) (by omega)]⟩ (h.T.game (fun x h1 h2 _ => e2 x h1 h2) (by rw [e1]) hG1 gv)
  refine ⟨_, ⟨h1.to, f1⟩, ?_⟩
  refine aa_E_of (by decide) 0 [some (.ref 0), some (.int (nI 1))] rfl rfl ?_
  refine aa_go (aa_iload1 iX11_again_0) ?_
  refine aa_go (aa_if_ltN iX11_again_1 (by omega)) ?_
  refine aa_go (aa_iload1 iX11_again_4) (aa_go (aa_iconst iX11_again_5 ki_3) ?_)
  refine aa_ic_geN iX11_again_6 (by omega) (by omega) (fun g1 => ?_) (fun g1 => ?_)
  · skip
    omega
  · skip
    refine aa_go (aa_aload0 iX11_again_9) (aa_go (aa_getR iX11_again_10 fl_X11_36 (sh_0 h.1) rfl) (aa_go (aa_iload1 iX11_again_13) (aa_go (aa_zalE iX11_again_14 (sh_23 h.1) (by omega) (by omega) (k1)) ?_)))
    refine aa_if_neB iX11_again_15 (fun g2 => ?_) (fun g2 => ?_)
    · skip
      refine aa_go (aa_aload0 iX11_again_20) (aa_go (aa_getR iX11_again_21 fl_X11_28 (sh_0 h.1) rfl) (aa_go (aa_aload0 iX11_again_24) (aa_go (aa_getR iX11_again_25 fl_X11_32 (sh_0 h.1) rfl) (aa_go (aa_iload1 iX11_again_28) (aa_go (aa_aald iX11_again_29 (sh_22 h.1) (vp_in_nI (by decide) (by decide)) rfl) (aa_go (aa_cVv iX11_again_30 (hS1) (by decide) lc_X2_copy lk_X11_369 (sh_20 h.1) rfl rfl (Nat.le_of_ble_eq_true rfl)) (aa_go (aa_iconst iX11_again_33 ki_1) ?_)))))))
      refine aa_zretT iX11_again_34 rfl ?_
      exact ⟨rfl, rfl⟩
    · skip
      simp at g2
theorem p_againN1 (h : XIv P tx n g kp lk tl rw N v W S R r dy σ) (hk : kp 1 = none) : aa_SX mX11_again 100 [.ref 0, .int (nI 1)] σ (some (.int (nI 0))) σ := by
  obtain ⟨k1, k2⟩ := h.T.2.2.1 1 (by decide)
  rw [hk] at k1
  refine aa_E_of (by decide) 0 [some (.ref 0), some (.int (nI 1))] rfl rfl ?_
  refine aa_go (aa_iload1 iX11_again_0) ?_
  refine aa_go (aa_if_ltN iX11_again_1 (by omega)) ?_
  refine aa_go (aa_iload1 iX11_again_4) (aa_go (aa_iconst iX11_again_5 ki_3) ?_)
  refine aa_ic_geN iX11_again_6 (by omega) (by omega) (fun g1 => ?_) (fun g1 => ?_)
  · skip
    omega
  · skip
    refine aa_go (aa_aload0 iX11_again_9) (aa_go (aa_getR iX11_again_10 fl_X11_36 (sh_0 h.1) rfl) (aa_go (aa_iload1 iX11_again_13) (aa_go (aa_zalE iX11_again_14 (sh_23 h.1) (by omega) (by omega) (k1)) ?_)))
    refine aa_if_neB iX11_again_15 (fun g2 => ?_) (fun g2 => ?_)
    · skip
      exact absurd g2 (by decide)
    · skip
      refine aa_go (aa_iconst iX11_again_18 ki_0) ?_
      refine aa_zretF iX11_again_19 rfl ?_
      exact ⟨rfl, rfl⟩
theorem p_keep2 (h : XIv P tx n g kp lk tl rw N v W S R r dy σ) : ∃ σ', (XI P tx n g (kup kp 2 g) lk tl rw N r dy σ' ∧ CF r σ r σ') ∧ aa_SX mX11_keep 100 [.ref 0, .int (nI 2)] σ (some (.int (nI 1))) σ' := by
  obtain ⟨b1, b2, b3, b4, b5, b6⟩ := h.G
  obtain ⟨σ1, ⟨e1, e2, e3, e4, e5, e6⟩, hS1⟩ := c_copy_61_20 h.1
  have hW1 : aa_W r dy σ1 := h.1.of2 (by rw [e1])
  have hG1 : XGg 61 g (aa_sI σ1 23 2 (nI 1)).1 := ⟨by rw [sI_ne (by decide), e4]; exact b1, b2, by rw [sI_ne (by decide), e5]; exact b3, by rw [sI_ne (by decide), e6]; exact b4, b5, fun k hk => by rw [sI_ne (by decide), e3 k (by omega)]; exact b6 k hk⟩
  obtain ⟨h1, f1⟩ := h.set (σ' := aa_sI σ1 23 2 (nI 1)) ⟨e1, fun x hx => by
    simp only [List.mem_cons, List.not_mem_nil, or_false, not_or] at hx
    rw [sI_ne (by omega), e2 x (by omega) (by omega)]⟩ (h.T.keep (i := 2) (by decide) (fun x h1 h2 h3 => by rw [sI_ne h1, e2 x h2 h3]) (by rw [show (aa_sI σ1 23 2 (nI 1)).2 = σ1.2 from rfl, e1]) (fun j => by rw [sI_at, e2 23 (by decide) (by decide)]) hG1)
  refine ⟨_, ⟨h1.to, f1⟩, ?_⟩
  refine aa_E_of (by decide) 0 [some (.ref 0), some (.int (nI 2))] rfl rfl ?_
  refine aa_go (aa_iload1 iX11_keep_0) ?_
  refine aa_go (aa_if_ltN iX11_keep_1 (by omega)) ?_
  refine aa_go (aa_iload1 iX11_keep_4) (aa_go (aa_iconst iX11_keep_5 ki_3) ?_)
  refine aa_ic_ltN iX11_keep_6 (by omega) (by omega) (fun g1 => ?_) (fun g1 => ?_)
  · skip
    refine aa_go (aa_aload0 iX11_keep_11) (aa_go (aa_getR iX11_keep_12 fl_X11_32 (sh_0 h.1) rfl) (aa_go (aa_iload1 iX11_keep_15) (aa_go (aa_aald iX11_keep_16 (sh_22 h.1) (vp_in_nI (by decide) (by decide)) rfl) (aa_go (aa_aload0 iX11_keep_17) (aa_go (aa_getR iX11_keep_18 fl_X11_28 (sh_0 h.1) rfl) (aa_go (aa_cVv iX11_keep_21 (hS1) (by decide) lc_X2_copy lk_X11_369 (sh_61 h.1) rfl rfl (Nat.le_of_ble_eq_true rfl)) ?_))))))
    refine aa_go (aa_aload0 iX11_keep_24) (aa_go (aa_getR iX11_keep_25 fl_X11_36 (sh_0 hW1) rfl) (aa_go (aa_iload1 iX11_keep_28) (aa_go (aa_iconst iX11_keep_29 ki_1) (aa_go (aa_zasN iX11_keep_30 (sh_23 hW1) (by omega) (by omega) (aa_nz1)) (aa_go (aa_iconst iX11_keep_31 ki_1) ?_)))))
    refine aa_zretT iX11_keep_32 rfl ?_
    exact ⟨rfl, rfl⟩
  · skip
    omega
theorem p_again2 (h : XIv P tx n g kp lk tl rw N v W S R r dy σ) (hk : kp 2 = some g') : ∃ σ', (XI P tx n g' kp lk tl rw N r dy σ' ∧ CF r σ r σ') ∧ aa_SX mX11_again 100 [.ref 0, .int (nI 2)] σ (some (.int (nI 1))) σ' := by
  obtain ⟨k1, k2⟩ := h.T.2.2.1 2 (by decide)
  obtain ⟨⟨b1, b2, b3, b4, b5, b6⟩, gv⟩ := k2 g' hk
  rw [hk] at k1
  obtain ⟨σ1, ⟨e1, e2, e3, e4, e5, e6⟩, hS1⟩ := c_copy_20_61 h.1
  have hG1 : XGg 20 g' σ1.1 := ⟨by rw [e4]; exact b1, b2, by rw [e5]; exact b3, by rw [e6]; exact b4, b5, fun k hk => by rw [e3 k (by omega)]; exact b6 k hk⟩
  obtain ⟨h1, f1⟩ := h.set (σ' := σ1) (g' := g') ⟨e1, fun x hx => by
    simp only [List.mem_cons, List.not_mem_nil, or_false, not_or] at hx
    rw [e2 x (by omega) (by omega)]⟩ (h.T.game (fun x h1 h2 _ => e2 x h1 h2) (by rw [e1]) hG1 gv)
  refine ⟨_, ⟨h1.to, f1⟩, ?_⟩
  refine aa_E_of (by decide) 0 [some (.ref 0), some (.int (nI 2))] rfl rfl ?_
  refine aa_go (aa_iload1 iX11_again_0) ?_
  refine aa_go (aa_if_ltN iX11_again_1 (by omega)) ?_
  refine aa_go (aa_iload1 iX11_again_4) (aa_go (aa_iconst iX11_again_5 ki_3) ?_)
  refine aa_ic_geN iX11_again_6 (by omega) (by omega) (fun g1 => ?_) (fun g1 => ?_)
  · skip
    omega
  · skip
    refine aa_go (aa_aload0 iX11_again_9) (aa_go (aa_getR iX11_again_10 fl_X11_36 (sh_0 h.1) rfl) (aa_go (aa_iload1 iX11_again_13) (aa_go (aa_zalE iX11_again_14 (sh_23 h.1) (by omega) (by omega) (k1)) ?_)))
    refine aa_if_neB iX11_again_15 (fun g2 => ?_) (fun g2 => ?_)
    · skip
      refine aa_go (aa_aload0 iX11_again_20) (aa_go (aa_getR iX11_again_21 fl_X11_28 (sh_0 h.1) rfl) (aa_go (aa_aload0 iX11_again_24) (aa_go (aa_getR iX11_again_25 fl_X11_32 (sh_0 h.1) rfl) (aa_go (aa_iload1 iX11_again_28) (aa_go (aa_aald iX11_again_29 (sh_22 h.1) (vp_in_nI (by decide) (by decide)) rfl) (aa_go (aa_cVv iX11_again_30 (hS1) (by decide) lc_X2_copy lk_X11_369 (sh_20 h.1) rfl rfl (Nat.le_of_ble_eq_true rfl)) (aa_go (aa_iconst iX11_again_33 ki_1) ?_)))))))
      refine aa_zretT iX11_again_34 rfl ?_
      exact ⟨rfl, rfl⟩
    · skip
      simp at g2
theorem p_againN2 (h : XIv P tx n g kp lk tl rw N v W S R r dy σ) (hk : kp 2 = none) : aa_SX mX11_again 100 [.ref 0, .int (nI 2)] σ (some (.int (nI 0))) σ := by
  obtain ⟨k1, k2⟩ := h.T.2.2.1 2 (by decide)
  rw [hk] at k1
  refine aa_E_of (by decide) 0 [some (.ref 0), some (.int (nI 2))] rfl rfl ?_
  refine aa_go (aa_iload1 iX11_again_0) ?_
  refine aa_go (aa_if_ltN iX11_again_1 (by omega)) ?_
  refine aa_go (aa_iload1 iX11_again_4) (aa_go (aa_iconst iX11_again_5 ki_3) ?_)
  refine aa_ic_geN iX11_again_6 (by omega) (by omega) (fun g1 => ?_) (fun g1 => ?_)
  · skip
    omega
  · skip
    refine aa_go (aa_aload0 iX11_again_9) (aa_go (aa_getR iX11_again_10 fl_X11_36 (sh_0 h.1) rfl) (aa_go (aa_iload1 iX11_again_13) (aa_go (aa_zalE iX11_again_14 (sh_23 h.1) (by omega) (by omega) (k1)) ?_)))
    refine aa_if_neB iX11_again_15 (fun g2 => ?_) (fun g2 => ?_)
    · skip
      exact absurd g2 (by decide)
    · skip
      refine aa_go (aa_iconst iX11_again_18 ki_0) ?_
      refine aa_zretF iX11_again_19 rfl ?_
      exact ⟨rfl, rfl⟩
theorem p_keepB (hW : aa_W r dy σ) {x : Int32} (hx : x < 0 ∨ nI 2 < x) : aa_SX mX11_keep 100 [.ref 0, .int x] σ (some (.int (nI 0))) σ := by
  refine aa_E_of (by decide) 0 [some (.ref 0), some (.int (x))] rfl rfl ?_
  refine aa_go (aa_iload1 iX11_keep_0) ?_
  refine aa_if_lt iX11_keep_1 (fun g1 => ?_) (fun g1 => ?_)
  · skip
    refine aa_go (aa_iconst iX11_keep_9 ki_0) ?_
    refine aa_zretF iX11_keep_10 rfl ?_
    exact ⟨rfl, rfl⟩
  · skip
    refine aa_go (aa_iload1 iX11_keep_4) (aa_go (aa_iconst iX11_keep_5 ki_3) ?_)
    refine aa_ic_lt iX11_keep_6 (fun g2 => ?_) (fun g2 => ?_)
    · skip
      rcases hx with q | q
      · exact absurd q g1
      · rw [Int32.lt_iff_toInt_lt, nI_toInt (by omega)] at q g2
        omega
    · skip
      refine aa_go (aa_iconst iX11_keep_9 ki_0) ?_
      refine aa_zretF iX11_keep_10 rfl ?_
      exact ⟨rfl, rfl⟩
theorem p_againB (hW : aa_W r dy σ) {x : Int32} (hx : x < 0 ∨ nI 2 < x) : aa_SX mX11_again 100 [.ref 0, .int x] σ (some (.int (nI 0))) σ := by
  refine aa_E_of (by decide) 0 [some (.ref 0), some (.int (x))] rfl rfl ?_
  refine aa_go (aa_iload1 iX11_again_0) ?_
  refine aa_if_lt iX11_again_1 (fun g1 => ?_) (fun g1 => ?_)
  · skip
    refine aa_go (aa_iconst iX11_again_18 ki_0) ?_
    refine aa_zretF iX11_again_19 rfl ?_
    exact ⟨rfl, rfl⟩
  · skip
    refine aa_go (aa_iload1 iX11_again_4) (aa_go (aa_iconst iX11_again_5 ki_3) ?_)
    refine aa_ic_ge iX11_again_6 (fun g2 => ?_) (fun g2 => ?_)
    · skip
      refine aa_go (aa_iconst iX11_again_18 ki_0) ?_
      refine aa_zretF iX11_again_19 rfl ?_
      exact ⟨rfl, rfl⟩
    · skip
      rcases hx with q | q
      · exact absurd q g1
      · exact absurd g2 (fun q2 => by
          rw [Int32.le_iff_toInt_le, nI_toInt (by omega)] at q2
          rw [Int32.lt_iff_toInt_lt, nI_toInt (by omega)] at q
          first | omega | exact q2 (by omega))
def cnt (P : pl_T) (n : Nat) (g : gm_T) (tl k : Nat) : Nat := match k with
  | 0 => pl_n P
  | 1 => gth P g
  | 2 => g.1
  | 3 => gtn g
  | 4 => pl_pbk P (gst g) (pl_b P)
  | 5 => gen g
  | 6 => tl
  | _ => n
theorem p_count (h : XIv P tx n g kp lk tl rw N v W S R r dy σ) {k : Nat} (hk : k ≤ 7) : aa_SX mX11_count 100 [.ref 0, .int (nI k)] σ (some (.int (nI (cnt P n g tl k)))) σ := by
  have p16 := h.p16
  have hst := h.st
  have tl0 := h.T.2.2.2.2.1
  rcases (show k = 0 ∨ k = 1 ∨ k = 2 ∨ k = 3 ∨ k = 4 ∨ k = 5 ∨ k = 6 ∨ k = 7 by omega) with rfl | rfl | rfl | rfl | rfl | rfl | rfl | rfl
  · skip
    refine aa_E_of (by decide) 0 [some (.ref 0), some (.int (nI 0))] rfl rfl ?_
    refine aa_go (aa_iload1 iX11_count_0) ?_
    refine aa_go (aa_tsIn (x := nI 0) (off := 47) (tgt := 48) iX11_count_1 (by decide) (by decide) (by decide) (by decide)) ?_
    refine aa_go (aa_aload0 iX11_count_48) (aa_go (aa_getR iX11_count_49 fl_X11_19 (sh_0 h.1) rfl) (aa_go (aa_cVi iX11_count_52 (c_X6_things h.1 h.X) (by decide) lc_X6_things lk_X11_151 (sh_7 h.1) rfl rfl (Nat.le_of_ble_eq_true rfl)) ?_))
    refine aa_iret iX11_count_55 rfl ?_
    exact ⟨rfl, rfl⟩
  · skip
    refine aa_E_of (by decide) 0 [some (.ref 0), some (.int (nI 1))] rfl rfl ?_
    refine aa_go (aa_iload1 iX11_count_0) ?_
    refine aa_go (aa_tsIn (x := nI 1) (off := 55) (tgt := 56) iX11_count_1 (by decide) (by decide) (by decide) (by decide)) ?_
    refine aa_go (aa_aload0 iX11_count_56) (aa_go (aa_getR iX11_count_57 fl_X11_28 (sh_0 h.1) rfl) (aa_go (aa_cVi iX11_count_60 (c_X2_there h.1 h.X h.G) (by decide) lc_X2_there lk_X11_278 (sh_20 h.1) rfl rfl (Nat.le_of_ble_eq_true rfl)) ?_))
    refine aa_iret iX11_count_63 rfl ?_
    exact ⟨rfl, rfl⟩
  · skip
    refine aa_E_of (by decide) 0 [some (.ref 0), some (.int (nI 2))] rfl rfl ?_
    refine aa_go (aa_iload1 iX11_count_0) ?_
    refine aa_go (aa_tsIn (x := nI 2) (off := 63) (tgt := 64) iX11_count_1 (by decide) (by decide) (by decide) (by decide)) ?_
    refine aa_go (aa_aload0 iX11_count_64) (aa_go (aa_getR iX11_count_65 fl_X11_28 (sh_0 h.1) rfl) (aa_go (aa_cVi iX11_count_68 (c_X2_made h.1 h.G) (by decide) lc_X2_made lk_X11_204 (sh_20 h.1) rfl rfl (Nat.le_of_ble_eq_true rfl)) ?_))
    refine aa_iret iX11_count_71 rfl ?_
    exact ⟨rfl, rfl⟩
  · skip
    refine aa_E_of (by decide) 0 [some (.ref 0), some (.int (nI 3))] rfl rfl ?_
    refine aa_go (aa_iload1 iX11_count_0) ?_
    refine aa_go (aa_tsIn (x := nI 3) (off := 71) (tgt := 72) iX11_count_1 (by decide) (by decide) (by decide) (by decide)) ?_
    refine aa_go (aa_aload0 iX11_count_72) (aa_go (aa_getR iX11_count_73 fl_X11_28 (sh_0 h.1) rfl) (aa_go (aa_cVi iX11_count_76 (c_X2_turn h.1 h.G) (by decide) lc_X2_turn lk_X11_191 (sh_20 h.1) rfl rfl (Nat.le_of_ble_eq_true rfl)) ?_))
    refine aa_iret iX11_count_79 rfl ?_
    exact ⟨rfl, rfl⟩
  · skip
    refine aa_E_of (by decide) 0 [some (.ref 0), some (.int (nI 4))] rfl rfl ?_
    refine aa_go (aa_iload1 iX11_count_0) ?_
    refine aa_go (aa_tsIn (x := nI 4) (off := 79) (tgt := 80) iX11_count_1 (by decide) (by decide) (by decide) (by decide)) ?_
    refine aa_go (aa_aload0 iX11_count_80) (aa_go (aa_getR iX11_count_81 fl_X11_19 (sh_0 h.1) rfl) (aa_go (aa_aload0 iX11_count_84) (aa_go (aa_getR iX11_count_85 fl_X11_28 (sh_0 h.1) rfl) (aa_go (aa_cVi iX11_count_88 (c_X2_state h.1 h.G) (by decide) lc_X2_state lk_X11_140 (sh_20 h.1) rfl rfl (Nat.le_of_ble_eq_true rfl)) (aa_go (aa_cVi iX11_count_91 (c_X6_putBack h.1 h.X (s := gst g) (by omega)) (by decide) lc_X6_putBack lk_X11_373 (sh_7 h.1) rfl rfl (Nat.le_of_ble_eq_true rfl)) ?_)))))
    refine aa_iret iX11_count_94 rfl ?_
    exact ⟨rfl, rfl⟩
  · skip
    refine aa_E_of (by decide) 0 [some (.ref 0), some (.int (nI 5))] rfl rfl ?_
    refine aa_go (aa_iload1 iX11_count_0) ?_
    refine aa_go (aa_tsIn (x := nI 5) (off := 94) (tgt := 95) iX11_count_1 (by decide) (by decide) (by decide) (by decide)) ?_
    refine aa_go (aa_aload0 iX11_count_95) (aa_go (aa_getR iX11_count_96 fl_X11_28 (sh_0 h.1) rfl) (aa_go (aa_cVi iX11_count_99 (c_X2_ending h.1 h.G) (by decide) lc_X2_ending lk_X11_144 (sh_20 h.1) rfl rfl (Nat.le_of_ble_eq_true rfl)) ?_))
    refine aa_iret iX11_count_102 rfl ?_
    exact ⟨rfl, rfl⟩
  · skip
    refine aa_E_of (by decide) 0 [some (.ref 0), some (.int (nI 6))] rfl rfl ?_
    refine aa_go (aa_iload1 iX11_count_0) ?_
    refine aa_go (aa_tsIn (x := nI 6) (off := 102) (tgt := 103) iX11_count_1 (by decide) (by decide) (by decide) (by decide)) ?_
    refine aa_go (aa_aload0 iX11_count_103) (aa_go (aa_getE iX11_count_104 fl_X11_93 (sh_0 h.1) rfl tl0) ?_)
    refine aa_iret iX11_count_107 rfl ?_
    exact ⟨rfl, rfl⟩
  · skip
    refine aa_E_of (by decide) 0 [some (.ref 0), some (.int (nI 7))] rfl rfl ?_
    refine aa_go (aa_iload1 iX11_count_0) ?_
    refine aa_go (aa_tsIn (x := nI 7) (off := 107) (tgt := 108) iX11_count_1 (by decide) (by decide) (by decide) (by decide)) ?_
    refine aa_go (aa_aload0 iX11_count_108) (aa_go (aa_getR iX11_count_109 fl_X11_12 (sh_0 h.1) rfl) (aa_go (aa_cVi iX11_count_112 (c_X7_length h.1 h.T.1.1) (by decide) lc_X7_length lk_X11_376 (sh_1 h.1) rfl rfl (Nat.le_of_ble_eq_true rfl)) ?_))
    refine aa_iret iX11_count_115 rfl ?_
    exact ⟨rfl, rfl⟩
theorem p_countB (hW : aa_W r dy σ) {x : Int32} (hx : x < 0 ∨ nI 7 < x) : aa_SX mX11_count 100 [.ref 0, .int x] σ (some (.int (-1))) σ := by
  have hx2 : x.toInt < 0 ∨ 7 < x.toInt := by
    rcases hx with q | q
    · rw [Int32.lt_iff_toInt_lt] at q; exact Or.inl q
    · rw [Int32.lt_iff_toInt_lt] at q; exact Or.inr q
  refine aa_E_of (by decide) 0 [some (.ref 0), some (.int (x))] rfl rfl ?_
  refine aa_go (aa_iload1 iX11_count_0) ?_
  refine aa_go (aa_tsOut (tgt := 116) iX11_count_1 (hx2) (by decide)) ?_
  refine aa_go (aa_iconst iX11_count_116 ki_m1) ?_
  refine aa_iret iX11_count_117 rfl ?_
  exact ⟨rfl, rfl⟩
theorem p_row (h : XIv P tx n g kp lk tl rw N v W S R r dy σ) {k : Nat} (hk : k < tl) : aa_SX mX11_row 100 [.ref 0, .int (nI k)] σ (some (.long (lZ (rw k)))) σ := by
  obtain ⟨t1, t2, t3⟩ := h.T.2.2.2.2
  refine aa_E_of (by decide) 0 [some (.ref 0), some (.int (nI k))] rfl rfl ?_
  refine aa_go (aa_iload1 iX11_row_0) ?_
  refine aa_go (aa_if_ltN iX11_row_1 (by omega)) ?_
  refine aa_go (aa_iload1 iX11_row_4) (aa_go (aa_aload0 iX11_row_5) (aa_go (aa_getE iX11_row_6 fl_X11_93 (sh_0 h.1) rfl t1) ?_))
  refine aa_ic_geN iX11_row_9 (by omega) (by omega) (fun g1 => ?_) (fun g1 => ?_)
  · skip
    omega
  · skip
    refine aa_go (aa_iload1 iX11_row_12) (aa_go (aa_aload0 iX11_row_13) (aa_go (aa_getR iX11_row_14 fl_X11_89 (sh_0 h.1) rfl) (aa_go (aa_alen iX11_row_17 (sh_56 h.1) (by decide)) ?_)))
    refine aa_ic_ltN iX11_row_18 (by omega) (by omega) (fun g2 => ?_) (fun g2 => ?_)
    · skip
      refine aa_go (aa_aload0 iX11_row_32) (aa_go (aa_getR iX11_row_33 fl_X11_89 (sh_0 h.1) rfl) (aa_go (aa_iload1 iX11_row_36) (aa_go (aa_lalE iX11_row_37 (sh_56 h.1) (by omega) (by omega) (t3 k hk)) ?_)))
      refine aa_lret iX11_row_38 rfl ?_
      exact ⟨rfl, rfl⟩
    · skip
      omega
def thg (P : pl_T) (g : gm_T) (i k : Nat) : Nat := match k with
  | 0 => pl_w P i
  | 1 => pl_h P i
  | 2 => pl_u P i
  | 3 => pl_ab P i
  | 4 => (pl_bkB P i).toNat
  | _ => ((gst g).testBit i).toNat
theorem p_thing (h : XIv P tx n g kp lk tl rw N v W S R r dy σ) {i k : Nat} (hi : i < pl_n P) (hk : k ≤ 5) : aa_SX mX11_thing 100 [.ref 0, .int (nI i), .int (nI k)] σ (some (.int (nI (thg P g i k)))) σ := by
  have p16 := h.p16
  have hst := h.st
  have hn := h.X.n14
  have key : ∀ (Q : Option Value → aa_St → Prop), aa_V mX11_thing 100 30 [some (.ref 0), some (.int (nI i)), some (.int (nI k))] [] σ Q → aa_V mX11_thing 100 0 [some (.ref 0), some (.int (nI i)), some (.int (nI k))] [] σ Q := by
    intro Q hQ
    refine aa_go (aa_aload0 iX11_thing_0) (aa_go (aa_getR iX11_thing_1 fl_X11_19 (sh_0 h.1) rfl) (aa_go (aa_iload1 iX11_thing_4) (aa_go (aa_cVi iX11_thing_5 (c_X6_hasN h.1 h.X (by omega)) (by decide) lc_X6_has lk_X11_115 (sh_7 h.1) rfl rfl (Nat.le_of_ble_eq_true rfl)) ?_)))
    refine aa_if_eqB iX11_thing_8 (fun g1 => ?_) (fun g1 => ?_)
    · skip
      exact absurd hi (of_decide_eq_false g1)
    · skip
      refine aa_go (aa_iload2 iX11_thing_11) ?_
      refine aa_go (aa_if_ltN iX11_thing_12 (by omega)) ?_
      refine aa_go (aa_iload2 iX11_thing_15) (aa_go (aa_iconst iX11_thing_16 ki_5) ?_)
      refine aa_ic_leN iX11_thing_17 (by omega) (by omega) (fun g2 => ?_) (fun g2 => ?_)
      · skip
        exact hQ
      · skip
        omega
  refine aa_E_of (by decide) 0 [some (.ref 0), some (.int (nI i)), some (.int (nI k))] rfl rfl (key _ ?_)
  rcases (show k = 0 ∨ k = 1 ∨ k = 2 ∨ k = 3 ∨ k = 4 ∨ k = 5 by omega) with rfl | rfl | rfl | rfl | rfl | rfl
  · skip
    refine aa_go (aa_iload2 iX11_thing_30) ?_
    refine aa_go (aa_tsIn (x := nI 0) (off := 33) (tgt := 64) iX11_thing_31 (by decide) (by decide) (by decide) (by decide)) ?_
    refine aa_go (aa_aload0 iX11_thing_64) (aa_go (aa_getR iX11_thing_65 fl_X11_19 (sh_0 h.1) rfl) (aa_go (aa_iload1 iX11_thing_68) (aa_go (aa_cVi iX11_thing_69 (c_X6_worthAt h.1 h.X (by omega)) (by decide) lc_X6_worthAt lk_X11_125 (sh_7 h.1) rfl rfl (Nat.le_of_ble_eq_true rfl)) ?_)))
    refine aa_iret iX11_thing_72 rfl ?_
    exact ⟨by rw [if_pos hi]; rfl, rfl⟩
  · skip
    refine aa_go (aa_iload2 iX11_thing_30) ?_
    refine aa_go (aa_tsIn (x := nI 1) (off := 42) (tgt := 73) iX11_thing_31 (by decide) (by decide) (by decide) (by decide)) ?_
    refine aa_go (aa_aload0 iX11_thing_73) (aa_go (aa_getR iX11_thing_74 fl_X11_19 (sh_0 h.1) rfl) (aa_go (aa_iload1 iX11_thing_77) (aa_go (aa_cVi iX11_thing_78 (c_X6_heirsOf h.1 h.X (by omega)) (by decide) lc_X6_heirsOf lk_X11_128 (sh_7 h.1) rfl rfl (Nat.le_of_ble_eq_true rfl)) ?_)))
    refine aa_iret iX11_thing_81 rfl ?_
    exact ⟨by rw [if_pos hi]; rfl, rfl⟩
  · skip
    refine aa_go (aa_iload2 iX11_thing_30) ?_
    refine aa_go (aa_tsIn (x := nI 2) (off := 51) (tgt := 82) iX11_thing_31 (by decide) (by decide) (by decide) (by decide)) ?_
    refine aa_go (aa_aload0 iX11_thing_82) (aa_go (aa_getR iX11_thing_83 fl_X11_19 (sh_0 h.1) rfl) (aa_go (aa_iload1 iX11_thing_86) (aa_go (aa_cVi iX11_thing_87 (c_X6_under h.1 h.X (by omega)) (by decide) lc_X6_under lk_X11_131 (sh_7 h.1) rfl rfl (Nat.le_of_ble_eq_true rfl)) ?_)))
    refine aa_iret iX11_thing_90 rfl ?_
    exact ⟨by rw [if_pos hi]; rfl, rfl⟩
  · skip
    refine aa_go (aa_iload2 iX11_thing_30) ?_
    refine aa_go (aa_tsIn (x := nI 3) (off := 60) (tgt := 91) iX11_thing_31 (by decide) (by decide) (by decide) (by decide)) ?_
    refine aa_go (aa_aload0 iX11_thing_91) (aa_go (aa_getR iX11_thing_92 fl_X11_19 (sh_0 h.1) rfl) (aa_go (aa_iload1 iX11_thing_95) (aa_go (aa_cVi iX11_thing_96 (c_X6_above h.1 h.X (by omega)) (by decide) lc_X6_above lk_X11_134 (sh_7 h.1) rfl rfl (Nat.le_of_ble_eq_true rfl)) ?_)))
    refine aa_iret iX11_thing_99 rfl ?_
    exact ⟨by rw [if_pos hi]; rfl, rfl⟩
  · skip
    refine aa_go (aa_iload2 iX11_thing_30) ?_
    refine aa_go (aa_tsIn (x := nI 4) (off := 69) (tgt := 100) iX11_thing_31 (by decide) (by decide) (by decide) (by decide)) ?_
    refine aa_go (aa_aload0 iX11_thing_100) (aa_go (aa_getR iX11_thing_101 fl_X11_19 (sh_0 h.1) rfl) (aa_go (aa_iload1 iX11_thing_104) (aa_go (aa_cVi iX11_thing_105 (c_X6_isBack h.1 h.X (by omega)) (by decide) lc_X6_isBack lk_X11_137 (sh_7 h.1) rfl rfl (Nat.le_of_ble_eq_true rfl)) ?_)))
    refine aa_if_eqB iX11_thing_108 (fun g1 => ?_) (fun g1 => ?_)
    · skip
      refine aa_go (aa_iconst iX11_thing_115 ki_0) ?_
      refine aa_iret iX11_thing_116 rfl ?_
      exact ⟨by show _ = some (Value.int (nI (pl_bkB P i).toNat)); rw [g1]; rfl, rfl⟩
    · skip
      refine aa_go (aa_iconst iX11_thing_111 ki_1) (aa_go (aa_goto iX11_thing_112) ?_)
      refine aa_iret iX11_thing_116 rfl ?_
      exact ⟨by show _ = some (Value.int (nI (pl_bkB P i).toNat)); rw [g1]; rfl, rfl⟩
  · skip
    refine aa_go (aa_iload2 iX11_thing_30) ?_
    refine aa_go (aa_tsOut (tgt := 117) iX11_thing_31 (Or.inr (by decide)) (by decide)) ?_
    refine aa_go (aa_aload0 iX11_thing_117) (aa_go (aa_getR iX11_thing_118 fl_X11_28 (sh_0 h.1) rfl) (aa_go (aa_cVi iX11_thing_121 (c_X2_state h.1 h.G) (by decide) lc_X2_state lk_X11_140 (sh_20 h.1) rfl rfl (Nat.le_of_ble_eq_true rfl)) ?_))
    refine aa_go (aa_top (y := nI (gst g)) (rfl)) ?_
    refine aa_go (aa_iload1 iX11_thing_124) (aa_go (aa_ishrN iX11_thing_125 (by omega) (by omega)) (aa_go (aa_iconst iX11_thing_126 ki_1) (aa_go (aa_ibit iX11_thing_127) ?_)))
    refine aa_iret iX11_thing_128 rfl ?_
    exact ⟨rfl, rfl⟩
theorem XIv.L (h : XIv P tx n g kp lk tl rw N v W S R r dy σ) : σ.1 46 2 = nI lk ∧ lk < 8 := h.T.2.2.2.1
theorem c_keeperG (h : XIv P tx n g kp lk tl rw N v W S R r dy σ) {t : Nat} (ht : t ≤ 2) : ∃ r' dy' σ', (XIv P tx n g kp lk tl rw N v W S R r' dy' σ' ∧ CF r σ r' σ') ∧ aa_SX mX5_keeper 24 [.ref 46, .int (nI (gst g)), .int (nI t)] σ (some (.int (nI (kpB P lk t (gst g))))) σ' := by
  obtain ⟨r1, dy1, σ1, ⟨hM1, hR1⟩, hS1⟩ := c_X5_keeper h.1 h.X h.V h.L.1 h.L.2 h.M.2.2.2.2.2.1 h.st ht
  exact ⟨r1, dy1, σ1, h.M5 hM1 h.p16 (fun _ => hR1), hS1⟩
theorem p_parrot (h : XIv P tx n g kp lk tl rw N v W S R r dy σ) {t : Nat} (ht : t ≤ 2) : ∃ r' dy' σ', (XI P tx n g kp lk 1 (rw1 (mvZ P (ffk P lk t (gst g) (pl_n P + pl_b P)))) N r' dy' σ' ∧ CF r σ r' σ') ∧ aa_SX mX11_parrot 100 [.ref 0, .int (nI t)] σ (some (.int (nI (kpB P lk t (gst g))))) σ' := by
  have ho : ∀ j, ffk P lk t (gst g) (pl_n P + pl_b P) = some j → j < pl_n P + pl_b P := fun j hj => mlk_lt (List.mem_of_find?_eq_some hj)
  obtain ⟨r1, dy1, σ1, ⟨hM1, hR1⟩, hS1⟩ := c_X5_firstStep h.1 h.X h.V h.L.1 h.L.2 h.M.2.2.2.2.2.1 h.st ht
  obtain ⟨h1, f1⟩ := h.M5 hM1 h.p16 (fun _ => hR1)
  have mb := mvZ_bd h1.X ho
  obtain ⟨h2, f2⟩ := h1.tell (mvZ P (ffk P lk t (gst g) (pl_n P + pl_b P)))
  obtain ⟨r3, dy3, σ3, ⟨h3, f3⟩, hS3⟩ := c_keeperG h2 ht
  refine ⟨r3, dy3, σ3, ⟨h3.to, (f1.tr f2).tr f3⟩, ?_⟩
  refine aa_E_of (by decide) 0 [some (.ref 0), some (.int (nI t))] rfl rfl ?_
  refine aa_go (aa_iload1 iX11_parrot_0) ?_
  refine aa_go (aa_if_ltN iX11_parrot_1 (by omega)) ?_
  refine aa_go (aa_iload1 iX11_parrot_4) (aa_go (aa_iconst iX11_parrot_5 ki_2) ?_)
  refine aa_ic_leN iX11_parrot_6 (by omega) (by omega) (fun g1 => ?_) (fun g1 => ?_)
  · skip
    refine aa_go (aa_aload0 iX11_parrot_11) (aa_go (aa_aload0 iX11_parrot_12) (aa_go (aa_getR iX11_parrot_13 fl_X11_19 (sh_0 h.1) rfl) (aa_go (aa_aload0 iX11_parrot_16) (aa_go (aa_getR iX11_parrot_17 fl_X11_78 (sh_0 h.1) rfl) (aa_go (aa_aload0 iX11_parrot_20) (aa_go (aa_getR iX11_parrot_21 fl_X11_28 (sh_0 h.1) rfl) (aa_go (aa_cVi iX11_parrot_24 (c_X2_state h.1 h.G) (by decide) lc_X2_state lk_X11_140 (sh_20 h.1) rfl rfl (Nat.le_of_ble_eq_true rfl)) ?_)))))))
    refine aa_go (aa_iload1 iX11_parrot_27) (aa_go (aa_cVi iX11_parrot_28 (hS1) (by decide) lc_X5_firstStep lk_X11_334 (sh_46 h.1) rfl rfl (Nat.le_of_ble_eq_true rfl)) ?_)
    refine aa_go (aa_cVi iX11_parrot_31 (c_moveOfO h1.1 h1.X ho) (by decide) lc_X6_moveOf lk_X11_236 (sh_7 h1.1) rfl rfl (Nat.le_of_ble_eq_true rfl)) (aa_go (aa_i2l iX11_parrot_34) ?_)
    refine aa_go (aa_topl (y := lZ (mvZ P (ffk P lk t (gst g) (pl_n P + pl_b P)))) (iZ_l (by omega) (by omega))) ?_
    refine aa_go (aa_cVv iX11_parrot_35 (c_tell h1.1 _) (by decide) lc_X11_tell lk_X11_224 (sh_0 h1.1) rfl rfl (Nat.le_of_ble_eq_true rfl)) ?_
    refine aa_go (aa_aload0 iX11_parrot_38) (aa_go (aa_getR iX11_parrot_39 fl_X11_78 (sh_0 h2.1) rfl) (aa_go (aa_aload0 iX11_parrot_42) (aa_go (aa_getR iX11_parrot_43 fl_X11_28 (sh_0 h2.1) rfl) (aa_go (aa_cVi iX11_parrot_46 (c_X2_state h2.1 h2.G) (by decide) lc_X2_state lk_X11_140 (sh_20 h2.1) rfl rfl (Nat.le_of_ble_eq_true rfl)) (aa_go (aa_iload1 iX11_parrot_49) (aa_go (aa_cVi iX11_parrot_50 (hS3) (by decide) lc_X5_keeper lk_X11_337 (sh_46 h2.1) rfl rfl (Nat.le_of_ble_eq_true rfl)) ?_))))))
    refine aa_iret iX11_parrot_53 rfl ?_
    exact ⟨rfl, rfl⟩
  · skip
    omega
theorem p_parrotB (hW : aa_W r dy σ) {x : Int32} (hx : x < 0 ∨ nI 2 < x) : aa_SX mX11_parrot 100 [.ref 0, .int x] σ (some (.int (-1))) σ := by
  refine aa_E_of (by decide) 0 [some (.ref 0), some (.int (x))] rfl rfl ?_
  refine aa_go (aa_iload1 iX11_parrot_0) ?_
  refine aa_if_lt iX11_parrot_1 (fun g1 => ?_) (fun g1 => ?_)
  · skip
    refine aa_go (aa_iconst iX11_parrot_9 ki_m1) ?_
    refine aa_iret iX11_parrot_10 rfl ?_
    exact ⟨rfl, rfl⟩
  · skip
    refine aa_go (aa_iload1 iX11_parrot_4) (aa_go (aa_iconst iX11_parrot_5 ki_2) ?_)
    refine aa_ic_le iX11_parrot_6 (fun g2 => ?_) (fun g2 => ?_)
    · skip
      rcases hx with q | q
      · exact absurd q g1
      · exact absurd q (Int32.not_lt.mpr g2)
    · skip
      refine aa_go (aa_iconst iX11_parrot_9 ki_m1) ?_
      refine aa_iret iX11_parrot_10 rfl ?_
      exact ⟨rfl, rfl⟩
theorem p_parrots (h : XIv P tx n g kp lk tl rw N v W S R r dy σ) : ∃ r' dy' σ', (XI P tx n g kp lk 3 (rw3 (kpB P lk 0 (gst g)) (kpB P lk 1 (gst g)) (kpB P lk 2 (gst g))) N r' dy' σ' ∧ CF r σ r' σ') ∧ aa_SX mX11_parrots 100 [.ref 0] σ (some (.int (nI (pl_cn (2 ^ kpB P lk 0 (gst g) ||| 2 ^ kpB P lk 1 (gst g) ||| 2 ^ kpB P lk 2 (gst g)) 32)))) σ' := by
  have k0 := kpB_le (lk := lk) h.ok (show 0 ≤ 2 by omega) (gst g)
  have k1 := kpB_le (lk := lk) h.ok (show 1 ≤ 2 by omega) (gst g)
  have k2 := kpB_le (lk := lk) h.ok (show 2 ≤ 2 by omega) (gst g)
  obtain ⟨r1, dy1, σ1, ⟨h1, f1⟩, hS1⟩ := c_keeperG h (show 0 ≤ 2 by omega)
  obtain ⟨r2, dy2, σ2, ⟨h2, f2⟩, hS2⟩ := c_keeperG h1 (show 1 ≤ 2 by omega)
  obtain ⟨r3, dy3, σ3, ⟨h3, f3⟩, hS3⟩ := c_keeperG h2 (show 2 ≤ 2 by omega)
  have hN : NB 3 (rw3 (kpB P lk 0 (gst g)) (kpB P lk 1 (gst g)) (kpB P lk 2 (gst g))) (aa_sI (aa_sL (aa_sI (aa_sL (aa_sL σ3 56 0 (lN (kpB P lk 0 (gst g)))) 56 1 (lN (kpB P lk 1 (gst g)))) 0 13 (nI 2)) 56 2 (lN (kpB P lk 2 (gst g)))) 0 13 (nI 3)) := by
    refine ⟨sI_eq, by omega, fun i hi => ?_⟩
    show (aa_sL (aa_sL (aa_sL σ3 56 0 (lN (kpB P lk 0 (gst g)))) 56 1 (lN (kpB P lk 1 (gst g)))) 56 2 (lN (kpB P lk 2 (gst g)))).2.1 56 i = _
    rw [sL_at, sL_at, sL_at]
    rcases (show i = 0 ∨ i = 1 ∨ i = 2 by omega) with rfl | rfl | rfl <;> rfl
  obtain ⟨h4, f4⟩ := h3.num (((((FrN.rf.l _ _).l _ _).s _ _).l _ _).s _ _) hN
  have b8 : 2 ^ kpB P lk 0 (gst g) ||| 2 ^ kpB P lk 1 (gst g) ||| 2 ^ kpB P lk 2 (gst g) < 2 ^ 4 := bb_or (bb_or (bb_p2 (by omega)) (bb_p2 (by omega))) (bb_p2 (by omega))
  refine ⟨r3, dy3, _, ⟨h4.to, ((f1.tr f2).tr f3).tr f4⟩, ?_⟩
  refine aa_E_of (by decide) 3 [some (.ref 0), none, none, none] rfl rfl ?_
  refine aa_go (aa_aload0 iX11_parrots_0) (aa_go (aa_getR iX11_parrots_1 fl_X11_78 (sh_0 h.1) rfl) (aa_go (aa_aload0 iX11_parrots_4) (aa_go (aa_getR iX11_parrots_5 fl_X11_28 (sh_0 h.1) rfl) (aa_go (aa_cVi iX11_parrots_8 (c_X2_state h.1 h.G) (by decide) lc_X2_state lk_X11_140 (sh_20 h.1) rfl rfl (Nat.le_of_ble_eq_true rfl)) (aa_go (aa_iconst iX11_parrots_11 ki_0) (aa_go (aa_cVi iX11_parrots_12 (hS1) (by decide) lc_X5_keeper lk_X11_337 (sh_46 h.1) rfl rfl (Nat.le_of_ble_eq_true rfl)) ?_))))))
  refine aa_go (aa_istore1 iX11_parrots_15 rfl (by decide)) (aa_go (aa_aload0 iX11_parrots_16) (aa_go (aa_getR iX11_parrots_17 fl_X11_78 (sh_0 h1.1) rfl) (aa_go (aa_aload0 iX11_parrots_20) (aa_go (aa_getR iX11_parrots_21 fl_X11_28 (sh_0 h1.1) rfl) (aa_go (aa_cVi iX11_parrots_24 (c_X2_state h1.1 h1.G) (by decide) lc_X2_state lk_X11_140 (sh_20 h1.1) rfl rfl (Nat.le_of_ble_eq_true rfl)) (aa_go (aa_iconst iX11_parrots_27 ki_1) (aa_go (aa_cVi iX11_parrots_28 (hS2) (by decide) lc_X5_keeper lk_X11_337 (sh_46 h1.1) rfl rfl (Nat.le_of_ble_eq_true rfl)) ?_)))))))
  refine aa_go (aa_istore2 iX11_parrots_31 rfl (by decide)) (aa_go (aa_aload0 iX11_parrots_32) (aa_go (aa_getR iX11_parrots_33 fl_X11_78 (sh_0 h2.1) rfl) (aa_go (aa_aload0 iX11_parrots_36) (aa_go (aa_getR iX11_parrots_37 fl_X11_28 (sh_0 h2.1) rfl) (aa_go (aa_cVi iX11_parrots_40 (c_X2_state h2.1 h2.G) (by decide) lc_X2_state lk_X11_140 (sh_20 h2.1) rfl rfl (Nat.le_of_ble_eq_true rfl)) (aa_go (aa_iconst iX11_parrots_43 ki_2) (aa_go (aa_cVi iX11_parrots_44 (hS3) (by decide) lc_X5_keeper lk_X11_337 (sh_46 h2.1) rfl rfl (Nat.le_of_ble_eq_true rfl)) ?_)))))))
  refine aa_go (aa_istore3 iX11_parrots_47 rfl (by decide)) (aa_go (aa_aload0 iX11_parrots_48) (aa_go (aa_iload1 iX11_parrots_49) (aa_go (aa_i2lN iX11_parrots_50 (by omega)) (aa_go (aa_iload2 iX11_parrots_51) (aa_go (aa_i2lN iX11_parrots_52 (by omega)) (aa_go (aa_cVv iX11_parrots_53 (c_tell2 h3.1 _ _) (by decide) lc_X11_tell_ lk_X11_207 (sh_0 h3.1) rfl rfl (Nat.le_of_ble_eq_true rfl)) (aa_go (aa_aload0 iX11_parrots_56) ?_)))))))
  refine aa_go (aa_getR iX11_parrots_57 fl_X11_89 (sh_0 h3.1) rfl) (aa_go (aa_iconst iX11_parrots_60 ki_2) (aa_go (aa_iload3 iX11_parrots_61) (aa_go (aa_i2lN iX11_parrots_62 (by omega)) (aa_go (aa_lasN iX11_parrots_63 (sh_56 h3.1) (by omega) (by omega)) (aa_go (aa_aload0 iX11_parrots_64) (aa_go (aa_iconst iX11_parrots_65 ki_3) (aa_go (aa_putI iX11_parrots_66 fl_X11_93 (fun h => nomatch h) (sh_0 h3.1) rfl ⟨rfl, rfl⟩) ?_)))))))
  refine aa_go (aa_iconst iX11_parrots_69 ki_1) (aa_go (aa_iload1 iX11_parrots_70) (aa_go (aa_ishlN iX11_parrots_71 (by omega)) (aa_go (aa_iconst iX11_parrots_72 ki_1) (aa_go (aa_iload2 iX11_parrots_73) (aa_go (aa_ishlN iX11_parrots_74 (by omega)) (aa_go (aa_iorN iX11_parrots_75 ) (aa_go (aa_iconst iX11_parrots_76 ki_1) ?_)))))))
  refine aa_go (aa_iload3 iX11_parrots_77) (aa_go (aa_ishlN iX11_parrots_78 (by omega)) (aa_go (aa_iorN iX11_parrots_79 ) ?_))
  refine aa_go (aa_top (y := nI (2 ^ kpB P lk 0 (gst g) ||| 2 ^ kpB P lk 1 (gst g) ||| 2 ^ kpB P lk 2 (gst g))) (by rw [Nat.one_shiftLeft, Nat.one_shiftLeft, Nat.one_shiftLeft])) ?_
  refine aa_go (aa_cSi iX11_parrots_80 (c_bitCount (by omega)) (by decide) lc_J6_bitCount_0f7a4 lk_X11_252 rfl (Nat.le_of_ble_eq_true rfl)) ?_
  refine aa_iret iX11_parrots_83 rfl ?_
  exact ⟨rfl, rfl⟩
def outR (P : pl_T) (lk : Nat) (t s : Nat) : Int32 := if kpB P lk 0 s ≠ t then -3 else match (List.range 3).find? (fun q => decide (q ≠ t) && decide (kwo P (kwL q) (kwG q) s ≠ t)) with
  | some q => nI q
  | none => -2
theorem kwo_le (l q s : Nat) (hl : l ≤ 2) (hq : q ≤ 2) : kwo P l q s ≤ 3 := by
  unfold kwo
  split
  · omega
  · split <;> omega
theorem kwL_le (q : Nat) : kwL q ≤ 2 := by unfold kwL; split <;> omega
theorem kwG_le (q : Nat) : kwG q ≤ 2 := by unfold kwG; split <;> omega
theorem p_out (h : XIv P tx n g kp lk tl rw N v W S R r dy σ) {t : Nat} (ht : t ≤ 2) : ∃ r' dy' σ', (XI P tx n g kp lk tl rw N r' dy' σ' ∧ CF r σ r' σ') ∧ aa_SX mX11_out 100 [.ref 0, .int (nI t)] σ (some (.int (outR P lk t (gst g)))) σ' := by
  have k0 := kpB_le (lk := lk) h.ok (show 0 ≤ 2 by omega) (gst g)
  obtain ⟨r1, dy1, σ1, ⟨h1, f1⟩, hS1⟩ := c_keeperG h (show 0 ≤ 2 by omega)
  have loop : ∀ f q (r2 : Nat → Nat) dy2 (σ2 : aa_St), 3 - q < f → q ≤ 3 → XIv P tx n g kp lk tl rw N v W S R r2 dy2 σ2 → CF r σ r2 σ2 → kpB P lk 0 (gst g) = t → (List.range q).find? (fun q => decide (q ≠ t) && decide (kwo P (kwL q) (kwG q) (gst g) ≠ t)) = none → aa_V mX11_out 100 35 [some (.ref 0), some (.int (nI t)), some (.int (nI q))] [] σ2 (fun ra σ' => ra = some (.int (outR P lk t (gst g))) ∧ ∃ r' dy', XI P tx n g kp lk tl rw N r' dy' σ' ∧ CF r σ r' σ') := by
    intro f
    induction f with
    | zero => intro q r2 dy2 σ2 g1; omega
    | succ f ih =>
      intro q r2 dy2 σ2 g1 g2 h2 f2 hk hno
      have nxt := rfind_n hno
      refine aa_go (aa_iload2 iX11_out_35) (aa_go (aa_iconst iX11_out_36 ki_3) ?_)
      refine aa_ic_geN iX11_out_37 (by omega) (by omega) (fun g3 => ?_) (fun g3 => ?_)
      · skip
        have e : q = 3 := by omega
        subst e
        refine aa_go (aa_bipush iX11_out_72 kb_m2) ?_
        refine aa_iret iX11_out_74 rfl ?_
        exact ⟨by rw [outR, if_neg (by omega), hno], r2, dy2, h2.to, f2⟩
      · skip
        refine aa_go (aa_iload2 iX11_out_40) (aa_go (aa_iload1 iX11_out_41) ?_)
        refine aa_ic_eqN iX11_out_42 (by omega) (by omega) (fun g4 => ?_) (fun g4 => ?_)
        · skip
          refine aa_go (aa_iincN2 (k := 1) iX11_out_66 rfl (by decide)) (aa_go (aa_goto iX11_out_69) ?_)
          exact ih (q + 1) r2 dy2 σ2 (by omega) (by omega) h2 f2 hk (by rw [nxt, if_neg (by rw [decide_eq_false (by omega)]; simp)])
        · skip
          obtain ⟨r3, dy3, σ3, ⟨hM3, hR3⟩, hS3⟩ := c_X5_keeperWithout h2.1 h2.X h2.V h2.M.2.2.2.2.2.1 h2.st (g := q) (by omega)
          obtain ⟨h3, f3⟩ := h2.M5 hM3 h2.p16 (fun _ => hR3)
          have kl := kwo_le (P := P) (kwL q) (kwG q) (gst g) (kwL_le q) (kwG_le q)
          refine aa_go (aa_aload0 iX11_out_45) (aa_go (aa_getR iX11_out_46 fl_X11_78 (sh_0 h2.1) rfl) (aa_go (aa_aload0 iX11_out_49) (aa_go (aa_getR iX11_out_50 fl_X11_28 (sh_0 h2.1) rfl) (aa_go (aa_cVi iX11_out_53 (c_X2_state h2.1 h2.G) (by decide) lc_X2_state lk_X11_140 (sh_20 h2.1) rfl rfl (Nat.le_of_ble_eq_true rfl)) (aa_go (aa_iload2 iX11_out_56) (aa_go (aa_cVi iX11_out_57 (hS3) (by decide) lc_X5_keeperWithout lk_X11_340 (sh_46 h2.1) rfl rfl (Nat.le_of_ble_eq_true rfl)) (aa_go (aa_iload1 iX11_out_60) ?_)))))))
          refine aa_ic_eqN iX11_out_61 (by omega) (by omega) (fun g5 => ?_) (fun g5 => ?_)
          · skip
            refine aa_go (aa_iincN2 (k := 1) iX11_out_66 rfl (by decide)) (aa_go (aa_goto iX11_out_69) ?_)
            exact ih (q + 1) r3 dy3 σ3 (by omega) (by omega) h3 (f2.tr f3) hk (by rw [nxt, if_neg (by rw [decide_eq_false (p := kwo P (kwL q) (kwG q) (gst g) ≠ t) (fun c => c g5)]; simp)])
          · skip
            refine aa_go (aa_iload2 iX11_out_64) ?_
            refine aa_iret iX11_out_65 rfl ?_
            refine ⟨?_, r3, dy3, h3.to, f2.tr f3⟩
            rw [outR, if_neg (by omega), rfind_d (by omega : q + 1 ≤ 3) (by rw [nxt, if_pos (by rw [decide_eq_true (show q ≠ t from g4), decide_eq_true (show kwo P (kwL q) (kwG q) (gst g) ≠ t from g5)]; rfl)])]
  have key : aa_V mX11_out 100 0 [some (.ref 0), some (.int (nI t)), none] [] σ (fun ra σ' => ra = some (.int (outR P lk t (gst g))) ∧ ∃ r' dy', XI P tx n g kp lk tl rw N r' dy' σ' ∧ CF r σ r' σ') := by
    refine aa_go (aa_iload1 iX11_out_0) ?_
    refine aa_go (aa_if_ltN iX11_out_1 (by omega)) ?_
    refine aa_go (aa_iload1 iX11_out_4) (aa_go (aa_iconst iX11_out_5 ki_2) ?_)
    refine aa_ic_leN iX11_out_6 (by omega) (by omega) (fun g1 => ?_) (fun g1 => ?_)
    · skip
      refine aa_go (aa_aload0 iX11_out_11) (aa_go (aa_getR iX11_out_12 fl_X11_78 (sh_0 h.1) rfl) (aa_go (aa_aload0 iX11_out_15) (aa_go (aa_getR iX11_out_16 fl_X11_28 (sh_0 h.1) rfl) (aa_go (aa_cVi iX11_out_19 (c_X2_state h.1 h.G) (by decide) lc_X2_state lk_X11_140 (sh_20 h.1) rfl rfl (Nat.le_of_ble_eq_true rfl)) (aa_go (aa_iconst iX11_out_22 ki_0) (aa_go (aa_cVi iX11_out_23 (hS1) (by decide) lc_X5_keeper lk_X11_337 (sh_46 h.1) rfl rfl (Nat.le_of_ble_eq_true rfl)) (aa_go (aa_iload1 iX11_out_26) ?_)))))))
      refine aa_ic_eqN iX11_out_27 (by omega) (by omega) (fun g2 => ?_) (fun g2 => ?_)
      · skip
        refine aa_go (aa_iconst iX11_out_33 ki_0) (aa_go (aa_istore2 iX11_out_34 rfl (by decide)) ?_)
        exact loop 4 0 r1 dy1 σ1 (by omega) (by omega) h1 f1 g2 rfl
      · skip
        refine aa_go (aa_bipush iX11_out_30 kb_m3) ?_
        refine aa_iret iX11_out_32 rfl ?_
        exact ⟨by rw [outR, if_pos g2], r1, dy1, h1.to, f1⟩
    · skip
      omega
  obtain ⟨ra, σ', ⟨rfl, r', dy', h1⟩, hS9⟩ := aa_S_of (avs := [.ref 0, .int (nI t)]) (by decide) 1 [some (.ref 0), some (.int (nI t)), none] rfl rfl key
  exact ⟨r', dy', σ', h1, hS9⟩
theorem p_outB (hW : aa_W r dy σ) {x : Int32} (hx : x < 0 ∨ nI 2 < x) : aa_SX mX11_out 100 [.ref 0, .int x] σ (some (.int (-1))) σ := by
  refine aa_E_of (by decide) 1 [some (.ref 0), some (.int (x)), none] rfl rfl ?_
  refine aa_go (aa_iload1 iX11_out_0) ?_
  refine aa_if_lt iX11_out_1 (fun g1 => ?_) (fun g1 => ?_)
  · skip
    refine aa_go (aa_iconst iX11_out_9 ki_m1) ?_
    refine aa_iret iX11_out_10 rfl ?_
    exact ⟨rfl, rfl⟩
  · skip
    refine aa_go (aa_iload1 iX11_out_4) (aa_go (aa_iconst iX11_out_5 ki_2) ?_)
    refine aa_ic_le iX11_out_6 (fun g2 => ?_) (fun g2 => ?_)
    · skip
      rcases hx with q | q
      · exact absurd q g1
      · exact absurd q (Int32.not_lt.mpr g2)
    · skip
      refine aa_go (aa_iconst iX11_out_9 ki_m1) ?_
      refine aa_iret iX11_out_10 rfl ?_
      exact ⟨rfl, rfl⟩
def lmt (P : pl_T) (g : gm_T) (h : Nat) : Nat := pl_wo P (pl_orA (pl_cl P) (gst g &&& pl_al P h) (pl_n P) &&& gth P g)
theorem p_limits (h : XIv P tx n g kp lk tl rw N v W S R r dy σ) : ∃ σ', (XI P tx n g kp lk 2 (rw2 (-(lmt P g (1 - gtn g) : Int)) (lmt P g (gtn g))) N r dy σ' ∧ CF r σ r σ') ∧ aa_SX mX11_limits 100 [.ref 0] σ (some (.int (nI (decide (-(lmt P g (1 - gtn g) : Int) = lmt P g (gtn g))).toNat))) σ' := by
  have t1 : gtn g ≤ 1 := by unfold gtn; omega
  have hn := h.X.n14
  have p14 := pw14 hn
  have gl := gth_lt P g
  have al : ∀ t, gst g &&& pl_al P t < 16384 := fun t => Nat.lt_of_le_of_lt Nat.and_le_right (Nat.lt_of_lt_of_le (pl_al_lt P t) p14)
  have ol : ∀ t, pl_orA (pl_cl P) (gst g &&& pl_al P t) (pl_n P) &&& gth P g < 2147483648 := fun t => Nat.lt_of_le_of_lt Nat.and_le_right (by omega)
  have w0 : lmt P g (gtn g) ≤ 126 := pl_wo_le h.ok _
  have w1 : lmt P g (1 - gtn g) ≤ 126 := pl_wo_le h.ok _
  obtain ⟨h2, f2⟩ := h.tell2 (-(lmt P g (1 - gtn g) : Int)) (lmt P g (gtn g))
  have a0 := al (gtn g)
  have a1 := al (1 - gtn g)
  refine ⟨_, ⟨h2.to, f2⟩, ?_⟩
  refine aa_E_of (by decide) 3 [some (.ref 0), none, none, none] rfl rfl ?_
  refine aa_go (aa_aload0 iX11_limits_0) (aa_go (aa_getR iX11_limits_1 fl_X11_28 (sh_0 h.1) rfl) (aa_go (aa_cVi iX11_limits_4 (c_X2_turn h.1 h.G) (by decide) lc_X2_turn lk_X11_191 (sh_20 h.1) rfl rfl (Nat.le_of_ble_eq_true rfl)) (aa_go (aa_istore1 iX11_limits_7 rfl (by decide)) (aa_go (aa_aload0 iX11_limits_8) (aa_go (aa_getR iX11_limits_9 fl_X11_19 (sh_0 h.1) rfl) (aa_go (aa_aload0 iX11_limits_12) (aa_go (aa_getR iX11_limits_13 fl_X11_19 (sh_0 h.1) rfl) ?_)))))))
  refine aa_go (aa_aload0 iX11_limits_16) (aa_go (aa_getR iX11_limits_17 fl_X11_19 (sh_0 h.1) rfl) (aa_go (aa_aload0 iX11_limits_20) (aa_go (aa_getR iX11_limits_21 fl_X11_28 (sh_0 h.1) rfl) (aa_go (aa_cVi iX11_limits_24 (c_X2_state h.1 h.G) (by decide) lc_X2_state lk_X11_140 (sh_20 h.1) rfl rfl (Nat.le_of_ble_eq_true rfl)) (aa_go (aa_iload1 iX11_limits_27) (aa_go (aa_cVi iX11_limits_28 (c_X6_takes h.1 h.X (s := gst g) (h := gtn g) (by omega)) (by decide) lc_X6_takes lk_X11_260 (sh_7 h.1) rfl rfl (Nat.le_of_ble_eq_true rfl)) (aa_go (aa_aload0 iX11_limits_31) ?_)))))))
  refine aa_go (aa_getR iX11_limits_32 fl_X11_28 (sh_0 h.1) rfl) (aa_go (aa_cVi iX11_limits_35 (c_X2_there h.1 h.X h.G) (by decide) lc_X2_there lk_X11_278 (sh_20 h.1) rfl rfl (Nat.le_of_ble_eq_true rfl)) (aa_go (aa_cVi iX11_limits_38 (c_X6_withAbove h.1 h.X (s := gst g &&& pl_al P (gtn g)) (t := gth P g) (by omega)) (by decide) lc_X6_withAbove lk_X11_316 (sh_7 h.1) rfl rfl (Nat.le_of_ble_eq_true rfl)) (aa_go (aa_cVi iX11_limits_41 (c_X6_worthOf h.1 h.X (ol (gtn g))) (by decide) lc_X6_worthOf lk_X11_171 (sh_7 h.1) rfl rfl (Nat.le_of_ble_eq_true rfl)) ?_)))
  refine aa_go (aa_top (y := nI (lmt P g (gtn g))) (rfl)) ?_
  refine aa_go (aa_istore2 iX11_limits_44 rfl (by decide)) (aa_go (aa_aload0 iX11_limits_45) (aa_go (aa_getR iX11_limits_46 fl_X11_19 (sh_0 h.1) rfl) (aa_go (aa_aload0 iX11_limits_49) (aa_go (aa_getR iX11_limits_50 fl_X11_19 (sh_0 h.1) rfl) (aa_go (aa_aload0 iX11_limits_53) (aa_go (aa_getR iX11_limits_54 fl_X11_19 (sh_0 h.1) rfl) (aa_go (aa_aload0 iX11_limits_57) ?_)))))))
  refine aa_go (aa_getR iX11_limits_58 fl_X11_28 (sh_0 h.1) rfl) (aa_go (aa_cVi iX11_limits_61 (c_X2_state h.1 h.G) (by decide) lc_X2_state lk_X11_140 (sh_20 h.1) rfl rfl (Nat.le_of_ble_eq_true rfl)) (aa_go (aa_iconst iX11_limits_64 ki_1) (aa_go (aa_iload1 iX11_limits_65) (aa_go (aa_isubN iX11_limits_66 (show g.1 % 2 ≤ 1 by omega)) (aa_go (aa_cVi iX11_limits_67 (c_X6_takes h.1 h.X (s := gst g) (h := 1 - gtn g) (by omega)) (by decide) lc_X6_takes lk_X11_260 (sh_7 h.1) rfl rfl (Nat.le_of_ble_eq_true rfl)) (aa_go (aa_aload0 iX11_limits_70) (aa_go (aa_getR iX11_limits_71 fl_X11_28 (sh_0 h.1) rfl) ?_)))))))
  refine aa_go (aa_cVi iX11_limits_74 (c_X2_there h.1 h.X h.G) (by decide) lc_X2_there lk_X11_278 (sh_20 h.1) rfl rfl (Nat.le_of_ble_eq_true rfl)) (aa_go (aa_cVi iX11_limits_77 (c_X6_withAbove h.1 h.X (s := gst g &&& pl_al P (1 - gtn g)) (t := gth P g) (by omega)) (by decide) lc_X6_withAbove lk_X11_316 (sh_7 h.1) rfl rfl (Nat.le_of_ble_eq_true rfl)) (aa_go (aa_cVi iX11_limits_80 (c_X6_worthOf h.1 h.X (ol (1 - gtn g))) (by decide) lc_X6_worthOf lk_X11_171 (sh_7 h.1) rfl rfl (Nat.le_of_ble_eq_true rfl)) ?_))
  refine aa_go (aa_top (y := nI (lmt P g (1 - gtn g))) (rfl)) ?_
  refine aa_go (aa_istore3 iX11_limits_83 rfl (by decide)) (aa_go (aa_aload0 iX11_limits_84) (aa_go (aa_iload3 iX11_limits_85) (aa_go (aa_ineg iX11_limits_86) ?_)))
  refine aa_go (aa_top (y := iZ (-(lmt P g (1 - gtn g) : Int))) (by rw [iZ_N]; exact (Int32.ofInt_neg _).symm)) ?_
  refine aa_go (aa_i2l iX11_limits_87) ?_
  refine aa_go (aa_topl (y := lZ (-(lmt P g (1 - gtn g) : Int))) (iZ_l (by omega) (by omega))) ?_
  refine aa_go (aa_iload2 iX11_limits_88) (aa_go (aa_i2lN iX11_limits_89 (by omega)) (aa_go (aa_cVv iX11_limits_90 (c_tell2 h.1 _ _) (by decide) lc_X11_tell_ lk_X11_207 (sh_0 h.1) rfl rfl (Nat.le_of_ble_eq_true rfl)) (aa_go (aa_iload3 iX11_limits_93) (aa_go (aa_ineg iX11_limits_94) ?_))))
  refine aa_go (aa_top (y := iZ (-(lmt P g (1 - gtn g) : Int))) (by rw [iZ_N]; exact (Int32.ofInt_neg _).symm)) ?_
  refine aa_go (aa_iload2 iX11_limits_95) ?_
  refine aa_ic_ne iX11_limits_96 (fun g1 => ?_) (fun g1 => ?_)
  · skip
    refine aa_go (aa_iconst iX11_limits_103 ki_0) ?_
    refine aa_iret iX11_limits_104 rfl ?_
    rw [iZ_N, iZ_eq (by omega) (by omega) (by omega) (by omega)] at g1
    exact ⟨by rw [decide_eq_false g1]; rfl, rfl⟩
  · skip
    refine aa_go (aa_iconst iX11_limits_99 ki_1) (aa_go (aa_goto iX11_limits_100) ?_)
    refine aa_iret iX11_limits_104 rfl ?_
    rw [iZ_N, iZ_eq (by omega) (by omega) (by omega) (by omega)] at g1
    exact ⟨by rw [decide_eq_true g1]; rfl, rfl⟩
def chR1 (P : pl_T) (g : gm_T) : Int32 × Nat × (Nat → Int) → Prop := fun x => (∃ c, fw1 P (gth P g) (gen g) (gtn g) = some c ∧ x = (nI 1, 1, rw1 (nmC (gth P g) c))) ∨ (fw1 P (gth P g) (gen g) (gtn g) = none ∧ ∃ c d, fw2 P (gth P g) (gen g) (gtn g) = some (c, d) ∧ x = (nI 2, 2, rw2 (nmC (gth P g) c) (nmC (gth P g) d)))
theorem p_change (h : XIv P tx n g kp lk tl rw N v W S R r dy σ) (hN : N < 1000000) (hc : ¬ (8 < pl_cn (gth P g) 14 ∨ 0 < pl_b P)) : ∃ (ra : Int32) (r' : Nat → Nat) (dy' : List aa_Shp) (σ' : aa_St), ((∃ tl' rw', chR1 P g (ra, tl', rw') ∧ XI P tx n g kp lk tl' rw' (N + 1) r' dy' σ' ∧ CF r σ r' σ') ∨ (fw1 P (gth P g) (gen g) (gtn g) = none ∧ fw2 P (gth P g) (gen g) (gtn g) = none ∧ ra = -2 ∧ XI P tx n g kp lk tl rw (N + 1) r' dy' σ' ∧ CF r σ r' σ')) ∧ aa_SX mX11_change 100 [.ref 0] σ (some (.int ra)) σ' := by
  have t1 : gtn g ≤ 1 := by unfold gtn; omega
  have rN := h.2.2.2.2.2.2.2.2.2.2.1
  have hn := h.X.n14
  have p14 := pw14 hn
  have gl := gth_lt P g
  obtain ⟨r1, dy1, σ1, R1, ⟨hG1, hL1, hR1⟩, hS1⟩ := c_X0_look h.1 h.X (by omega) h.V h.M.2.2.2.2.2.2.1 (by omega) gl (by omega) t1 h.e1
  obtain ⟨ra, σ2, ⟨hF2, hL2, hW2⟩, hS2⟩ := c_X0_fewest h.1 h.ok (by omega) (by omega) h.e1 t1 hS1 hL1
  have hG2 : GX [49, 51, 52, 53, 54, r 6] [6] v r dy σ r1 dy1 σ2 := by
    have hA := GX.A (v := v) hG1.W hF2 (by have := hL1.1; refine ⟨?_, ?_, ?_, ?_, ?_⟩ <;> simp <;> omega)
    obtain ⟨a0, a1, a2, a3, a4, a5, a6, a7, a8⟩ := hG1
    obtain ⟨b0, b1, b2, b3, b4, b5, b6, b7, b8⟩ := hA
    refine ⟨b0, a1, a2, a3, a4, a5, fun x hx hxa => ?_, fun x hx hxj => ?_, ⟨Nat.le_trans b8.1 a8.1, Nat.le_trans b8.2 a8.2⟩⟩
    · rw [b6 x (by omega) (fun c => hxa ?_), a6 x hx hxa]
      simp at c ⊢
      rcases c with c | c
      · exact Or.inl c
      · rcases a4 6 with e | e
        · right; right; right; right; right; rw [c, e]
        · omega
    · rw [b7 x (by omega) (fun j hj => absurd hj List.not_mem_nil), a7 x hx hxj]
  obtain ⟨h2, f2⟩ := h.M6 hG2 (hL2.S6 (by omega) h.e1) hL2.2.2.2.1 hR1
  have key : aa_V mX11_change 100 0 [some (.ref 0), none] [] σ (fun ra σ' => ∃ z, ra = some (.int z) ∧ ((∃ tl' rw', chR1 P g (z, tl', rw') ∧ XI P tx n g kp lk tl' rw' (N + 1) r1 dy1 σ' ∧ CF r σ r1 σ') ∨ (fw1 P (gth P g) (gen g) (gtn g) = none ∧ fw2 P (gth P g) (gen g) (gtn g) = none ∧ z = -2 ∧ XI P tx n g kp lk tl rw (N + 1) r1 dy1 σ' ∧ CF r σ r1 σ'))) := by
    rcases hW2 with ⟨c, e1, e2, e3⟩ | ⟨e0, c, d, e1, e2, e3, e4⟩ | ⟨e0, e1, e2⟩
    · subst e2
      have nc := nmC_le (gth P g) c
      obtain ⟨h3, f3⟩ := h2.tell (nmC (gth P g) c)
      refine aa_go (aa_aload0 iX11_change_0) (aa_go (aa_bipush iX11_change_1 kb_8) (aa_go (aa_cVi iX11_change_3 (c_isTooMuch h (by omega)) (by decide) lc_X11_isTooMuch lk_X11_319 (sh_0 h.1) rfl rfl (Nat.le_of_ble_eq_true rfl)) ?_))
      refine aa_if_eqB iX11_change_6 (fun g1 => ?_) (fun g1 => ?_)
      · skip
        refine aa_go (aa_aload0 iX11_change_12) (aa_go (aa_getR iX11_change_13 fl_X11_85 (sh_0 h.1) rfl) (aa_go (aa_aload0 iX11_change_16) (aa_go (aa_getR iX11_change_17 fl_X11_28 (sh_0 h.1) rfl) (aa_go (aa_cVi iX11_change_20 (c_X2_there h.1 h.X h.G) (by decide) lc_X2_there lk_X11_278 (sh_20 h.1) rfl rfl (Nat.le_of_ble_eq_true rfl)) (aa_go (aa_aload0 iX11_change_23) (aa_go (aa_getR iX11_change_24 fl_X11_28 (sh_0 h.1) rfl) (aa_go (aa_cVi iX11_change_27 (c_X2_turn h.1 h.G) (by decide) lc_X2_turn lk_X11_191 (sh_20 h.1) rfl rfl (Nat.le_of_ble_eq_true rfl)) ?_)))))))
        refine aa_go (aa_aload0 iX11_change_30) (aa_go (aa_getR iX11_change_31 fl_X11_28 (sh_0 h.1) rfl) (aa_go (aa_cVi iX11_change_34 (c_X2_ending h.1 h.G) (by decide) lc_X2_ending lk_X11_144 (sh_20 h.1) rfl rfl (Nat.le_of_ble_eq_true rfl)) (aa_go (aa_cVi iX11_change_37 (hS2) (by decide) lc_X0_fewest lk_X11_352 (sh_49 h.1) rfl rfl (Nat.le_of_ble_eq_true rfl)) ?_)))
        refine aa_go (aa_istore1 iX11_change_40 rfl (by decide)) (aa_go (aa_iload1 iX11_change_41) (aa_go (aa_iconst iX11_change_42 ki_1) ?_))
        refine aa_ic_neN iX11_change_43 (by omega) (by omega) (fun g2 => ?_) (fun g2 => ?_)
        · skip
          omega
        · skip
          refine aa_go (aa_aload0 iX11_change_46) (aa_go (aa_aload0 iX11_change_47) (aa_go (aa_getR iX11_change_48 fl_X11_85 (sh_0 h2.1) rfl) (aa_go (aa_cVi iX11_change_51 (c_X0_firstChange h2.1 e3) (by decide) lc_X0_firstChange lk_X11_355 (sh_49 h2.1) rfl rfl (Nat.le_of_ble_eq_true rfl)) (aa_go (aa_i2lN iX11_change_54 (by omega)) (aa_go (aa_cVv iX11_change_55 (c_tell h2.1 _) (by decide) lc_X11_tell lk_X11_224 (sh_0 h2.1) rfl rfl (Nat.le_of_ble_eq_true rfl)) (aa_go (aa_goto iX11_change_58) (aa_go (aa_iload1 iX11_change_86) ?_)))))))
          refine aa_iret iX11_change_87 rfl ?_
          exact ⟨_, rfl, Or.inl ⟨1, _, Or.inl ⟨c, e1, rfl⟩, h3.to, f2.tr f3⟩⟩
      · skip
        exact absurd (of_decide_eq_true g1) hc
    · subst e2
      have nc := nmC_le (gth P g) c
      have nd := nmC_le (gth P g) d
      obtain ⟨h3, f3⟩ := h2.tell2 (nmC (gth P g) c) (nmC (gth P g) d)
      refine aa_go (aa_aload0 iX11_change_0) (aa_go (aa_bipush iX11_change_1 kb_8) (aa_go (aa_cVi iX11_change_3 (c_isTooMuch h (by omega)) (by decide) lc_X11_isTooMuch lk_X11_319 (sh_0 h.1) rfl rfl (Nat.le_of_ble_eq_true rfl)) ?_))
      refine aa_if_eqB iX11_change_6 (fun g1 => ?_) (fun g1 => ?_)
      · skip
        refine aa_go (aa_aload0 iX11_change_12) (aa_go (aa_getR iX11_change_13 fl_X11_85 (sh_0 h.1) rfl) (aa_go (aa_aload0 iX11_change_16) (aa_go (aa_getR iX11_change_17 fl_X11_28 (sh_0 h.1) rfl) (aa_go (aa_cVi iX11_change_20 (c_X2_there h.1 h.X h.G) (by decide) lc_X2_there lk_X11_278 (sh_20 h.1) rfl rfl (Nat.le_of_ble_eq_true rfl)) (aa_go (aa_aload0 iX11_change_23) (aa_go (aa_getR iX11_change_24 fl_X11_28 (sh_0 h.1) rfl) (aa_go (aa_cVi iX11_change_27 (c_X2_turn h.1 h.G) (by decide) lc_X2_turn lk_X11_191 (sh_20 h.1) rfl rfl (Nat.le_of_ble_eq_true rfl)) ?_)))))))
        refine aa_go (aa_aload0 iX11_change_30) (aa_go (aa_getR iX11_change_31 fl_X11_28 (sh_0 h.1) rfl) (aa_go (aa_cVi iX11_change_34 (c_X2_ending h.1 h.G) (by decide) lc_X2_ending lk_X11_144 (sh_20 h.1) rfl rfl (Nat.le_of_ble_eq_true rfl)) (aa_go (aa_cVi iX11_change_37 (hS2) (by decide) lc_X0_fewest lk_X11_352 (sh_49 h.1) rfl rfl (Nat.le_of_ble_eq_true rfl)) ?_)))
        refine aa_go (aa_istore1 iX11_change_40 rfl (by decide)) (aa_go (aa_iload1 iX11_change_41) (aa_go (aa_iconst iX11_change_42 ki_1) ?_))
        refine aa_ic_neN iX11_change_43 (by omega) (by omega) (fun g2 => ?_) (fun g2 => ?_)
        · skip
          refine aa_go (aa_iload1 iX11_change_61) (aa_go (aa_iconst iX11_change_62 ki_2) ?_)
          refine aa_ic_neN iX11_change_63 (by omega) (by omega) (fun g3 => ?_) (fun g3 => ?_)
          · skip
            omega
          · skip
            refine aa_go (aa_aload0 iX11_change_66) (aa_go (aa_aload0 iX11_change_67) (aa_go (aa_getR iX11_change_68 fl_X11_85 (sh_0 h2.1) rfl) (aa_go (aa_cVi iX11_change_71 (c_X0_firstChange h2.1 e3) (by decide) lc_X0_firstChange lk_X11_355 (sh_49 h2.1) rfl rfl (Nat.le_of_ble_eq_true rfl)) (aa_go (aa_i2lN iX11_change_74 (by omega)) (aa_go (aa_aload0 iX11_change_75) (aa_go (aa_getR iX11_change_76 fl_X11_85 (sh_0 h2.1) rfl) (aa_go (aa_cVi iX11_change_79 (c_X0_secondChange h2.1 e4) (by decide) lc_X0_secondChange lk_X11_358 (sh_49 h2.1) rfl rfl (Nat.le_of_ble_eq_true rfl)) ?_)))))))
            refine aa_go (aa_i2lN iX11_change_82 (by omega)) (aa_go (aa_cVv iX11_change_83 (c_tell2 h2.1 _ _) (by decide) lc_X11_tell_ lk_X11_207 (sh_0 h2.1) rfl rfl (Nat.le_of_ble_eq_true rfl)) (aa_go (aa_iload1 iX11_change_86) ?_))
            refine aa_iret iX11_change_87 rfl ?_
            exact ⟨_, rfl, Or.inl ⟨2, _, Or.inr ⟨e0, c, d, e1, rfl⟩, h3.to, f2.tr f3⟩⟩
        · skip
          omega
      · skip
        exact absurd (of_decide_eq_true g1) hc
    · subst e2
      refine aa_go (aa_aload0 iX11_change_0) (aa_go (aa_bipush iX11_change_1 kb_8) (aa_go (aa_cVi iX11_change_3 (c_isTooMuch h (by omega)) (by decide) lc_X11_isTooMuch lk_X11_319 (sh_0 h.1) rfl rfl (Nat.le_of_ble_eq_true rfl)) ?_))
      refine aa_if_eqB iX11_change_6 (fun g1 => ?_) (fun g1 => ?_)
      · skip
        refine aa_go (aa_aload0 iX11_change_12) (aa_go (aa_getR iX11_change_13 fl_X11_85 (sh_0 h.1) rfl) (aa_go (aa_aload0 iX11_change_16) (aa_go (aa_getR iX11_change_17 fl_X11_28 (sh_0 h.1) rfl) (aa_go (aa_cVi iX11_change_20 (c_X2_there h.1 h.X h.G) (by decide) lc_X2_there lk_X11_278 (sh_20 h.1) rfl rfl (Nat.le_of_ble_eq_true rfl)) (aa_go (aa_aload0 iX11_change_23) (aa_go (aa_getR iX11_change_24 fl_X11_28 (sh_0 h.1) rfl) (aa_go (aa_cVi iX11_change_27 (c_X2_turn h.1 h.G) (by decide) lc_X2_turn lk_X11_191 (sh_20 h.1) rfl rfl (Nat.le_of_ble_eq_true rfl)) ?_)))))))
        refine aa_go (aa_aload0 iX11_change_30) (aa_go (aa_getR iX11_change_31 fl_X11_28 (sh_0 h.1) rfl) (aa_go (aa_cVi iX11_change_34 (c_X2_ending h.1 h.G) (by decide) lc_X2_ending lk_X11_144 (sh_20 h.1) rfl rfl (Nat.le_of_ble_eq_true rfl)) (aa_go (aa_cVi iX11_change_37 (hS2) (by decide) lc_X0_fewest lk_X11_352 (sh_49 h.1) rfl rfl (Nat.le_of_ble_eq_true rfl)) ?_)))
        refine aa_go (aa_istore1 iX11_change_40 rfl (by decide)) (aa_go (aa_iload1 iX11_change_41) (aa_go (aa_iconst iX11_change_42 ki_1) ?_))
        refine aa_ic_ne iX11_change_43 (fun g2 => ?_) (fun g2 => ?_)
        · skip
          refine aa_go (aa_iload1 iX11_change_61) (aa_go (aa_iconst iX11_change_62 ki_2) ?_)
          refine aa_ic_ne iX11_change_63 (fun g3 => ?_) (fun g3 => ?_)
          · skip
            refine aa_go (aa_iload1 iX11_change_86) ?_
            refine aa_iret iX11_change_87 rfl ?_
            exact ⟨_, rfl, Or.inr ⟨e0, e1, rfl, h2.to, f2⟩⟩
          · skip
            exact absurd g3 (by decide)
        · skip
          exact absurd g2 (by decide)
      · skip
        exact absurd (of_decide_eq_true g1) hc
  obtain ⟨ra, σ', ⟨z, rfl, h1⟩, hS9⟩ := aa_S_of (avs := [.ref 0]) (by decide) 1 [some (.ref 0), none] rfl rfl key
  exact ⟨z, r1, dy1, σ', h1, hS9⟩
theorem p_changeT (h : XIv P tx n g kp lk tl rw N v W S R r dy σ) (hc : 8 < pl_cn (gth P g) 14 ∨ 0 < pl_b P) : aa_SX mX11_change 100 [.ref 0] σ (some (.int (-3))) σ := by
  refine aa_E_of (by decide) 1 [some (.ref 0), none] rfl rfl ?_
  refine aa_go (aa_aload0 iX11_change_0) (aa_go (aa_bipush iX11_change_1 kb_8) (aa_go (aa_cVi iX11_change_3 (c_isTooMuch h (by omega)) (by decide) lc_X11_isTooMuch lk_X11_319 (sh_0 h.1) rfl rfl (Nat.le_of_ble_eq_true rfl)) ?_))
  refine aa_if_eqB iX11_change_6 (fun g1 => ?_) (fun g1 => ?_)
  · skip
    exact absurd hc (of_decide_eq_false g1)
  · skip
    refine aa_go (aa_bipush iX11_change_9 kb_m3) ?_
    refine aa_iret iX11_change_11 rfl ?_
    exact ⟨rfl, rfl⟩
end
