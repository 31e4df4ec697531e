/-! PUBLIC METHODS: single -/
section
variable {v W S R : Nat} {r : Nat → Nat} {dy : List aa_Shp} {σ σ' : aa_St} {P P' : pl_T} {tx tx' : Nat → Nat} {n n' : Nat} {g g' : gm_T} {kp kp' : Nat → Option gm_T} {lk lk' tl tl' : Nat} {rw rw' : Nat → Int} {N : Nat}
theorem tbC_lt (T e t : Nat) : ∀ k, tbC P T e t k < 2 ^ 35
  | 0 => Nat.two_pow_pos 35
  | k + 1 => by
    have ih := tbC_lt T e t k
    have := nmC_le T k
    rw [tbC]
    split
    · exact bb_or ih (shl_lt (wc := 1) (by decide) (by omega))
    · exact ih
def sgT (P : pl_T) (g : gm_T) : Nat := tbC P (gth P g) (gen g) (gtn g) (kdC (gth P g))
theorem p_single (h : XIv P tx n g kp lk tl rw N v W S R r dy σ) (hN : N < 1000000) (hc : ¬ (8 < pl_cn (gth P g) 14 ∨ 0 < pl_b P)) : ∃ r' dy' σ', (XI P tx n g kp lk 3 (rw3 ((sgT P g &&& (2 ^ pl_n P - 1) : Nat)) ((sgT P g >>> 20 &&& (2 ^ pl_n P - 1) : Nat)) ((sgT P g >>> 34 &&& 1 : Nat))) (N + 1) r' dy' σ' ∧ CF r σ r' σ') ∧ aa_SX mX11_single 100 [.ref 0] σ (some (.int (nI (pl_cn (sgT P g) 64)))) σ' := by
  have t1 : gtn g ≤ 1 := by unfold gtn; omega
  have rN := h.2.2.2.2.2.2.2.2.2.2.1
  have hn := h.X.n14
  have p14 := pw14 hn
  have gl := gth_lt P g
  obtain ⟨r1, dy1, σ1, R1, ⟨hG1, hL1, hR1⟩, hS1⟩ := c_X0_look h.1 h.X (by omega) h.V h.M.2.2.2.2.2.2.1 (by omega) gl (by omega) t1 h.e1
  obtain ⟨σ2, ⟨hF2, hL2⟩, hS2⟩ := c_X0_turning h.1 h.ok (by omega) (by omega) h.e1 t1 hS1 hL1
  have hG2 : GX [49, 51, 52, 53, 54, r 6] [6] v r dy σ r1 dy1 σ2 := by
    have hA := GX.A (A := [r1 6]) (v := v) hG1.W (hF2.A (by simp)) (by have := hL1.1; refine ⟨?_, ?_, ?_, ?_, ?_⟩ <;> simp <;> omega)
    obtain ⟨a0, a1, a2, a3, a4, a5, a6, a7, a8⟩ := hG1
    obtain ⟨b0, b1, b2, b3, b4, b5, b6, b7, b8⟩ := hA
    refine ⟨b0, a1, a2, a3, a4, a5, fun x hx hxa => ?_, fun x hx hxj => ?_, ⟨Nat.le_trans b8.1 a8.1, Nat.le_trans b8.2 a8.2⟩⟩
    · rw [b6 x (by omega) (fun c => hxa ?_), a6 x hx hxa]
      simp at c ⊢
      rcases a4 6 with e | e
      · right; right; right; right; right; rw [c, e]
      · omega
    · rw [b7 x (by omega) (fun j hj => absurd hj List.not_mem_nil), a7 x hx hxj]
  obtain ⟨h2, f2⟩ := h.M6 hG2 (hL2.S6 (by omega) h.e1) hL2.2.2.2.1 hR1
  have tb : sgT P g < 2 ^ 35 := tbC_lt _ _ _ _
  have hNB : NB 3 (rw3 ((sgT P g &&& (2 ^ pl_n P - 1) : Nat)) ((sgT P g >>> 20 &&& (2 ^ pl_n P - 1) : Nat)) ((sgT P g >>> 34 &&& 1 : Nat))) (aa_sI (aa_sL (aa_sI (aa_sL (aa_sL σ2 56 0 (lN (sgT P g &&& (2 ^ pl_n P - 1)))) 56 1 (lN (sgT P g >>> 20 &&& (2 ^ pl_n P - 1)))) 0 13 (nI 2)) 56 2 (lN (sgT P g >>> 34 &&& 1))) 0 13 (nI 3)) := by
    refine ⟨sI_eq, by omega, fun i hi => ?_⟩
    show (aa_sL (aa_sL (aa_sL σ2 56 0 (lN (sgT P g &&& (2 ^ pl_n P - 1)))) 56 1 (lN (sgT P g >>> 20 &&& (2 ^ pl_n P - 1)))) 56 2 (lN (sgT P g >>> 34 &&& 1))).2.1 56 i = _
    rw [sL_at, sL_at, sL_at]
    rcases (show i = 0 ∨ i = 1 ∨ i = 2 by omega) with rfl | rfl | rfl <;> rfl
  obtain ⟨h4, f4⟩ := h2.num (((((FrN.rf.l _ _).l _ _).s _ _).l _ _).s _ _) hNB
  refine ⟨r1, dy1, _, ⟨h4.to, f2.tr f4⟩, ?_⟩
  refine aa_E_of (by decide) 2 [some (.ref 0), none, none] rfl rfl ?_
  refine aa_go (aa_aload0 iX11_single_0) (aa_go (aa_bipush iX11_single_1 kb_8) (aa_go (aa_cVi iX11_single_3 (c_isTooMuch h (by omega)) (by decide) lc_X11_isTooMuch lk_X11_319 (sh_0 h.1) rfl rfl (Nat.le_of_ble_eq_true rfl)) ?_))
  refine aa_if_eqB iX11_single_6 (fun g1 => ?_) (fun g1 => ?_)
  · skip
    refine aa_go (aa_aload0 iX11_single_12) (aa_go (aa_getR iX11_single_13 fl_X11_85 (sh_0 h.1) rfl) (aa_go (aa_aload0 iX11_single_16) (aa_go (aa_getR iX11_single_17 fl_X11_28 (sh_0 h.1) rfl) (aa_go (aa_cVi iX11_single_20 (c_X2_there h.1 h.X h.G) (by decide) lc_X2_there lk_X11_278 (sh_20 h.1) rfl rfl (Nat.le_of_ble_eq_true rfl)) (aa_go (aa_aload0 iX11_single_23) (aa_go (aa_getR iX11_single_24 fl_X11_28 (sh_0 h.1) rfl) (aa_go (aa_cVi iX11_single_27 (c_X2_turn h.1 h.G) (by decide) lc_X2_turn lk_X11_191 (sh_20 h.1) rfl rfl (Nat.le_of_ble_eq_true rfl)) ?_)))))))
    refine aa_go (aa_aload0 iX11_single_30) (aa_go (aa_getR iX11_single_31 fl_X11_28 (sh_0 h.1) rfl) (aa_go (aa_cVi iX11_single_34 (c_X2_ending h.1 h.G) (by decide) lc_X2_ending lk_X11_144 (sh_20 h.1) rfl rfl (Nat.le_of_ble_eq_true rfl)) (aa_go (aa_cVl iX11_single_37 (hS2) (by decide) lc_X0_turning lk_X11_361 (sh_49 h.1) rfl rfl (Nat.le_of_ble_eq_true rfl)) ?_)))
    refine aa_go (aa_topl (y := lN (sgT P g)) (rfl)) ?_
    refine aa_go (aa_lstore1 iX11_single_40 rfl (by decide)) (aa_go (aa_aload0 iX11_single_41) (aa_go (aa_lload1 iX11_single_42) (aa_go (aa_aload0 iX11_single_43) (aa_go (aa_getR iX11_single_44 fl_X11_19 (sh_0 h2.1) rfl) (aa_go (aa_cVi iX11_single_47 (c_X6_full h2.1 h2.X) (by decide) lc_X6_full lk_X11_168 (sh_7 h2.1) rfl rfl (Nat.le_of_ble_eq_true rfl)) (aa_go (aa_i2lN iX11_single_50 (by omega)) (aa_go (aa_landN iX11_single_51 ) ?_)))))))
    refine aa_go (aa_lload1 iX11_single_52) (aa_go (aa_bipush iX11_single_53 kb_20) (aa_go (aa_lshrN iX11_single_55 (by omega) (by omega)) (aa_go (aa_aload0 iX11_single_56) (aa_go (aa_getR iX11_single_57 fl_X11_19 (sh_0 h2.1) rfl) (aa_go (aa_cVi iX11_single_60 (c_X6_full h2.1 h2.X) (by decide) lc_X6_full lk_X11_168 (sh_7 h2.1) rfl rfl (Nat.le_of_ble_eq_true rfl)) (aa_go (aa_i2lN iX11_single_63 (by omega)) (aa_go (aa_landN iX11_single_64 ) ?_)))))))
    refine aa_go (aa_cVv iX11_single_65 (c_tell2 h2.1 _ _) (by decide) lc_X11_tell_ lk_X11_207 (sh_0 h2.1) rfl rfl (Nat.le_of_ble_eq_true rfl)) (aa_go (aa_aload0 iX11_single_68) (aa_go (aa_getR iX11_single_69 fl_X11_89 (sh_0 h2.1) rfl) (aa_go (aa_iconst iX11_single_72 ki_2) (aa_go (aa_lload1 iX11_single_73) (aa_go (aa_bipush iX11_single_74 kb_34) (aa_go (aa_lshrN iX11_single_76 (by omega) (by omega)) (aa_go (aa_lconst iX11_single_77 kl_1) ?_)))))))
    refine aa_go (aa_landN iX11_single_78 ) (aa_go (aa_lasN iX11_single_79 (sh_56 h2.1) (by omega) (by omega)) (aa_go (aa_aload0 iX11_single_80) (aa_go (aa_iconst iX11_single_81 ki_3) (aa_go (aa_putI iX11_single_82 fl_X11_93 (fun h => nomatch h) (sh_0 h2.1) rfl ⟨rfl, rfl⟩) (aa_go (aa_lload1 iX11_single_85) (aa_go (aa_cSi iX11_single_86 (c_bitCountL (by omega)) (by decide) lc_J13_bitCount_95d88 lk_X11_364 rfl (Nat.le_of_ble_eq_true rfl)) ?_))))))
    refine aa_iret iX11_single_89 rfl ?_
    exact ⟨rfl, rfl⟩
  · skip
    exact absurd (of_decide_eq_true g1) hc
theorem p_singleT (h : XIv P tx n g kp lk tl rw N v W S R r dy σ) (hc : 8 < pl_cn (gth P g) 14 ∨ 0 < pl_b P) : aa_SX mX11_single 100 [.ref 0] σ (some (.int (-3))) σ := by
  refine aa_E_of (by decide) 2 [some (.ref 0), none, none] rfl rfl ?_
  refine aa_go (aa_aload0 iX11_single_0) (aa_go (aa_bipush iX11_single_1 kb_8) (aa_go (aa_cVi iX11_single_3 (c_isTooMuch h (by omega)) (by decide) lc_X11_isTooMuch lk_X11_319 (sh_0 h.1) rfl rfl (Nat.le_of_ble_eq_true rfl)) ?_))
  refine aa_if_eqB iX11_single_6 (fun g1 => ?_) (fun g1 => ?_)
  · skip
    exact absurd hc (of_decide_eq_false g1)
  · skip
    refine aa_go (aa_bipush iX11_single_9 kb_m3) ?_
    refine aa_iret iX11_single_11 rfl ?_
    exact ⟨rfl, rfl⟩
end
