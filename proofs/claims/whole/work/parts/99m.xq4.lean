/-! THE REFERENCE, PUBLIC METHODS: kept games, what was taken -/
def KG (P : pl_T) (kp : Nat → Option gm_T) : Prop := ∀ j, j < 3 → ∀ g, kp j = some g → GG P g
section
variable {P P' : pl_T} {tx tx' : Nat → Nat} {n n' : Nat} {g g' : gm_T} {kp kp' : Nat → Option gm_T} {lk lk' tl tl' : Nat} {rw rw' : Nat → Int} {Q Q' : Nat} {r : Nat → Nat} {dy : List aa_Shp} {σ σ' : aa_St}
theorem q_keep (h : MI P tx n g kp lk tl rw Q r dy σ) (hG : GG P g) (hKG : KG P kp) {i : Nat} (hi : i ≤ 2) : ∃ σ', MJ P tx n g (kup kp i g) lk tl rw Q r dy σ σ' ∧ aa_SX mX12_keep 100 [.ref 63, .int (nI i)] σ (some (.int (nI 1))) σ' := by
  have h1 := h.thr (nI 0)
  have g18 := hG.2.2
  have n14 := h.n14
  obtain ⟨b1, b2, b3, b4, b5⟩ := h.G
  -- the part of the kept row that is written so far
  have fin : ∀ σ1 : aa_St, (σ1.2 = σ.2 ∧ ∀ x, x ≠ 63 → x ≠ 83 → x ≠ 84 → x ≠ 85 → σ1.1 x = σ.1 x) → (∀ k, k ≠ 0 → σ1.1 63 k = σ.1 63 k) → σ1.1 83 = (aa_sI σ 83 i (nI 1)).1 83 → σ1.1 84 = (aa_sI σ 84 i (nI (pl_n P))).1 84 → MKg P i g σ1.1 → (∀ p, ¬ (52 * i ≤ p ∧ p < 52 * i + 52) → σ1.1 85 p = σ.1 85 p) → MJ P tx n g (kup kp i g) lk tl rw Q r dy σ σ1 := by
    intro σ1 ⟨e1, q⟩ qk k1 k2 k3 k4
    refine (h.upd e1 (fun k hk => qk k (by omega)) (fun x hx => q x (by omega) (by omega) (by omega) (by omega)) (h.X.fr (qk 17 (by decide)) (q 72 (by decide) (by decide) (by decide) (by decide))) (h.G.fr (fun k hk => qk k (by omega)) (q 70 (by decide) (by decide) (by decide) (by decide)) (q 71 (by decide) (by decide) (by decide) (by decide))) (fun j hj => ?_) (h.L.fr (q 80 (by decide) (by decide) (by decide) (by decide)))).J (by omega) ⟨by rw [e1], fun x hx => ⟨q x (by omega) (by omega) (by omega) (by omega), by rw [e1]⟩⟩
    by_cases c : j = i
    · subst c
      refine ⟨true, pl_n P, by rw [k1, sI_eq]; rfl, by rw [k2, sI_eq], Nat.le_refl _, ?_, fun g9 hg9 => ?_⟩
      · rw [kup, if_pos rfl, decide_eq_true rfl]; rfl
      · rw [kup, if_pos rfl] at hg9
        cases hg9
        exact k3
    · obtain ⟨b, t, a1, a2, a3, a4, a5⟩ := h.K j hj
      refine ⟨b, t, by rw [k1, sI_nk c]; exact a1, by rw [k2, sI_nk c]; exact a2, a3, by rw [kup, if_neg c]; exact a4, fun g9 hg9 => ?_⟩
      rw [kup, if_neg c] at hg9
      have o : ∀ p, p < 52 → σ1.1 85 (52 * j + p) = σ.1 85 (52 * j + p) := fun p hp => k4 _ (by omega)
      obtain ⟨x1, x2, x3, x4, x5⟩ := a5 g9 hg9
      refine ⟨?_, ?_, ?_, ?_, fun k hk => ?_⟩
      · have := o 0 (by omega)
        rw [Nat.add_zero] at this
        rw [this]; exact x1
      · rw [o 1 (by omega)]; exact x2
      · rw [o 2 (by omega)]; exact x3
      · rw [o 3 (by omega)]; exact x4
      · have g9b := (hKG j hj g9 hg9).2.2
        rw [show 52 * j + 4 + 2 * k = 52 * j + (4 + 2 * k) by omega, show 52 * j + 5 + 2 * k = 52 * j + (5 + 2 * k) by omega, o (4 + 2 * k) (by omega), o (5 + 2 * k) (by omega)]
        have := x5 k hk
        rw [show 52 * j + 4 + 2 * k = 52 * j + (4 + 2 * k) by omega, show 52 * j + 5 + 2 * k = 52 * j + (5 + 2 * k) by omega] at this
        exact this
  -- the loop
  have loop : ∀ f j (σ1 : aa_St), g.1 - j < f → j ≤ g.1 → σ1.2 = σ.2 → (∀ x, x ≠ 63 → x ≠ 83 → x ≠ 84 → x ≠ 85 → σ1.1 x = σ.1 x) → (∀ k, k ≠ 0 → σ1.1 63 k = σ.1 63 k) → σ1.1 83 = (aa_sI σ 83 i (nI 1)).1 83 → σ1.1 84 = (aa_sI σ 84 i (nI (pl_n P))).1 84 → (σ1.1 85 (52 * i) = nI (cv P (gst g)) ∧ σ1.1 85 (52 * i + 1) = nI (gtn g) ∧ σ1.1 85 (52 * i + 2) = nI (gen g) ∧ σ1.1 85 (52 * i + 3) = nI g.1) → (∀ k, k < j → σ1.1 85 (52 * i + 4 + 2 * k) = nI (pl_mo P (g.2.2.1 k)) ∧ σ1.1 85 (52 * i + 5 + 2 * k) = nI (cv P (g.2.1 k))) → (∀ p, ¬ (52 * i ≤ p ∧ p < 52 * i + 52) → σ1.1 85 p = σ.1 85 p) → aa_V mX12_keep 100 89 [some (.ref 63), some (.int (nI i)), some (.int (nI (52 * i))), some (.int (nI j))] [] σ1 (fun ra σ' => ra = some (.int (nI 1)) ∧ MJ P tx n g (kup kp i g) lk tl rw Q r dy σ σ') := by
    intro f
    induction f with
    | zero => intro j σ1 g1; omega
    | succ f ih =>
      intro j σ1 g1 g2 e1 q qk k1 k2 k3 k4 k5
      have hW1 : aa_W r dy σ1 := h.W.of2 (by rw [e1])
      have b4' : σ1.1 63 13 = nI g.1 := by rw [qk 13 (by decide)]; exact b4
      refine aa_go (aa_iload3 iX12_keep_89) (aa_go (aa_aload0 iX12_keep_90) (aa_go (aa_getE iX12_keep_91 fl_X12_105 (sh_63 hW1) rfl b4') ?_))
      refine aa_ic_geN iX12_keep_94 (by omega) (by omega) (fun g3 => ?_) (fun g3 => ?_)
      · skip
        have e : j = g.1 := by omega
        subst e
        refine aa_go (aa_iconst iX12_keep_139 ki_1) ?_
        refine aa_zretT iX12_keep_140 rfl ?_
        exact ⟨rfl, fin σ1 ⟨e1, q⟩ qk k1 k2 ⟨k3.1, k3.2.1, k3.2.2.1, k3.2.2.2, k4⟩ k5⟩
      · skip
        have m1 : σ1.1 70 j = nI (pl_mo P (g.2.2.1 j)) := by rw [q 70 (by decide) (by decide) (by decide) (by decide)]; exact (b5 j g3).1
        have m2 : (aa_sI σ1 85 (52 * i + 4 + 2 * j) (nI (pl_mo P (g.2.2.1 j)))).1 71 j = nI (cv P (g.2.1 j)) := by rw [sI_ne (by decide), q 71 (by decide) (by decide) (by decide) (by decide)]; exact (b5 j g3).2
        refine aa_go (aa_aload0 iX12_keep_97) (aa_go (aa_getR iX12_keep_98 fl_X12_361 (sh_63 hW1) rfl) (aa_go (aa_iload2 iX12_keep_101) (aa_go (aa_iconst iX12_keep_102 ki_4) (aa_go (aa_iaddN iX12_keep_103 ) (aa_go (aa_iconst iX12_keep_104 ki_2) (aa_go (aa_iload3 iX12_keep_105) (aa_go (aa_imulN iX12_keep_106 ) ?_)))))))
        refine aa_go (aa_iaddN iX12_keep_107 ) (aa_go (aa_aload0 iX12_keep_108) (aa_go (aa_getR iX12_keep_109 fl_X12_149 (sh_63 hW1) rfl) (aa_go (aa_iload3 iX12_keep_112) (aa_go (aa_ialE iX12_keep_113 (sh_70 hW1) (by omega) (by omega) (m1)) (aa_go (aa_iasN iX12_keep_114 (sh_85 hW1) (by omega) (by omega)) ?_)))))
        refine aa_go (aa_aload0 iX12_keep_115) (aa_go (aa_getR iX12_keep_116 fl_X12_361 (sh_63 hW1) rfl) (aa_go (aa_iload2 iX12_keep_119) (aa_go (aa_iconst iX12_keep_120 ki_5) (aa_go (aa_iaddN iX12_keep_121 ) (aa_go (aa_iconst iX12_keep_122 ki_2) (aa_go (aa_iload3 iX12_keep_123) (aa_go (aa_imulN iX12_keep_124 ) ?_)))))))
        refine aa_go (aa_iaddN iX12_keep_125 ) (aa_go (aa_aload0 iX12_keep_126) (aa_go (aa_getR iX12_keep_127 fl_X12_152 (sh_63 hW1) rfl) (aa_go (aa_iload3 iX12_keep_130) (aa_go (aa_ialE iX12_keep_131 (sh_71 hW1) (by omega) (by omega) (m2)) (aa_go (aa_iasN iX12_keep_132 (sh_85 hW1) (by omega) (by omega)) (aa_go (aa_iincN3 (k := 1) iX12_keep_133 rfl (by decide)) (aa_go (aa_goto iX12_keep_136) ?_)))))))
        have ne : ∀ p, p ≠ 52 * i + 4 + 2 * j → p ≠ 52 * i + 5 + 2 * j → (aa_sI (aa_sI σ1 85 (52 * i + 4 + 2 * j) (nI (pl_mo P (g.2.2.1 j)))) 85 (52 * i + 5 + 2 * j) (nI (cv P (g.2.1 j)))).1 85 p = σ1.1 85 p := fun p a1 a2 => by rw [sI_nk a2, sI_nk a1]
        refine ih (j + 1) _ (by omega) (by omega) e1 (fun x a1 a2 a3 a4 => by rw [sI_ne a4, sI_ne a4]; exact q x a1 a2 a3 a4) (fun k hk => by rw [sI_ne (by decide), sI_ne (by decide)]; exact qk k hk) (by rw [sI_ne (by decide), sI_ne (by decide)]; exact k1) (by rw [sI_ne (by decide), sI_ne (by decide)]; exact k2) ⟨?_, ?_, ?_, ?_⟩ (fun k hk => ?_) (fun p hp => by rw [ne p (by omega) (by omega)]; exact k5 p hp)
        · rw [ne _ (by omega) (by omega)]; exact k3.1
        · rw [ne _ (by omega) (by omega)]; exact k3.2.1
        · rw [ne _ (by omega) (by omega)]; exact k3.2.2.1
        · rw [ne _ (by omega) (by omega)]; exact k3.2.2.2
        · by_cases c : k = j
          · subst c
            exact ⟨by rw [sI_nk (by omega), sI_eq], by rw [sI_eq]⟩
          · rw [ne _ (by omega) (by omega), ne _ (by omega) (by omega)]; exact k4 k (by omega)
  have key : aa_V mX12_keep 100 0 [some (.ref 63), some (.int (nI i)), none, none] [] σ (fun ra σ' => ra = some (.int (nI 1)) ∧ MJ P tx n g (kup kp i g) lk tl rw Q r dy σ σ') := by
    refine aa_go (aa_aload0 iX12_keep_0) (aa_go (aa_iconst iX12_keep_1 ki_0) (aa_go (aa_putI iX12_keep_2 fl_X12_3 (fun h => nomatch h) (sh_63 h.W) rfl ⟨rfl, rfl⟩) ?_))
    refine aa_go (aa_iload1 iX12_keep_5) (aa_go (aa_i2lN iX12_keep_6 (by omega)) (aa_go (aa_lconst iX12_keep_7 kl_0) (aa_go (aa_ldc2 iX12_keep_8 ld_X12_144) (aa_go (aa_cSi iX12_keep_11 (m_inN (hi := 2) (by omega) (by omega)) (by decide) lc_X12_in lk_X12_21 rfl (Nat.le_of_ble_eq_true rfl)) ?_))))
    refine aa_if_neB iX12_keep_14 (fun g1 => ?_) (fun g1 => ?_)
    · skip
      have ex : ∀ k, k ≠ 0 → ∀ (a : aa_St), a.1 63 = (aa_sI σ 63 0 (nI 0)).1 63 → a.1 63 k = σ.1 63 k := fun k hk a ha => by rw [ha, sI_nk hk]
      have s3 : (aa_sI (aa_sI σ 63 0 (nI 0)) 83 i (nI 1)).1 63 3 = nI (pl_n P) := by rw [sI_ne (by decide)]; exact h1.M.2.1
      have s10 : (aa_sI (aa_sI (aa_sI σ 63 0 (nI 0)) 83 i (nI 1)) 84 i (nI (pl_n P))).1 63 10 = nI (cv P (gst g)) := by rw [sI_ne (by decide), sI_ne (by decide)]; exact h1.G.1
      have s11 : (aa_sI (aa_sI (aa_sI (aa_sI σ 63 0 (nI 0)) 83 i (nI 1)) 84 i (nI (pl_n P))) 85 (52 * i) (nI (cv P (gst g)))).1 63 11 = nI (gtn g) := by rw [sI_ne (by decide), sI_ne (by decide), sI_ne (by decide)]; exact h1.G.2.1
      have s12 : (aa_sI (aa_sI (aa_sI (aa_sI (aa_sI σ 63 0 (nI 0)) 83 i (nI 1)) 84 i (nI (pl_n P))) 85 (52 * i) (nI (cv P (gst g)))) 85 (52 * i + 1) (nI (gtn g))).1 63 12 = nI (gen g) := by rw [sI_ne (by decide), sI_ne (by decide), sI_ne (by decide), sI_ne (by decide)]; exact h1.G.2.2.1
      have s13 : (aa_sI (aa_sI (aa_sI (aa_sI (aa_sI (aa_sI σ 63 0 (nI 0)) 83 i (nI 1)) 84 i (nI (pl_n P))) 85 (52 * i) (nI (cv P (gst g)))) 85 (52 * i + 1) (nI (gtn g))) 85 (52 * i + 2) (nI (gen g))).1 63 13 = nI g.1 := by rw [sI_ne (by decide), sI_ne (by decide), sI_ne (by decide), sI_ne (by decide), sI_ne (by decide)]; exact h1.G.2.2.2.1
      refine aa_go (aa_aload0 iX12_keep_19) (aa_go (aa_getR iX12_keep_20 fl_X12_354 (sh_63 h1.W) rfl) (aa_go (aa_iload1 iX12_keep_23) (aa_go (aa_iconst iX12_keep_24 ki_1) (aa_go (aa_zasN iX12_keep_25 (sh_83 h1.W) (by omega) (by omega) (aa_nz1)) (aa_go (aa_aload0 iX12_keep_26) (aa_go (aa_getR iX12_keep_27 fl_X12_358 (sh_63 h1.W) rfl) (aa_go (aa_iload1 iX12_keep_30) ?_)))))))
      refine aa_go (aa_aload0 iX12_keep_31) (aa_go (aa_getE iX12_keep_32 fl_X12_78 (sh_63 h1.W) rfl s3) (aa_go (aa_iasN iX12_keep_35 (sh_84 h1.W) (by omega) (by omega)) (aa_go (aa_bipush iX12_keep_36 kb_52) (aa_go (aa_iload1 iX12_keep_38) (aa_go (aa_imulN iX12_keep_39 ) (aa_go (aa_istore2 iX12_keep_40 rfl (by decide)) ?_))))))
      refine aa_go (aa_aload0 iX12_keep_41) (aa_go (aa_getR iX12_keep_42 fl_X12_361 (sh_63 h1.W) rfl) (aa_go (aa_iload2 iX12_keep_45) (aa_go (aa_aload0 iX12_keep_46) (aa_go (aa_getE iX12_keep_47 fl_X12_99 (sh_63 h1.W) rfl s10) (aa_go (aa_iasN iX12_keep_50 (sh_85 h1.W) (by omega) (by omega)) ?_)))))
      refine aa_go (aa_aload0 iX12_keep_51) (aa_go (aa_getR iX12_keep_52 fl_X12_361 (sh_63 h1.W) rfl) (aa_go (aa_iload2 iX12_keep_55) (aa_go (aa_iconst iX12_keep_56 ki_1) (aa_go (aa_iaddN iX12_keep_57 ) (aa_go (aa_aload0 iX12_keep_58) (aa_go (aa_getE iX12_keep_59 fl_X12_102 (sh_63 h1.W) rfl s11) (aa_go (aa_iasN iX12_keep_62 (sh_85 h1.W) (by omega) (by omega)) ?_)))))))
      refine aa_go (aa_aload0 iX12_keep_63) (aa_go (aa_getR iX12_keep_64 fl_X12_361 (sh_63 h1.W) rfl) (aa_go (aa_iload2 iX12_keep_67) (aa_go (aa_iconst iX12_keep_68 ki_2) (aa_go (aa_iaddN iX12_keep_69 ) (aa_go (aa_aload0 iX12_keep_70) (aa_go (aa_getE iX12_keep_71 fl_X12_124 (sh_63 h1.W) rfl s12) (aa_go (aa_iasN iX12_keep_74 (sh_85 h1.W) (by omega) (by omega)) ?_)))))))
      refine aa_go (aa_aload0 iX12_keep_75) (aa_go (aa_getR iX12_keep_76 fl_X12_361 (sh_63 h1.W) rfl) (aa_go (aa_iload2 iX12_keep_79) (aa_go (aa_iconst iX12_keep_80 ki_3) (aa_go (aa_iaddN iX12_keep_81 ) (aa_go (aa_aload0 iX12_keep_82) (aa_go (aa_getE iX12_keep_83 fl_X12_105 (sh_63 h1.W) rfl s13) (aa_go (aa_iasN iX12_keep_86 (sh_85 h1.W) (by omega) (by omega)) ?_)))))))
      refine aa_go (aa_iconst iX12_keep_87 ki_0) (aa_go (aa_istore3 iX12_keep_88 rfl (by decide)) ?_)
      refine loop (g.1 + 1) 0 _ (by omega) (by omega) rfl (fun x a1 a2 a3 a4 => ?_) (fun k hk => ?_) ?_ ?_ ⟨?_, ?_, ?_, ?_⟩ (fun k hk => absurd hk (Nat.not_lt_zero k)) (fun p hp => ?_)
      · rw [sI_ne a4, sI_ne a4, sI_ne a4, sI_ne a4, sI_ne a3, sI_ne a2, sI_ne a1]
      · rw [sI_ne (by decide), sI_ne (by decide), sI_ne (by decide), sI_ne (by decide), sI_ne (by decide), sI_ne (by decide), sI_nk hk]
      · rw [sI_ne (by decide), sI_ne (by decide), sI_ne (by decide), sI_ne (by decide), sI_ne (by decide)]
        funext p
        rw [sI_at, sI_at, sI_ne (by decide)]
      · rw [sI_ne (by decide), sI_ne (by decide), sI_ne (by decide), sI_ne (by decide)]
        funext p
        rw [sI_at, sI_at, sI_ne (by decide), sI_ne (by decide)]
      · rw [sI_nk (by omega), sI_nk (by omega), sI_nk (by omega), sI_eq]
      · rw [sI_nk (by omega), sI_nk (by omega), sI_eq]
      · rw [sI_nk (by omega), sI_eq]
      · rw [sI_eq]
      · rw [sI_nk (by omega), sI_nk (by omega), sI_nk (by omega), sI_nk (by omega), sI_ne (by decide), sI_ne (by decide), sI_ne (by decide)]
    · skip
      exact absurd hi (of_decide_eq_false g1)
  obtain ⟨ra, σ', ⟨rfl, h9⟩, hS9⟩ := aa_S_of (avs := [.ref 63, .int (nI i)]) (by decide) 2 [some (.ref 63), some (.int (nI i)), none, none] rfl rfl key
  exact ⟨σ', h9, hS9⟩
theorem q_keepB (h : MI P tx n g kp lk tl rw Q r dy σ) {x : Int32} (hx : x < 0 ∨ nI 2 < x) : ∃ σ', MJ P tx n g kp lk tl rw Q r dy σ σ' ∧ aa_SX mX12_keep 100 [.ref 63, .int x] σ (some (.int (nI 0))) σ' := by
  have h1 := h.thr (nI 0)
  refine ⟨_, h.JB, ?_⟩
  refine aa_E_of (by decide) 2 [some (.ref 63), some (.int (x)), none, none] rfl rfl ?_
  refine aa_go (aa_aload0 iX12_keep_0) (aa_go (aa_iconst iX12_keep_1 ki_0) (aa_go (aa_putI iX12_keep_2 fl_X12_3 (fun h => nomatch h) (sh_63 h.W) rfl ⟨rfl, rfl⟩) ?_))
  refine aa_go (aa_iload1 iX12_keep_5) (aa_go (aa_i2l iX12_keep_6) (aa_go (aa_lconst iX12_keep_7 kl_0) (aa_go (aa_ldc2 iX12_keep_8 ld_X12_144) (aa_go (aa_cSi iX12_keep_11 (m_inB (c := 2) (by omega) hx) (by decide) lc_X12_in lk_X12_21 rfl (Nat.le_of_ble_eq_true rfl)) ?_))))
  refine aa_if_neB iX12_keep_14 (fun g1 => ?_) (fun g1 => ?_)
  · skip
    exact absurd g1 (by decide)
  · skip
    refine aa_go (aa_iconst iX12_keep_17 ki_0) ?_
    refine aa_zretF iX12_keep_18 rfl ?_
    exact ⟨rfl, rfl⟩
theorem q_againB (h : MI P tx n g kp lk tl rw Q r dy σ) {x : Int32} (hx : x < 0 ∨ nI 2 < x) : ∃ σ', MJ P tx n g kp lk tl rw Q r dy σ σ' ∧ aa_SX mX12_again 100 [.ref 63, .int x] σ (some (.int (nI 0))) σ' := by
  have h1 := h.thr (nI 0)
  refine ⟨_, h.JB, ?_⟩
  refine aa_E_of (by decide) 2 [some (.ref 63), some (.int (x)), none, none] rfl rfl ?_
  refine aa_go (aa_aload0 iX12_again_0) (aa_go (aa_iconst iX12_again_1 ki_0) (aa_go (aa_putI iX12_again_2 fl_X12_3 (fun h => nomatch h) (sh_63 h.W) rfl ⟨rfl, rfl⟩) ?_))
  refine aa_go (aa_iload1 iX12_again_5) (aa_go (aa_i2l iX12_again_6) (aa_go (aa_lconst iX12_again_7 kl_0) (aa_go (aa_ldc2 iX12_again_8 ld_X12_144) (aa_go (aa_cSi iX12_again_11 (m_inB (c := 2) (by omega) hx) (by decide) lc_X12_in lk_X12_21 rfl (Nat.le_of_ble_eq_true rfl)) ?_))))
  refine aa_if_eqB iX12_again_14 (fun g1 => ?_) (fun g1 => ?_)
  · skip
    refine aa_go (aa_iconst iX12_again_39 ki_0) ?_
    refine aa_zretF iX12_again_40 rfl ?_
    exact ⟨rfl, rfl⟩
  · skip
    exact absurd g1 (by decide)
theorem q_againN (h : MI P tx n g kp lk tl rw Q r dy σ) {i : Nat} (hi : i ≤ 2) (hk : kp i = none) : ∃ σ', MJ P tx n g kp lk tl rw Q r dy σ σ' ∧ aa_SX mX12_again 100 [.ref 63, .int (nI i)] σ (some (.int (nI 0))) σ' := by
  have h1 := h.thr (nI 0)
  have n14 := h.n14
  obtain ⟨b, t, a1, a2, a3, a4, a5⟩ := h1.K i (by omega)
  rw [hk] at a4
  refine ⟨_, h.JB, ?_⟩
  refine aa_E_of (by decide) 2 [some (.ref 63), some (.int (nI i)), none, none] rfl rfl ?_
  refine aa_go (aa_aload0 iX12_again_0) (aa_go (aa_iconst iX12_again_1 ki_0) (aa_go (aa_putI iX12_again_2 fl_X12_3 (fun h => nomatch h) (sh_63 h.W) rfl ⟨rfl, rfl⟩) ?_))
  refine aa_go (aa_iload1 iX12_again_5) (aa_go (aa_i2lN iX12_again_6 (by omega)) (aa_go (aa_lconst iX12_again_7 kl_0) (aa_go (aa_ldc2 iX12_again_8 ld_X12_144) (aa_go (aa_cSi iX12_again_11 (m_inN (hi := 2) (by omega) (by omega)) (by decide) lc_X12_in lk_X12_21 rfl (Nat.le_of_ble_eq_true rfl)) ?_))))
  refine aa_if_eqB iX12_again_14 (fun g1 => ?_) (fun g1 => ?_)
  · skip
    refine aa_go (aa_iconst iX12_again_39 ki_0) ?_
    refine aa_zretF iX12_again_40 rfl ?_
    exact ⟨rfl, rfl⟩
  · skip
    refine aa_go (aa_aload0 iX12_again_17) (aa_go (aa_getR iX12_again_18 fl_X12_354 (sh_63 h1.W) rfl) (aa_go (aa_iload1 iX12_again_21) (aa_go (aa_zalE iX12_again_22 (sh_83 h1.W) (by omega) (by omega) (a1)) ?_)))
    refine aa_if_eqB iX12_again_23 (fun g2 => ?_) (fun g2 => ?_)
    · skip
      refine aa_go (aa_iconst iX12_again_39 ki_0) ?_
      refine aa_zretF iX12_again_40 rfl ?_
      exact ⟨rfl, rfl⟩
    · skip
      rw [g2, Bool.true_and] at a4
      have tn := of_decide_eq_false a4.symm
      refine aa_go (aa_aload0 iX12_again_26) (aa_go (aa_getR iX12_again_27 fl_X12_358 (sh_63 h1.W) rfl) (aa_go (aa_iload1 iX12_again_30) (aa_go (aa_ialE iX12_again_31 (sh_84 h1.W) (by omega) (by omega) (a2)) (aa_go (aa_aload0 iX12_again_32) (aa_go (aa_getE iX12_again_33 fl_X12_78 (sh_63 h1.W) rfl h1.M.2.1) ?_)))))
      refine aa_ic_eqN iX12_again_36 (by omega) (by omega) (fun g3 => ?_) (fun g3 => ?_)
      · skip
        exact absurd g3 tn
      · skip
        refine aa_go (aa_iconst iX12_again_39 ki_0) ?_
        refine aa_zretF iX12_again_40 rfl ?_
        exact ⟨rfl, rfl⟩
theorem q_again (h : MI P tx n g kp lk tl rw Q r dy σ) (hKG : KG P kp) {i : Nat} (hi : i ≤ 2) (hk : kp i = some g') : ∃ σ', MJ P tx n g' kp lk tl rw Q r dy σ σ' ∧ aa_SX mX12_again 100 [.ref 63, .int (nI i)] σ (some (.int (nI 1))) σ' := by
  have h1 := h.thr (nI 0)
  have g18 := (hKG i (by omega) g' hk).2.2
  have n14 := h.n14
  obtain ⟨b, t, a1, a2, a3, a4, a5⟩ := h.K i (by omega)
  rw [hk] at a4
  have a4 := a4.symm
  rw [show (some g').isSome = true from rfl, Bool.and_eq_true] at a4
  obtain ⟨rfl, tn⟩ := a4
  have tn := of_decide_eq_true tn
  subst tn
  obtain ⟨b1, b2, b3, b4, b5⟩ := a5 g' hk
  have fin : ∀ σ1 : aa_St, (σ1.2 = σ.2 ∧ ∀ x, x ≠ 63 → x ≠ 70 → x ≠ 71 → σ1.1 x = σ.1 x) → (∀ k, k ≠ 0 → k ≠ 10 → k ≠ 11 → k ≠ 12 → k ≠ 13 → σ1.1 63 k = σ.1 63 k) → MGm P g' σ1.1 → MJ P tx n g' kp lk tl rw Q r dy σ σ1 := by
    intro σ1 ⟨e1, q⟩ qk hG1
    exact (h.upd e1 (fun k hk => qk k (by omega) (by omega) (by omega) (by omega) (by omega)) (fun x hx => q x (by omega) (by omega) (by omega)) (h.X.fr (qk 17 (by decide) (by decide) (by decide) (by decide) (by decide)) (q 72 (by decide) (by decide) (by decide))) hG1 (h.K.fr (q 83 (by decide) (by decide) (by decide)) (q 84 (by decide) (by decide) (by decide)) (q 85 (by decide) (by decide) (by decide))) (h.L.fr (q 80 (by decide) (by decide) (by decide)))).J (by omega) ⟨by rw [e1], fun x hx => ⟨q x (by omega) (by omega) (by omega), by rw [e1]⟩⟩
  have loop : ∀ f j (σ1 : aa_St), g'.1 - j < f → j ≤ g'.1 → σ1.2 = σ.2 → (∀ x, x ≠ 63 → x ≠ 70 → x ≠ 71 → σ1.1 x = σ.1 x) → (∀ k, k ≠ 0 → k ≠ 10 → k ≠ 11 → k ≠ 12 → k ≠ 13 → σ1.1 63 k = σ.1 63 k) → (σ1.1 63 10 = nI (cv P (gst g')) ∧ σ1.1 63 11 = nI (gtn g') ∧ σ1.1 63 12 = nI (gen g') ∧ σ1.1 63 13 = nI g'.1) → (∀ k, k < j → σ1.1 70 k = nI (pl_mo P (g'.2.2.1 k)) ∧ σ1.1 71 k = nI (cv P (g'.2.1 k))) → aa_V mX12_again 100 94 [some (.ref 63), some (.int (nI i)), some (.int (nI (52 * i))), some (.int (nI j))] [] σ1 (fun ra σ' => ra = some (.int (nI 1)) ∧ MJ P tx n g' kp lk tl rw Q r dy σ σ') := by
    intro f
    induction f with
    | zero => intro j σ1 g1; omega
    | succ f ih =>
      intro j σ1 g1 g2 e1 q qk k3 k4
      have hW1 : aa_W r dy σ1 := h.W.of2 (by rw [e1])
      refine aa_go (aa_iload3 iX12_again_94) (aa_go (aa_aload0 iX12_again_95) (aa_go (aa_getE iX12_again_96 fl_X12_105 (sh_63 hW1) rfl k3.2.2.2) ?_))
      refine aa_ic_geN iX12_again_99 (by omega) (by omega) (fun g3 => ?_) (fun g3 => ?_)
      · skip
        have e : j = g'.1 := by omega
        subst e
        refine aa_go (aa_iconst iX12_again_144 ki_1) ?_
        refine aa_zretT iX12_again_145 rfl ?_
        exact ⟨rfl, fin σ1 ⟨e1, q⟩ qk ⟨k3.1, k3.2.1, k3.2.2.1, k3.2.2.2, k4⟩⟩
      · skip
        have m1 : σ1.1 85 (52 * i + 4 + 2 * j) = nI (pl_mo P (g'.2.2.1 j)) := by rw [q 85 (by decide) (by decide) (by decide)]; exact (b5 j g3).1
        have m2 : (aa_sI σ1 70 j (nI (pl_mo P (g'.2.2.1 j)))).1 85 (52 * i + 5 + 2 * j) = nI (cv P (g'.2.1 j)) := by rw [sI_ne (by decide), q 85 (by decide) (by decide) (by decide)]; exact (b5 j g3).2
        refine aa_go (aa_aload0 iX12_again_102) (aa_go (aa_getR iX12_again_103 fl_X12_149 (sh_63 hW1) rfl) (aa_go (aa_iload3 iX12_again_106) (aa_go (aa_aload0 iX12_again_107) (aa_go (aa_getR iX12_again_108 fl_X12_361 (sh_63 hW1) rfl) (aa_go (aa_iload2 iX12_again_111) (aa_go (aa_iconst iX12_again_112 ki_4) (aa_go (aa_iaddN iX12_again_113 ) ?_)))))))
        refine aa_go (aa_iconst iX12_again_114 ki_2) (aa_go (aa_iload3 iX12_again_115) (aa_go (aa_imulN iX12_again_116 ) (aa_go (aa_iaddN iX12_again_117 ) (aa_go (aa_ialE iX12_again_118 (sh_85 hW1) (by omega) (by omega) (m1)) (aa_go (aa_iasN iX12_again_119 (sh_70 hW1) (by omega) (by omega)) ?_)))))
        refine aa_go (aa_aload0 iX12_again_120) (aa_go (aa_getR iX12_again_121 fl_X12_152 (sh_63 hW1) rfl) (aa_go (aa_iload3 iX12_again_124) (aa_go (aa_aload0 iX12_again_125) (aa_go (aa_getR iX12_again_126 fl_X12_361 (sh_63 hW1) rfl) (aa_go (aa_iload2 iX12_again_129) (aa_go (aa_iconst iX12_again_130 ki_5) (aa_go (aa_iaddN iX12_again_131 ) ?_)))))))
        refine aa_go (aa_iconst iX12_again_132 ki_2) (aa_go (aa_iload3 iX12_again_133) (aa_go (aa_imulN iX12_again_134 ) (aa_go (aa_iaddN iX12_again_135 ) (aa_go (aa_ialE iX12_again_136 (sh_85 hW1) (by omega) (by omega) (m2)) (aa_go (aa_iasN iX12_again_137 (sh_71 hW1) (by omega) (by omega)) (aa_go (aa_iincN3 (k := 1) iX12_again_138 rfl (by decide)) (aa_go (aa_goto iX12_again_141) ?_)))))))
        refine ih (j + 1) _ (by omega) (by omega) e1 (fun x a1 a2 a3 => by rw [sI_ne a3, sI_ne a2]; exact q x a1 a2 a3) (fun k q1 q2 q3 q4 q5 => by rw [sI_ne (by decide), sI_ne (by decide)]; exact qk k q1 q2 q3 q4 q5) (by rw [sI_ne (by decide), sI_ne (by decide)]; exact k3) (fun k hk => ?_)
        by_cases c : k = j
        · subst c
          exact ⟨by rw [sI_ne (by decide), sI_eq], by rw [sI_eq]⟩
        · exact ⟨by rw [sI_ne (by decide), sI_nk c]; exact (k4 k (by omega)).1, by rw [sI_nk c, sI_ne (by decide)]; exact (k4 k (by omega)).2⟩
  have key : aa_V mX12_again 100 0 [some (.ref 63), some (.int (nI i)), none, none] [] σ (fun ra σ' => ra = some (.int (nI 1)) ∧ MJ P tx n g' kp lk tl rw Q r dy σ σ') := by
    have c1 : (aa_sI σ 63 0 (nI 0)).1 83 i = nI true.toNat := by rw [sI_ne (by decide)]; exact a1
    have c2 : (aa_sI σ 63 0 (nI 0)).1 84 i = nI (pl_n P) := by rw [sI_ne (by decide)]; exact a2
    have d1 : (aa_sI σ 63 0 (nI 0)).1 85 (52 * i) = nI (cv P (gst g')) := by rw [sI_ne (by decide)]; exact b1
    have d2 : (aa_sI (aa_sI σ 63 0 (nI 0)) 63 10 (nI (cv P (gst g')))).1 85 (52 * i + 1) = nI (gtn g') := by rw [sI_ne (by decide), sI_ne (by decide)]; exact b2
    have d3 : (aa_sI (aa_sI (aa_sI σ 63 0 (nI 0)) 63 10 (nI (cv P (gst g')))) 63 11 (nI (gtn g'))).1 85 (52 * i + 2) = nI (gen g') := by rw [sI_ne (by decide), sI_ne (by decide), sI_ne (by decide)]; exact b3
    have d4 : (aa_sI (aa_sI (aa_sI (aa_sI σ 63 0 (nI 0)) 63 10 (nI (cv P (gst g')))) 63 11 (nI (gtn g'))) 63 12 (nI (gen g'))).1 85 (52 * i + 3) = nI g'.1 := by rw [sI_ne (by decide), sI_ne (by decide), sI_ne (by decide), sI_ne (by decide)]; exact b4
    refine aa_go (aa_aload0 iX12_again_0) (aa_go (aa_iconst iX12_again_1 ki_0) (aa_go (aa_putI iX12_again_2 fl_X12_3 (fun h => nomatch h) (sh_63 h.W) rfl ⟨rfl, rfl⟩) ?_))
    refine aa_go (aa_iload1 iX12_again_5) (aa_go (aa_i2lN iX12_again_6 (by omega)) (aa_go (aa_lconst iX12_again_7 kl_0) (aa_go (aa_ldc2 iX12_again_8 ld_X12_144) (aa_go (aa_cSi iX12_again_11 (m_inN (hi := 2) (by omega) (by omega)) (by decide) lc_X12_in lk_X12_21 rfl (Nat.le_of_ble_eq_true rfl)) ?_))))
    refine aa_if_eqB iX12_again_14 (fun g1 => ?_) (fun g1 => ?_)
    · skip
      exact absurd hi (of_decide_eq_false g1)
    · skip
      refine aa_go (aa_aload0 iX12_again_17) (aa_go (aa_getR iX12_again_18 fl_X12_354 (sh_63 h1.W) rfl) (aa_go (aa_iload1 iX12_again_21) (aa_go (aa_zalE iX12_again_22 (sh_83 h1.W) (by omega) (by omega) (c1)) ?_)))
      refine aa_if_eqB iX12_again_23 (fun g2 => ?_) (fun g2 => ?_)
      · skip
        exact absurd g2 (by decide)
      · skip
        refine aa_go (aa_aload0 iX12_again_26) (aa_go (aa_getR iX12_again_27 fl_X12_358 (sh_63 h1.W) rfl) (aa_go (aa_iload1 iX12_again_30) (aa_go (aa_ialE iX12_again_31 (sh_84 h1.W) (by omega) (by omega) (c2)) (aa_go (aa_aload0 iX12_again_32) (aa_go (aa_getE iX12_again_33 fl_X12_78 (sh_63 h1.W) rfl h1.M.2.1) ?_)))))
        refine aa_ic_eqN iX12_again_36 (by omega) (by omega) (fun g3 => ?_) (fun g3 => ?_)
        · skip
          refine aa_go (aa_bipush iX12_again_41 kb_52) (aa_go (aa_iload1 iX12_again_43) (aa_go (aa_imulN iX12_again_44 ) (aa_go (aa_istore2 iX12_again_45 rfl (by decide)) (aa_go (aa_aload0 iX12_again_46) (aa_go (aa_aload0 iX12_again_47) (aa_go (aa_getR iX12_again_48 fl_X12_361 (sh_63 h1.W) rfl) (aa_go (aa_iload2 iX12_again_51) ?_)))))))
          refine aa_go (aa_ialE iX12_again_52 (sh_85 h1.W) (by omega) (by omega) (d1)) (aa_go (aa_putI iX12_again_53 fl_X12_99 (fun h => nomatch h) (sh_63 h1.W) rfl ⟨rfl, rfl⟩) ?_)
          refine aa_go (aa_aload0 iX12_again_56) (aa_go (aa_aload0 iX12_again_57) (aa_go (aa_getR iX12_again_58 fl_X12_361 (sh_63 h1.W) rfl) (aa_go (aa_iload2 iX12_again_61) (aa_go (aa_iconst iX12_again_62 ki_1) (aa_go (aa_iaddN iX12_again_63 ) (aa_go (aa_ialE iX12_again_64 (sh_85 h1.W) (by omega) (by omega) (d2)) (aa_go (aa_putI iX12_again_65 fl_X12_102 (fun h => nomatch h) (sh_63 h1.W) rfl ⟨rfl, rfl⟩) ?_)))))))
          refine aa_go (aa_aload0 iX12_again_68) (aa_go (aa_aload0 iX12_again_69) (aa_go (aa_getR iX12_again_70 fl_X12_361 (sh_63 h1.W) rfl) (aa_go (aa_iload2 iX12_again_73) (aa_go (aa_iconst iX12_again_74 ki_2) (aa_go (aa_iaddN iX12_again_75 ) (aa_go (aa_ialE iX12_again_76 (sh_85 h1.W) (by omega) (by omega) (d3)) (aa_go (aa_putI iX12_again_77 fl_X12_124 (fun h => nomatch h) (sh_63 h1.W) rfl ⟨rfl, rfl⟩) ?_)))))))
          refine aa_go (aa_aload0 iX12_again_80) (aa_go (aa_aload0 iX12_again_81) (aa_go (aa_getR iX12_again_82 fl_X12_361 (sh_63 h1.W) rfl) (aa_go (aa_iload2 iX12_again_85) (aa_go (aa_iconst iX12_again_86 ki_3) (aa_go (aa_iaddN iX12_again_87 ) (aa_go (aa_ialE iX12_again_88 (sh_85 h1.W) (by omega) (by omega) (d4)) (aa_go (aa_putI iX12_again_89 fl_X12_105 (fun h => nomatch h) (sh_63 h1.W) rfl ⟨rfl, rfl⟩) ?_)))))))
          refine aa_go (aa_iconst iX12_again_92 ki_0) (aa_go (aa_istore3 iX12_again_93 rfl (by decide)) ?_)
          refine loop (g'.1 + 1) 0 _ (by omega) (by omega) rfl (fun x a1 a2 a3 => ?_) (fun k q1 q2 q3 q4 q5 => ?_) ⟨?_, ?_, ?_, ?_⟩ (fun k hk => absurd hk (Nat.not_lt_zero k))
          · rw [sI_ne a1, sI_ne a1, sI_ne a1, sI_ne a1, sI_ne a1]
          · rw [sI_nk q5, sI_nk q4, sI_nk q3, sI_nk q2, sI_nk q1]
          · rw [sI_nk (by decide), sI_nk (by decide), sI_nk (by decide), sI_eq]
          · rw [sI_nk (by decide), sI_nk (by decide), sI_eq]
          · rw [sI_nk (by decide), sI_eq]
          · rw [sI_eq]
        · skip
          exact absurd rfl g3
  obtain ⟨ra, σ', ⟨rfl, h9⟩, hS9⟩ := aa_S_of (avs := [.ref 63, .int (nI i)]) (by decide) 2 [some (.ref 63), some (.int (nI i)), none, none] rfl rfl key
  exact ⟨σ', h9, hS9⟩
end
