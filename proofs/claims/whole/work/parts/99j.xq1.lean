/-! THE REFERENCE, PUBLIC METHODS: text, game -/
theorem nI_sra {a s w : Nat} (ha : a < 4294967296) (hs : s < 32) (hw : s + w ≤ 32) : (nI a >>> (nI s &&& 31)) &&& nI (2 ^ w - 1) = nI (a >>> s &&& (2 ^ w - 1)) := by
  apply nI_ext
  intro i hi
  rw [nI_get, decide_eq_true hi, Bool.true_and, Nat.testBit_and, Nat.testBit_two_pow_sub_one, Nat.testBit_shiftRight]
  have e1 : ((nI a >>> (nI s &&& 31)) &&& nI (2 ^ w - 1)).toBitVec.getLsbD i = ((nI a >>> (nI s &&& 31)).toBitVec.getLsbD i && (nI (2 ^ w - 1)).toBitVec.getLsbD i) := by
    rw [Int32.toBitVec_and, BitVec.getLsbD_and]
  rw [e1, nI_get, decide_eq_true hi, Bool.true_and, Nat.testBit_two_pow_sub_one]
  by_cases c : i < w
  · rw [decide_eq_true c, Bool.and_true, Bool.and_true]
    have e2 : (nI a >>> (nI s &&& 31)).toBitVec = (BitVec.ofNat 32 a).sshiftRight s := by
      show (nI a).toBitVec.sshiftRight ((nI s &&& 31).toBitVec.smod 32).toNat = _
      rw [nI_smod hs, nI_bv]
      congr 1
      rw [BitVec.toNat_ofNat]; omega
    rw [e2, BitVec.getLsbD_sshiftRight, BitVec.getLsbD_ofNat]
    simp [show ¬ 32 ≤ i by omega, show s + i < 32 by omega]
  · rw [decide_eq_false c]; simp
section
variable {P P' : pl_T} {tx tx' : Nat → Nat} {n n' : Nat} {g g' : gm_T} {kp kp' : Nat → Option gm_T} {lk lk' tl tl' : Nat} {rw rw' : Nat → Int} {Q Q' : Nat} {r : Nat → Nat} {dy : List aa_Shp} {σ σ' : aa_St}
theorem MI.upd (h : MI P tx n g kp lk tl rw Q r dy σ) (h2 : σ'.2 = σ.2) (hk : ∀ k, k = 1 ∨ k = 3 ∨ k = 8 ∨ k = 24 → σ'.1 63 k = σ.1 63 k) (hx : ∀ x, x = 65 ∨ x = 66 ∨ x = 67 ∨ x = 68 ∨ x = 69 ∨ x = 74 → σ'.1 x = σ.1 x) (hX : MTx tx' n' σ'.1) (hG : MGm P g' σ'.1) (hK : MKp P kp' σ'.1) (hL : ML3 lk' σ'.1) : MI P tx' n' g' kp' lk' tl rw Q r dy σ' :=
  ⟨h.W.of2 (by rw [h2]), h.R, h.M.fr (hk 3 (by decide)) (hk 8 (by decide)) (fun x q => hx x (by omega)), hX, hG, hK, hL, h.T.fr (hk 1 (by decide)) (by rw [h2]), h.q.fr (hk 24 (by decide)) (hx 74 (by decide))⟩
theorem MI.J (h : MI P tx n g kp lk tl rw Q' r dy σ') (hQ : Q' ≤ Q + 2000) (hF : MF σ σ') : MJ P tx n g kp lk tl rw Q r dy σ σ' := ⟨⟨Q', hQ, h⟩, hF⟩
theorem MI.JB (h : MI P tx n g kp lk tl rw Q r dy σ) : MJ P tx n g kp lk tl rw Q r dy σ (aa_sI σ 63 0 (nI 0)) := (h.thr (nI 0)).J (by omega) (MF.rf.s (by decide) _ _)
theorem q_signY (h : MI P tx n g kp lk tl rw Q r dy σ) (hn : n ≤ 76) {a : Nat} (ha : a < 4294967296) : ∃ σ', MJ P (txA tx n a) (n + 4) g kp lk tl rw Q r dy σ σ' ∧ aa_SX mX12_sign 100 [.ref 63, .int (nI a)] σ (some (.int (nI (n + 4)))) σ' := by
  have h1 := h.thr (nI 0)
  have loop : ∀ f k (σ1 : aa_St), 4 - k < f → k ≤ 4 → FrA [72] (aa_sI σ 63 0 (nI 0)) σ1 → (∀ p, p < n + k → σ1.1 72 p = nI (txA tx n a p)) → aa_V mX12_sign 100 18 [some (.ref 63), some (.int (nI a)), some (.int (nI k))] [] σ1 (fun ra σ' => ra = some (.int (nI (n + 4))) ∧ MJ P (txA tx n a) (n + 4) g kp lk tl rw Q r dy σ σ') := by
    intro f
    induction f with
    | zero => intro k σ1 g1; omega
    | succ f ih =>
      intro k σ1 g1 g2 hF hT1
      have hW1 := hF.W h1.W
      have hl : σ1.1 63 17 = nI n := by rw [hF.2 63 (by decide)]; exact h1.X.1
      refine aa_go (aa_iload2 iX12_sign_18) (aa_go (aa_iconst iX12_sign_19 ki_4) ?_)
      refine aa_ic_geN iX12_sign_20 (by omega) (by omega) (fun g3 => ?_) (fun g3 => ?_)
      · skip
        have e1 : k = 4 := by omega
        subst e1
        refine aa_go (aa_aload0 iX12_sign_53) (aa_go (aa_dup iX12_sign_54 rfl) (aa_go (aa_getE iX12_sign_55 fl_X12_14 (sh_63 hW1) rfl hl) (aa_go (aa_iconst iX12_sign_58 ki_4) (aa_go (aa_iaddN iX12_sign_59 ) (aa_go (aa_putI iX12_sign_60 fl_X12_14 (fun h => nomatch h) (sh_63 hW1) rfl ⟨rfl, rfl⟩) ?_)))))
        refine aa_go (aa_aload0 iX12_sign_63) (aa_go (aa_getE iX12_sign_64 fl_X12_14 (sh_63 hW1) rfl (sI_eq : (aa_sI σ1 63 17 (nI (n + 4))).1 63 17 = nI (n + 4))) ?_)
        refine aa_iret iX12_sign_67 rfl ?_
        have q : ∀ x, x ≠ 63 → x ≠ 72 → (aa_sI σ1 63 17 (nI (n + 4))).1 x = σ.1 x := fun x a1 a2 => by
          rw [sI_ne a1, hF.2 x (by simpa using a2), sI_ne a1]
        have qk : ∀ k, k ≠ 0 → k ≠ 17 → (aa_sI σ1 63 17 (nI (n + 4))).1 63 k = σ.1 63 k := fun k a1 a2 => by
          rw [sI_nk a2, hF.2 63 (by decide), sI_nk a1]
        refine ⟨rfl, (h.upd (by show σ1.2 = _; rw [hF.1]; rfl) (fun k hk => qk k (by omega) (by omega)) (fun x hx => q x (by omega) (by omega)) ⟨sI_eq, by omega, fun p hp => ⟨by rw [sI_ne (by decide)]; exact hT1 p hp, ?_⟩⟩ (h.G.fr (fun k hk => qk k (by omega) (by omega)) (q 70 (by decide) (by decide)) (q 71 (by decide) (by decide))) (h.K.fr (q 83 (by decide) (by decide)) (q 84 (by decide) (by decide)) (q 85 (by decide) (by decide))) (h.L.fr (q 80 (by decide) (by decide)))).J (by omega) ?_⟩
        · rw [txA]
          split
          · exact Nat.lt_of_le_of_lt Nat.and_le_right (by omega)
          · exact (h.X.2.2 p (by omega)).2
        · exact ⟨by show σ1.2.2 = _; rw [hF.1]; rfl, fun x hx => ⟨q x (by omega) (by omega), by show σ1.2.1 x = _; rw [hF.1]; rfl⟩⟩
      · skip
        have sh : 8 * k ≤ 24 := by omega
        refine aa_go (aa_aload0 iX12_sign_23) (aa_go (aa_getR iX12_sign_24 fl_X12_17 (sh_63 hW1) rfl) (aa_go (aa_aload0 iX12_sign_27) (aa_go (aa_getE iX12_sign_28 fl_X12_14 (sh_63 hW1) rfl hl) (aa_go (aa_iload2 iX12_sign_31) (aa_go (aa_iaddN iX12_sign_32 ) (aa_go (aa_iload1 iX12_sign_33) (aa_go (aa_bipush iX12_sign_34 kb_24) ?_)))))))
        refine aa_go (aa_bipush iX12_sign_36 kb_8) (aa_go (aa_iload2 iX12_sign_38) (aa_go (aa_imulN iX12_sign_39 ) (aa_go (aa_isubN iX12_sign_40 (by omega)) (aa_go (aa_ishr iX12_sign_41 ) (aa_go (aa_sipush iX12_sign_42 ks_255) ?_)))))
        refine aa_go (aa_iand iX12_sign_45) ?_
        refine aa_go (aa_top (y := nI (a >>> (24 - 8 * k) &&& 255)) (nI_sra (w := 8) ha (by omega) (by omega))) ?_
        refine aa_go (aa_iasN iX12_sign_46 (sh_72 hW1) (by omega) (by omega)) (aa_go (aa_iincN2 (k := 1) iX12_sign_47 rfl (by decide)) (aa_go (aa_goto iX12_sign_50) ?_))
        refine ih (k + 1) _ (by omega) (by omega) (hF.s (by decide) _ _) (fun p hp => ?_)
        rw [sI_at]
        by_cases c : p = n + k
        · rw [if_pos c, txA, if_pos (by omega), c, Nat.add_sub_cancel_left]
        · rw [if_neg c]; exact hT1 p (by omega)
  have key : aa_V mX12_sign 100 0 [some (.ref 63), some (.int (nI a)), none] [] σ (fun ra σ' => ra = some (.int (nI (n + 4))) ∧ MJ P (txA tx n a) (n + 4) g kp lk tl rw Q r dy σ σ') := by
    refine aa_go (aa_aload0 iX12_sign_0) (aa_go (aa_iconst iX12_sign_1 ki_0) (aa_go (aa_putI iX12_sign_2 fl_X12_3 (fun h => nomatch h) (sh_63 h.W) rfl ⟨rfl, rfl⟩) ?_))
    refine aa_go (aa_aload0 iX12_sign_5) (aa_go (aa_getE iX12_sign_6 fl_X12_14 (sh_63 h1.W) rfl h1.X.1) (aa_go (aa_bipush iX12_sign_9 kb_76) ?_))
    refine aa_ic_leN iX12_sign_11 (by omega) (by omega) (fun g1 => ?_) (fun g1 => ?_)
    · skip
      refine aa_go (aa_iconst iX12_sign_16 ki_0) (aa_go (aa_istore2 iX12_sign_17 rfl (by decide)) ?_)
      exact loop 5 0 _ (by omega) (by omega) FrA.rf (fun p hp => by rw [txA, if_neg (by omega)]; exact (h1.X.2.2 p (by omega)).1)
    · skip
      omega
  obtain ⟨ra, σ', ⟨rfl, h9⟩, hS9⟩ := aa_S_of (avs := [.ref 63, .int (nI a)]) (by decide) 1 [some (.ref 63), some (.int (nI a)), none] rfl rfl key
  exact ⟨σ', h9, hS9⟩
theorem q_signN (h : MI P tx n g kp lk tl rw Q r dy σ) (hn : 76 < n) (x : Int32) : ∃ σ', MJ P tx n g kp lk tl rw Q r dy σ σ' ∧ aa_SX mX12_sign 100 [.ref 63, .int x] σ (some (.int (-1))) σ' := by
  have h1 := h.thr (nI 0)
  have h80 := h.X.2.1
  refine ⟨_, h.JB, ?_⟩
  refine aa_E_of (by decide) 1 [some (.ref 63), some (.int (x)), none] rfl rfl ?_
  refine aa_go (aa_aload0 iX12_sign_0) (aa_go (aa_iconst iX12_sign_1 ki_0) (aa_go (aa_putI iX12_sign_2 fl_X12_3 (fun h => nomatch h) (sh_63 h.W) rfl ⟨rfl, rfl⟩) ?_))
  refine aa_go (aa_aload0 iX12_sign_5) (aa_go (aa_getE iX12_sign_6 fl_X12_14 (sh_63 h1.W) rfl h1.X.1) (aa_go (aa_bipush iX12_sign_9 kb_76) ?_))
  refine aa_ic_leN iX12_sign_11 (by omega) (by omega) (fun g1 => ?_) (fun g1 => ?_)
  · skip
    omega
  · skip
    refine aa_go (aa_iconst iX12_sign_14 ki_m1) ?_
    refine aa_iret iX12_sign_15 rfl ?_
    exact ⟨rfl, rfl⟩
theorem q_endY (h : MI P tx n g kp lk tl rw Q r dy σ) {k : Nat} (hk : k ≤ n) : ∃ σ', MJ P tx k g kp lk tl rw Q r dy σ σ' ∧ aa_SX mX12_end 100 [.ref 63, .int (nI k)] σ (some (.int (nI 1))) σ' := by
  have h1 := h.thr (nI 0)
  have h80 := h.X.2.1
  have q : ∀ x, x ≠ 63 → (aa_sI (aa_sI σ 63 0 (nI 0)) 63 17 (nI k)).1 x = σ.1 x := fun x a1 => by rw [sI_ne a1, sI_ne a1]
  have qk : ∀ j, j ≠ 0 → j ≠ 17 → (aa_sI (aa_sI σ 63 0 (nI 0)) 63 17 (nI k)).1 63 j = σ.1 63 j := fun j a1 a2 => by rw [sI_nk a2, sI_nk a1]
  refine ⟨aa_sI (aa_sI σ 63 0 (nI 0)) 63 17 (nI k), (h.upd (σ' := aa_sI (aa_sI σ 63 0 (nI 0)) 63 17 (nI k)) (tx' := tx) (n' := k) rfl (fun j hj => qk j (by omega) (by omega)) (fun x hx => q x (by omega)) ⟨sI_eq, by omega, fun p hp => by rw [q 72 (by decide)]; exact h.X.2.2 p (by omega)⟩ (h.G.fr (fun k hk => qk k (by omega) (by omega)) (q 70 (by decide)) (q 71 (by decide))) (h.K.fr (q 83 (by decide)) (q 84 (by decide)) (q 85 (by decide))) (h.L.fr (q 80 (by decide)))).J (by omega) ((MF.rf.s (by decide) _ _).s (by decide) _ _), ?_⟩
  refine aa_E_of (by decide) 0 [some (.ref 63), some (.int (nI k))] rfl rfl ?_
  refine aa_go (aa_aload0 iX12_end_0) (aa_go (aa_iconst iX12_end_1 ki_0) (aa_go (aa_putI iX12_end_2 fl_X12_3 (fun h => nomatch h) (sh_63 h.W) rfl ⟨rfl, rfl⟩) ?_))
  refine aa_go (aa_iload1 iX12_end_5) (aa_go (aa_i2lN iX12_end_6 (by omega)) (aa_go (aa_lconst iX12_end_7 kl_0) (aa_go (aa_aload0 iX12_end_8) (aa_go (aa_getE iX12_end_9 fl_X12_14 (sh_63 h1.W) rfl h1.X.1) (aa_go (aa_i2lN iX12_end_12 (by omega)) (aa_go (aa_cSi iX12_end_13 (m_inN (by omega) (by omega)) (by decide) lc_X12_in lk_X12_21 rfl (Nat.le_of_ble_eq_true rfl)) ?_))))))
  refine aa_if_neB iX12_end_16 (fun g1 => ?_) (fun g1 => ?_)
  · skip
    refine aa_go (aa_aload0 iX12_end_21) (aa_go (aa_iload1 iX12_end_22) (aa_go (aa_putI iX12_end_23 fl_X12_14 (fun h => nomatch h) (sh_63 h1.W) rfl ⟨rfl, rfl⟩) (aa_go (aa_iconst iX12_end_26 ki_1) ?_)))
    refine aa_zretT iX12_end_27 rfl ?_
    exact ⟨rfl, rfl⟩
  · skip
    exact absurd hk (of_decide_eq_false g1)
theorem q_endN (h : MI P tx n g kp lk tl rw Q r dy σ) {x : Int32} (hx : x < 0 ∨ nI n < x) : ∃ σ', MJ P tx n g kp lk tl rw Q r dy σ σ' ∧ aa_SX mX12_end 100 [.ref 63, .int x] σ (some (.int (nI 0))) σ' := by
  have h1 := h.thr (nI 0)
  have h80 := h.X.2.1
  refine ⟨_, h.JB, ?_⟩
  refine aa_E_of (by decide) 0 [some (.ref 63), some (.int (x))] rfl rfl ?_
  refine aa_go (aa_aload0 iX12_end_0) (aa_go (aa_iconst iX12_end_1 ki_0) (aa_go (aa_putI iX12_end_2 fl_X12_3 (fun h => nomatch h) (sh_63 h.W) rfl ⟨rfl, rfl⟩) ?_))
  refine aa_go (aa_iload1 iX12_end_5) (aa_go (aa_i2l iX12_end_6) (aa_go (aa_lconst iX12_end_7 kl_0) (aa_go (aa_aload0 iX12_end_8) (aa_go (aa_getE iX12_end_9 fl_X12_14 (sh_63 h1.W) rfl h1.X.1) (aa_go (aa_i2lN iX12_end_12 (by omega)) (aa_go (aa_cSi iX12_end_13 (m_inB (by omega) hx) (by decide) lc_X12_in lk_X12_21 rfl (Nat.le_of_ble_eq_true rfl)) ?_))))))
  refine aa_if_neB iX12_end_16 (fun g1 => ?_) (fun g1 => ?_)
  · skip
    exact absurd g1 (by decide)
  · skip
    refine aa_go (aa_iconst iX12_end_19 ki_0) ?_
    refine aa_zretF iX12_end_20 rfl ?_
    exact ⟨rfl, rfl⟩
theorem q_ends (h : MI P tx n g kp lk tl rw Q r dy σ) {k : Nat} (hk : k ≤ 1) : ∃ σ', MJ P tx n (g.1, g.2.1, g.2.2.1, k) kp lk tl rw Q r dy σ σ' ∧ aa_SX mX12_ends 100 [.ref 63, .int (nI k)] σ (some (.int (nI (gen g)))) σ' := by
  have h1 := h.thr (nI 0)
  have q : ∀ x, x ≠ 63 → (aa_sI (aa_sI σ 63 0 (nI 0)) 63 12 (nI k)).1 x = σ.1 x := fun x a1 => by rw [sI_ne a1, sI_ne a1]
  have qk : ∀ j, j ≠ 0 → j ≠ 12 → (aa_sI (aa_sI σ 63 0 (nI 0)) 63 12 (nI k)).1 63 j = σ.1 63 j := fun j a1 a2 => by rw [sI_nk a2, sI_nk a1]
  obtain ⟨b1, b2, b3, b4, b5⟩ := h.G
  refine ⟨aa_sI (aa_sI σ 63 0 (nI 0)) 63 12 (nI k), (h.upd (σ' := aa_sI (aa_sI σ 63 0 (nI 0)) 63 12 (nI k)) (g' := (g.1, g.2.1, g.2.2.1, k)) rfl (fun j hj => qk j (by omega) (by omega)) (fun x hx => q x (by omega)) (h.X.fr (qk 17 (by decide) (by decide)) (q 72 (by decide))) ⟨by rw [qk 10 (by decide) (by decide)]; exact b1, by rw [qk 11 (by decide) (by decide)]; exact b2, sI_eq, by rw [qk 13 (by decide) (by decide)]; exact b4, fun j hj => by rw [q 70 (by decide), q 71 (by decide)]; exact b5 j hj⟩ (h.K.fr (q 83 (by decide)) (q 84 (by decide)) (q 85 (by decide))) (h.L.fr (q 80 (by decide)))).J (by omega) ((MF.rf.s (by decide) _ _).s (by decide) _ _), ?_⟩
  refine aa_E_of (by decide) 1 [some (.ref 63), some (.int (nI k)), none] rfl rfl ?_
  refine aa_go (aa_aload0 iX12_ends_0) (aa_go (aa_iconst iX12_ends_1 ki_0) (aa_go (aa_putI iX12_ends_2 fl_X12_3 (fun h => nomatch h) (sh_63 h.W) rfl ⟨rfl, rfl⟩) ?_))
  refine aa_go (aa_iload1 iX12_ends_5) (aa_go (aa_i2lN iX12_ends_6 (by omega)) (aa_go (aa_lconst iX12_ends_7 kl_0) (aa_go (aa_lconst iX12_ends_8 kl_1) (aa_go (aa_cSi iX12_ends_9 (m_inN (hi := 1) (by omega) (by omega)) (by decide) lc_X12_in lk_X12_21 rfl (Nat.le_of_ble_eq_true rfl)) ?_))))
  refine aa_if_neB iX12_ends_12 (fun g1 => ?_) (fun g1 => ?_)
  · skip
    refine aa_go (aa_aload0 iX12_ends_17) (aa_go (aa_getE iX12_ends_18 fl_X12_124 (sh_63 h1.W) rfl h1.G.2.2.1) (aa_go (aa_istore2 iX12_ends_21 rfl (by decide)) (aa_go (aa_aload0 iX12_ends_22) (aa_go (aa_iload1 iX12_ends_23) (aa_go (aa_putI iX12_ends_24 fl_X12_124 (fun h => nomatch h) (sh_63 h1.W) rfl ⟨rfl, rfl⟩) (aa_go (aa_iload2 iX12_ends_27) ?_))))))
    refine aa_iret iX12_ends_28 rfl ?_
    exact ⟨rfl, rfl⟩
  · skip
    exact absurd hk (of_decide_eq_false g1)
theorem q_endsB (h : MI P tx n g kp lk tl rw Q r dy σ) {x : Int32} (hx : x < 0 ∨ nI 1 < x) : ∃ σ', MJ P tx n g kp lk tl rw Q r dy σ σ' ∧ aa_SX mX12_ends 100 [.ref 63, .int x] σ (some (.int (-1))) σ' := by
  have h1 := h.thr (nI 0)
  refine ⟨_, h.JB, ?_⟩
  refine aa_E_of (by decide) 1 [some (.ref 63), some (.int (x)), none] rfl rfl ?_
  refine aa_go (aa_aload0 iX12_ends_0) (aa_go (aa_iconst iX12_ends_1 ki_0) (aa_go (aa_putI iX12_ends_2 fl_X12_3 (fun h => nomatch h) (sh_63 h.W) rfl ⟨rfl, rfl⟩) ?_))
  refine aa_go (aa_iload1 iX12_ends_5) (aa_go (aa_i2l iX12_ends_6) (aa_go (aa_lconst iX12_ends_7 kl_0) (aa_go (aa_lconst iX12_ends_8 kl_1) (aa_go (aa_cSi iX12_ends_9 (m_inB (c := 1) (by omega) hx) (by decide) lc_X12_in lk_X12_21 rfl (Nat.le_of_ble_eq_true rfl)) ?_))))
  refine aa_if_neB iX12_ends_12 (fun g1 => ?_) (fun g1 => ?_)
  · skip
    exact absurd g1 (by decide)
  · skip
    refine aa_go (aa_iconst iX12_ends_15 ki_m1) ?_
    refine aa_iret iX12_ends_16 rfl ?_
    exact ⟨rfl, rfl⟩
theorem q_begin (h : MI P tx n g kp lk tl rw Q r dy σ) (hG : GG P g) : ∃ σ', MJ P tx n (0, g.2) kp lk tl rw Q r dy σ σ' ∧ aa_SX mX12_begin 100 [.ref 63] σ (some (.int (nI g.1))) σ' := by
  have h1 := h.thr (nI 0)
  have q : ∀ x, x ≠ 63 → (aa_sI (aa_sI (aa_sI (aa_sI σ 63 0 (nI 0)) 63 10 (nI (2 ^ pl_n P - 1))) 63 11 (nI 0)) 63 13 (nI 0)).1 x = σ.1 x := fun x a1 => by rw [sI_ne a1, sI_ne a1, sI_ne a1, sI_ne a1]
  have qk : ∀ j, j ≠ 0 → j ≠ 10 → j ≠ 11 → j ≠ 13 → (aa_sI (aa_sI (aa_sI (aa_sI σ 63 0 (nI 0)) 63 10 (nI (2 ^ pl_n P - 1))) 63 11 (nI 0)) 63 13 (nI 0)).1 63 j = σ.1 63 j := fun j a1 a2 a3 a4 => by rw [sI_nk a4, sI_nk a3, sI_nk a2, sI_nk a1]
  obtain ⟨b1, b2, b3, b4, b5⟩ := h.G
  refine ⟨_, (h.upd (σ' := aa_sI (aa_sI (aa_sI (aa_sI σ 63 0 (nI 0)) 63 10 (nI (2 ^ pl_n P - 1))) 63 11 (nI 0)) 63 13 (nI 0)) rfl (fun j hj => qk j (by omega) (by omega) (by omega) (by omega)) (fun x hx => q x (by omega)) (h.X.fr (qk 17 (by decide) (by decide) (by decide) (by decide)) (q 72 (by decide))) ⟨?_, ?_, by rw [qk 12 (by decide) (by decide) (by decide) (by decide)]; exact b3, sI_eq, fun j hj => absurd hj (Nat.not_lt_zero j)⟩ (h.K.fr (q 83 (by decide)) (q 84 (by decide)) (q 85 (by decide))) (h.L.fr (q 80 (by decide)))).J (by omega) ((((MF.rf.s (by decide) _ _).s (by decide) _ _).s (by decide) _ _).s (by decide) _ _), ?_⟩
  · rw [sI_nk (by decide), sI_nk (by decide), sI_eq]
    show _ = nI (cv P (g.2.1 0))
    rw [hG.1.1, cv_full h.ok]
  · rw [sI_nk (by decide), sI_eq]; rfl
  refine aa_E_of (by decide) 1 [some (.ref 63), none] rfl rfl ?_
  refine aa_go (aa_aload0 iX12_begin_0) (aa_go (aa_iconst iX12_begin_1 ki_0) (aa_go (aa_putI iX12_begin_2 fl_X12_3 (fun h => nomatch h) (sh_63 h.W) rfl ⟨rfl, rfl⟩) ?_))
  refine aa_go (aa_aload0 iX12_begin_5) (aa_go (aa_getE iX12_begin_6 fl_X12_105 (sh_63 h1.W) rfl h1.G.2.2.2.1) (aa_go (aa_istore1 iX12_begin_9 rfl (by decide)) (aa_go (aa_aload0 iX12_begin_10) (aa_go (aa_cVv iX12_begin_11 (m_begins h1.W h1.M) (by decide) lc_X12_begins lk_X12_88 (sh_63 h1.W) rfl rfl (Nat.le_of_ble_eq_true rfl)) (aa_go (aa_iload1 iX12_begin_14) ?_)))))
  refine aa_iret iX12_begin_15 rfl ?_
  exact ⟨rfl, rfl⟩
end
