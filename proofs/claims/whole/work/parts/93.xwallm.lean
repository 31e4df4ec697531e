/-! THE REFERENCE: walls -/
theorem wr_or (a b t : Nat) : wr (a ||| b) t = wr a t ||| wr b t := by
  rw [← wr_sh, ← wr_sh, ← wr_sh, Nat.shiftRight_or_distrib, Nat.and_or_distrib_right]
theorem wr_bd (a b t : Nat) : wr (bd a b) t = bd (wr a t) (wr b t) := by
  apply bb_ext
  intro i
  rw [← wr_sh, ← wr_sh, ← wr_sh]
  simp only [Nat.testBit_and, Nat.testBit_shiftRight, bd_bit]
  cases a.testBit (3 * t + i) <;> cases b.testBit (3 * t + i) <;> cases Nat.testBit 7 i <;> rfl
theorem wr_sft : ∀ (x : Fin 8) (j t : Fin 4), wr (x.val <<< (3 * j.val)) t.val = if j = t then x.val else 0 := by decide
theorem wbd_7 : ∀ x : Fin 8, bd x.val 7 = 0 ∧ bd x.val 0 = x.val := by decide
theorem we_ext {a b : Nat} (ha : a < 4096) (hb : b < 4096) (h : ∀ t, t < 4 → wr a t = wr b t) : a = b := by
  rw [← we_wr ha, ← we_wr hb, we, we, h 0 (by decide), h 1 (by decide), h 2 (by decide), h 3 (by decide)]
theorem wb_step {s i c j : Nat} (hj : j < 4) (hij : i ≤ j) : bd (we (wcf s i c j)) (7 <<< (3 * j)) ||| min (wr s j) c <<< (3 * j) = we (wcf s i c (j + 1)) := by
  have l1 := we_lt (fun t _ => wcf_7 s i c j t)
  have mle : min (wr s j) c < 8 := by have := wr_le s j; omega
  refine we_ext (bb_or (k := 12) (bb_bd l1) ?_) (we_lt (fun t _ => wcf_7 s i c (j + 1) t)) (fun t ht => ?_)
  · exact shl_lt (wc := 3) mle (by omega)
  · rw [wr_or, wr_bd, wr_we (fun t _ => wcf_7 s i c j t) ht, wr_we (fun t _ => wcf_7 s i c (j + 1) t) ht]
    have e1 := wr_sft ⟨7, by decide⟩ ⟨j, hj⟩ ⟨t, ht⟩
    have e2 := wr_sft ⟨min (wr s j) c, mle⟩ ⟨j, hj⟩ ⟨t, ht⟩
    simp only [Fin.mk.injEq] at e1 e2
    rw [e1, e2]
    have w7 : bd (wcf s i c j t) 7 = 0 ∧ bd (wcf s i c j t) 0 = wcf s i c j t := wbd_7 ⟨wcf s i c j t, by have := wcf_7 s i c j t; omega⟩
    by_cases q : j = t
    · subst q
      rw [if_pos rfl, if_pos rfl, w7.1, Nat.zero_or]
      unfold wcf
      rw [if_pos (by omega)]
    · rw [if_neg q, if_neg q, w7.2, Nat.or_zero]
      unfold wcf
      by_cases c1 : i ≤ t ∧ t < j
      · rw [if_pos c1, if_pos (by omega)]
      · rw [if_neg c1, if_neg (by omega)]
theorem wml_in {s i c : Nat} (hi : i < 4) (hc : c < wr s i) : (i, c) ∈ wml s := by
  rw [wml, wp, List.mem_append, List.mem_flatMap]
  exact Or.inl ⟨i, List.mem_range.mpr hi, List.mem_map.mpr ⟨c, List.mem_range.mpr hc, rfl⟩⟩
theorem wv_t {s i c : Nat} (hi : i < 4) (hc : c < wr s i) (h : wv (cut s i c) = false) : wv s = true := by
  rw [wv_eq, wst]
  have : ((wml s).find? (fun x => !wv (cut s x.1 x.2))).isSome = true := by
    rw [List.find?_isSome]
    exact ⟨(i, c), wml_in hi hc, by simp [h]⟩
  rw [this, Bool.or_true]
def vL (p : Nat) : Int32 := nI (wv p).toNat
section
variable {r : Nat → Nat} {dy : List aa_Shp} {Q : Nat} {σ : aa_St}
theorem m_rowOf {s t : Nat} (hs : s < 4096) (ht : t < 4) : aa_SX mX12_rowOf 1 [.int (nI s), .int (nI t)] σ (some (.int (nI (wr s t)))) σ := by
  refine aa_E_of (by decide) 0 [some (.int (nI s)), some (.int (nI t))] rfl rfl ?_
  refine aa_go (aa_iload0 iX12_rowOf_0) (aa_go (aa_iconst iX12_rowOf_1 ki_3) (aa_go (aa_iload1 iX12_rowOf_2) (aa_go (aa_imulN iX12_rowOf_3 ) (aa_go (aa_ishrN iX12_rowOf_4 (by omega) (by omega)) (aa_go (aa_bipush iX12_rowOf_5 kb_7) (aa_go (aa_iandN iX12_rowOf_7 ) ?_))))))
  refine aa_go (aa_top (y := nI (wr s t)) (by rw [wr_sh])) ?_
  refine aa_iret iX12_rowOf_8 rfl ?_
  exact ⟨rfl, rfl⟩
theorem m_bites {s i c : Nat} (hs : s < 4096) (hi : i < 4) (hc : c ≤ 7) : aa_SX mX12_bites 2 [.int (nI s), .int (nI i), .int (nI c)] σ (some (.int (nI (cut s i c)))) σ := by
  have loop : ∀ f j y5, 4 - j < f → i ≤ j → j ≤ 4 → aa_V mX12_bites 2 5 [some (.int (nI s)), some (.int (nI i)), some (.int (nI c)), some (.int (nI (we (wcf s i c j)))), some (.int (nI j)), y5] [] σ (fun ra σ' => ra = some (.int (nI (cut s i c))) ∧ σ' = σ) := by
    intro f
    induction f with
    | zero => intro j y5 g1; omega
    | succ f ih =>
      intro j y5 g1 g2 g3
      refine aa_go (aa_iload4 iX12_bites_5) (aa_go (aa_iconst iX12_bites_7 ki_4) ?_)
      refine aa_ic_geN iX12_bites_8 (by omega) (by omega) (fun g4 => ?_) (fun g4 => ?_)
      · skip
        have e : j = 4 := by omega
        subst e
        refine aa_go (aa_iload3 iX12_bites_49) ?_
        refine aa_iret iX12_bites_50 rfl ?_
        exact ⟨rfl, rfl⟩
      · skip
        have wl := wr_le s j
        have st := wb_step (s := s) (c := c) g4 g2
        have lw := we_lt (fun t _ => wcf_7 s i c j t)
        refine aa_go (aa_iload0 iX12_bites_11) (aa_go (aa_iload4 iX12_bites_12) (aa_go (aa_cSi iX12_bites_14 (m_rowOf hs g4) (by decide) lc_X12_rowOf lk_X12_251 rfl (Nat.le_of_ble_eq_true rfl)) (aa_go (aa_iload2 iX12_bites_17) (aa_go (aa_mminN iX12_bites_18 (by omega) lk_X12_72 (Nat.le_of_ble_eq_true rfl) (by omega) (by omega)) (aa_go (aa_istore5 iX12_bites_21 rfl (by decide)) (aa_go (aa_iload3 iX12_bites_23) (aa_go (aa_bipush iX12_bites_24 kb_7) ?_)))))))
        refine aa_go (aa_iconst iX12_bites_26 ki_3) (aa_go (aa_iload4 iX12_bites_27) (aa_go (aa_imulN iX12_bites_29 ) (aa_go (aa_ishlN iX12_bites_30 (by omega)) (aa_go (aa_iconst iX12_bites_31 ki_m1) (aa_go (aa_ixor iX12_bites_32) (aa_go (aa_iandC iX12_bites_33) (aa_go (aa_iload5 iX12_bites_34) ?_)))))))
        refine aa_go (aa_iconst iX12_bites_36 ki_3) (aa_go (aa_iload4 iX12_bites_37) (aa_go (aa_imulN iX12_bites_39 ) (aa_go (aa_ishlN iX12_bites_40 (by omega)) ?_)))
        refine aa_go (aa_iorN iX12_bites_41 ) ?_
        refine aa_go (aa_top (y := nI (we (wcf s i c (j + 1)))) (by rw [← st])) ?_
        refine aa_go (aa_istore3 iX12_bites_42 rfl (by decide)) (aa_go (aa_iincN4 (k := 1) iX12_bites_43 rfl (by decide)) (aa_go (aa_goto iX12_bites_46) ?_))
        exact ih (j + 1) _ (by omega) (by omega) (by omega)
  have e0 : we (wcf s i c i) = s := by
    have : wcf s i c i = wr s := by
      funext t
      unfold wcf
      rw [if_neg (by omega)]
    rw [this, we_wr hs]
  have key : aa_V mX12_bites 2 0 [some (.int (nI s)), some (.int (nI i)), some (.int (nI c)), none, none, none] [] σ (fun ra σ' => ra = some (.int (nI (cut s i c))) ∧ σ' = σ) := by
    refine aa_go (aa_iload0 iX12_bites_0) (aa_go (aa_istore3 iX12_bites_1 rfl (by decide)) (aa_go (aa_iload1 iX12_bites_2) (aa_go (aa_istore4 iX12_bites_3 rfl (by decide)) ?_)))
    have := loop 5 i none (by omega) (Nat.le_refl _) (by omega)
    rw [e0] at this
    exact this
  obtain ⟨ra, σ', ⟨rfl, rfl⟩, hS9⟩ := aa_S_of (avs := [.int (nI s), .int (nI i), .int (nI c)]) (by decide) 3 [some (.int (nI s)), some (.int (nI i)), some (.int (nI c)), none, none, none] rfl rfl key
  exact hS9
theorem m_winWall : ∀ m s (σ : aa_St), ws s ≤ m → s < 4096 → aa_W r dy σ → MMK Q vL σ.1 → ∃ σ' : aa_St, (FrA [74, 75] σ σ' ∧ MMK Q vL σ'.1) ∧ aa_SX mX12_winWall (4 + m) [.ref 63, .int (nI s)] σ (some (.int (nI (wv s).toNat))) σ' := by
  intro m
  induction m using Nat.strongRecOn with
  | ind m ih =>
    intro s σ hm hs hW hK
    have pl : s < 196608 := by omega
    have fin : ∀ (σ1 : aa_St) (b : Bool) y3 y4, FrA [74, 75] σ σ1 → MMK Q vL σ1.1 → b = wv s → aa_V mX12_winWall (4 + m) 85 [some (.ref 63), some (.int (nI s)), some (.int (nI b.toNat)), y3, y4] [] σ1 (fun ra σ' => ra = some (.int (nI (wv s).toNat)) ∧ FrA [74, 75] σ σ' ∧ MMK Q vL σ'.1) := by
      intro σ1 b y3 y4 hF hK1 hb
      subst hb
      have hW1 := hF.W hW
      have hS := m_keeps hW1 pl hK1.1 (nI (wv s).toNat)
      refine aa_go (aa_aload0 iX12_winWall_85) (aa_go (aa_iload1 iX12_winWall_86) (aa_go (aa_iload2 iX12_winWall_87) (aa_go (aa_cSi iX12_winWall_88 (m_flag (wv s)) (by omega) lc_X12_flag lk_X12_31 rfl (Nat.le_of_ble_eq_true rfl)) (aa_go (aa_cVi iX12_winWall_91 (hS) (by omega) lc_X12_keeps lk_X12_186 (sh_63 hW1) rfl rfl (Nat.le_of_ble_eq_true rfl)) ?_))))
      refine aa_iret iX12_winWall_94 rfl ?_
      exact ⟨rfl, (hF.s (by decide) _ _).s (by decide) _ _, hK1.set (p := s)⟩
    have outer : ∀ f i (σ1 : aa_St) (b : Bool) y4, 4 - i < f → i ≤ 4 → FrA [74, 75] σ σ1 → MMK Q vL σ1.1 → (b = true → wv s = true) → (b = false → s ≠ 0 ∧ (wp s i 0).find? (fun x => !wv (cut s x.1 x.2)) = none) → aa_V mX12_winWall (4 + m) 27 [some (.ref 63), some (.int (nI s)), some (.int (nI b.toNat)), some (.int (nI i)), y4] [] σ1 (fun ra σ' => ra = some (.int (nI (wv s).toNat)) ∧ FrA [74, 75] σ σ' ∧ MMK Q vL σ'.1) := by
      intro f
      induction f with
      | zero => intro i σ1 b y4 g1; omega
      | succ f ihf =>
        intro i σ1 b y4 g1 g2 hF hK1 hb1 hb2
        have hW1 := hF.W hW
        refine aa_go (aa_iload3 iX12_winWall_27) (aa_go (aa_iconst iX12_winWall_28 ki_4) ?_)
        refine aa_ic_geN iX12_winWall_29 (by omega) (by omega) (fun g3 => ?_) (fun g3 => ?_)
        · skip
          have e : i = 4 := by omega
          subst e
          refine fin σ1 b _ _ hF hK1 ?_
          cases b with
          | true => exact (hb1 rfl).symm
          | false =>
            obtain ⟨q1, q2⟩ := hb2 rfl
            rw [wv_eq, wst, wml, q2, decide_eq_false q1]; rfl
        · skip
          refine aa_go (aa_iload2 iX12_winWall_32) ?_
          refine aa_if_neB iX12_winWall_33 (fun g4 => ?_) (fun g4 => ?_)
          · skip
            exact fin σ1 b _ _ hF hK1 (by rw [g4]; exact (hb1 g4).symm)
          · skip
            subst g4
            have wl := wr_le s i
            have inner : ∀ f2 c (σ2 : aa_St) (b : Bool), wr s i - c < f2 → c ≤ wr s i → FrA [74, 75] σ σ2 → MMK Q vL σ2.1 → (b = true → wv s = true) → (b = false → s ≠ 0 ∧ (wp s i c).find? (fun x => !wv (cut s x.1 x.2)) = none) → aa_V mX12_winWall (4 + m) 39 [some (.ref 63), some (.int (nI s)), some (.int (nI b.toNat)), some (.int (nI i)), some (.int (nI c))] [] σ2 (fun ra σ' => ra = some (.int (nI (wv s).toNat)) ∧ FrA [74, 75] σ σ' ∧ MMK Q vL σ'.1) := by
              intro f2
              induction f2 with
              | zero => intro c σ2 b g1; omega
              | succ f2 ih2 =>
                intro c σ2 b k1 k2 hF2 hK2 kb1 kb2
                have hW2 := hF2.W hW
                refine aa_go (aa_iload4 iX12_winWall_39) (aa_go (aa_iload1 iX12_winWall_41) (aa_go (aa_iload3 iX12_winWall_42) (aa_go (aa_cSi iX12_winWall_43 (m_rowOf hs g3) (by omega) lc_X12_rowOf lk_X12_251 rfl (Nat.le_of_ble_eq_true rfl)) ?_)))
                refine aa_ic_geN iX12_winWall_46 (by omega) (by omega) (fun k3 => ?_) (fun k3 => ?_)
                · skip
                  have e : c = wr s i := by omega
                  subst e
                  refine aa_go (aa_iincN3 (k := 1) iX12_winWall_79 rfl (by decide)) (aa_go (aa_goto iX12_winWall_82) ?_)
                  exact ihf (i + 1) σ2 b _ (by omega) (by omega) hF2 hK2 kb1 (fun q => by rw [wp_i]; exact kb2 q)
                · skip
                  refine aa_go (aa_iload2 iX12_winWall_49) ?_
                  refine aa_if_neB iX12_winWall_50 (fun k4 => ?_) (fun k4 => ?_)
                  · skip
                    refine aa_go (aa_iincN3 (k := 1) iX12_winWall_79 rfl (by decide)) (aa_go (aa_goto iX12_winWall_82) ?_)
                    exact ihf (i + 1) σ2 b _ (by omega) (by omega) hF2 hK2 kb1 (fun q => by rw [q] at k4; simp at k4)
                  · skip
                    obtain ⟨q1, q2⟩ := kb2 k4
                    obtain ⟨σ3, ⟨hF3, hK3⟩, hS3⟩ := ih (m - 1) (by have := ws_cut g3 k3; omega) (cut s i c) σ2 (by have := ws_cut g3 k3; omega) (cut_lt s i c) hW2 hK2
                    have mp : 0 < m := by have := ws_cut g3 k3; omega
                    refine aa_go (aa_aload0 iX12_winWall_53) (aa_go (aa_iload1 iX12_winWall_54) (aa_go (aa_iload3 iX12_winWall_55) (aa_go (aa_iload4 iX12_winWall_56) (aa_go (aa_cSi iX12_winWall_58 (m_bites hs g3 (by omega)) (by omega) lc_X12_bites lk_X12_254 rfl (Nat.le_of_ble_eq_true rfl)) (aa_go (aa_cVi iX12_winWall_61 (hS3) (by omega) lc_X12_winWall lk_X12_257 (sh_63 hW2) rfl rfl (Nat.le_of_ble_eq_true rfl)) ?_)))))
                    refine aa_if_neB iX12_winWall_64 (fun k5 => ?_) (fun k5 => ?_)
                    · skip
                      refine aa_go (aa_iconst iX12_winWall_71 ki_0) (aa_go (aa_istore2 iX12_winWall_72 rfl (by decide)) (aa_go (aa_iincN4 (k := 1) iX12_winWall_73 rfl (by decide)) (aa_go (aa_goto iX12_winWall_76) ?_)))
                      exact ih2 (c + 1) σ3 false (by omega) (by omega) (hF2.tr hF3) hK3 (fun q => by simp at q) (fun _ => ⟨q1, by rw [wp_c, List.find?_append, q2]; simp [k5]⟩)
                    · skip
                      refine aa_go (aa_iconst iX12_winWall_67 ki_1) (aa_go (aa_goto iX12_winWall_68) (aa_go (aa_istore2 iX12_winWall_72 rfl (by decide)) (aa_go (aa_iincN4 (k := 1) iX12_winWall_73 rfl (by decide)) (aa_go (aa_goto iX12_winWall_76) ?_))))
                      exact ih2 (c + 1) σ3 true (by omega) (by omega) (hF2.tr hF3) hK3 (fun _ => wv_t g3 k3 k5) (fun q => by simp at q)
            refine aa_go (aa_iconst iX12_winWall_36 ki_0) (aa_go (aa_istore4 iX12_winWall_37 rfl (by decide)) ?_)
            exact inner (wr s i + 1) 0 σ1 false (by omega) (by omega) hF hK1 (fun q => by simp at q) hb2
    have key : aa_V mX12_winWall (4 + m) 0 [some (.ref 63), some (.int (nI s)), none, none, none] [] σ (fun ra σ' => ra = some (.int (nI (wv s).toNat)) ∧ FrA [74, 75] σ σ' ∧ MMK Q vL σ'.1) := by
      obtain ⟨q, hq1, hq2, hq3⟩ := hK.2.2 s pl
      have hQ := hK.2.1
      refine aa_go (aa_aload0 iX12_winWall_0) (aa_go (aa_iload1 iX12_winWall_1) (aa_go (aa_cVi iX12_winWall_2 (m_isKnown hW pl hq2 hK.1 (by omega) (by omega)) (by omega) lc_X12_isKnown lk_X12_180 (sh_63 hW) rfl rfl (Nat.le_of_ble_eq_true rfl)) ?_))
      refine aa_if_eqB iX12_winWall_5 (fun g1 => ?_) (fun g1 => ?_)
      · skip
        refine aa_go (aa_iload1 iX12_winWall_15) ?_
        refine aa_if_neN iX12_winWall_16 (by omega) (fun g2 => ?_) (fun g2 => ?_)
        · skip
          refine aa_go (aa_iconst iX12_winWall_23 ki_0) (aa_go (aa_istore2 iX12_winWall_24 rfl (by decide)) (aa_go (aa_iconst iX12_winWall_25 ki_0) (aa_go (aa_istore3 iX12_winWall_26 rfl (by decide)) ?_)))
          exact outer 5 0 σ false _ (by omega) (by omega) FrA.rf hK (fun q => by simp at q) (fun _ => ⟨by omega, rfl⟩)
        · skip
          have e : s = 0 := by omega
          refine aa_go (aa_iconst iX12_winWall_19 ki_1) (aa_go (aa_goto iX12_winWall_20) (aa_go (aa_istore2 iX12_winWall_24 rfl (by decide)) (aa_go (aa_iconst iX12_winWall_25 ki_0) (aa_go (aa_istore3 iX12_winWall_26 rfl (by decide)) ?_))))
          exact outer 5 0 σ true _ (by omega) (by omega) FrA.rf hK (fun _ => by rw [wv_eq, decide_eq_true e]; rfl) (fun q => by simp at q)
      · skip
        have hq4 : σ.1 75 s = nI (wv s).toNat := hq3 (of_decide_eq_true g1)
        refine aa_go (aa_aload0 iX12_winWall_8) (aa_go (aa_getR iX12_winWall_9 fl_X12_174 (sh_63 hW) rfl) (aa_go (aa_iload1 iX12_winWall_12) (aa_go (aa_ialE iX12_winWall_13 (sh_75 hW) (by omega) (by omega) (hq4)) ?_)))
        refine aa_iret iX12_winWall_14 rfl ?_
        exact ⟨rfl, FrA.rf, hK⟩
    obtain ⟨ra, σ', ⟨rfl, h1⟩, hS9⟩ := aa_S_of (avs := [.ref 63, .int (nI s)]) (by decide) 3 [some (.ref 63), some (.int (nI s)), none, none, none] rfl rfl key
    exact ⟨σ', h1, hS9⟩
end
