section
variable {r : Nat → Nat} {dy : List aa_Shp} {σ : aa_St} {P : pl_T} {hs : List Nat}
theorem c_X6_addV (hW : aa_W r dy σ) (ok : pl_ok P) (hA : XA P σ.1) (hn : pl_n P < 14) {w h u : Nat} {bk : Bool} (hw : w ≤ 9) (h7 : h ≤ 7) (hu : u < 2 ^ pl_n P) (hb : bk = true → pl_b P < 2) {Q : Option Value → aa_St → Prop}
    (hQ : ∀ σ' : aa_St, σ'.2 = σ.2 → XA (pl_add P w h u bk) σ'.1 → (∀ a, (a < 7 ∨ 14 < a) → σ'.1 a = σ.1 a) → (∀ j, j ≠ 13 → j ≠ 14 → σ'.1 7 j = σ.1 7 j) → Q none σ') : aa_V mX6_add 1 0 [some (.ref 7), some (.int (nI w)), some (.int (nI h)), some (.int (nI u)), some (.int (nI bk.toNat)), none, none] [] σ Q := by
  obtain ⟨a1, a2, a3, a4, a5, a6⟩ := id hA
  have hb2 := ok.2.1
  have u14 := pw14 (k := pl_n P) (by omega)
  -- the end: 178
  have T3 : ∀ (σ3 : aa_St) y6, σ3.2 = σ.2 → (∀ a, (a < 7 ∨ 14 < a) → σ3.1 a = σ.1 a) → σ3.1 7 = σ.1 7 → σ3.1 13 = σ.1 13 → (∀ k, k < pl_n P + 1 → σ3.1 8 k = nI (pl_w (pl_add P w h u bk) k) ∧ σ3.1 9 k = nI (pl_h (pl_add P w h u bk) k) ∧ σ3.1 10 k = nI (pl_u (pl_add P w h u bk) k) ∧ σ3.1 11 k = nI (pl_ab (pl_add P w h u bk) k) ∧ σ3.1 12 k = nI (pl_tc (pl_add P w h u bk) k)) → (∀ k, pl_n P + 1 ≤ k → σ3.1 8 k = nI 0) → (∀ q, q ≤ 3 → σ3.1 14 q = nI (pl_al (pl_add P w h u bk) q)) →
      aa_V mX6_add 1 178 [some (.ref 7), some (.int (nI w)), some (.int (nI h)), some (.int (nI u)), some (.int (nI bk.toNat)), some (.int (nI (2 ^ pl_n P))), y6] [] σ3 Q := by
    intro σ3 y6 e0 e1 e2 e3 e4 e5 e6
    have hW3 : aa_W r dy σ3 := by unfold aa_W; rw [e0]; exact hW
    have f1 : σ3.1 7 13 = nI (pl_n P) := by rw [e2]; exact a1
    have f2 : σ3.1 7 14 = nI (pl_b P) := by rw [e2]; exact a2
    refine aa_go (aa_iload4 iX6_add_178) ?_
    refine aa_if_eqB iX6_add_180 (fun g1 => ?_) (fun g1 => ?_)
    · skip
      subst g1
      refine aa_go (aa_aload0 iX6_add_214) (aa_go (aa_dup iX6_add_215 rfl) (aa_go (aa_getE iX6_add_216 fl_X6_52 (sh_7 hW3) rfl f1) (aa_go (aa_iconst iX6_add_219 ki_1) (aa_go (aa_iaddN iX6_add_220 ) (aa_go (aa_putI iX6_add_221 fl_X6_52 (fun h => nomatch h) (sh_7 hW3) rfl ⟨rfl, rfl⟩) ?_)))))
      refine aa_vret iX6_add_224 rfl ?_
      refine hQ _ e0 ⟨rfl, ?_, e4, e5, fun j hj => ?_, e6⟩ (fun a ha => ?_) (fun j h1 h2 => ?_)
      · exact f2
      · exact (congrFun e3 j).trans (a5 j hj)
      · refine Eq.trans (aa_u2_ne (by omega)) (e1 a ha)
      · show (if j = 13 then _ else σ3.1 7 j) = _
        rw [if_neg h1, e2]
    · skip
      subst g1
      have hb3 := hb rfl
      refine aa_go (aa_aload0 iX6_add_183) (aa_go (aa_getE iX6_add_184 fl_X6_55 (sh_7 hW3) rfl f2) (aa_go (aa_iconst iX6_add_187 ki_2) ?_))
      refine aa_ic_geN iX6_add_188 (by omega) (by omega) (fun g2 => ?_) (fun g2 => ?_)
      · skip
        omega
      · skip
        refine aa_go (aa_aload0 iX6_add_191) (aa_go (aa_getR iX6_add_192 fl_X6_27 (sh_7 hW3) rfl) (aa_go (aa_aload0 iX6_add_195) (aa_go (aa_getE iX6_add_196 fl_X6_55 (sh_7 hW3) rfl f2) (aa_go (aa_aload0 iX6_add_199) (aa_go (aa_getE iX6_add_200 fl_X6_52 (sh_7 hW3) rfl f1) (aa_go (aa_iasN iX6_add_203 (sh_13 hW3) (by omega) (by omega)) (aa_go (aa_aload0 iX6_add_204) ?_)))))))
        refine aa_go (aa_dup iX6_add_205 rfl) (aa_go (aa_getE iX6_add_206 fl_X6_55 (sh_7 hW3) rfl f2) (aa_go (aa_iconst iX6_add_209 ki_1) (aa_go (aa_iaddN iX6_add_210 ) (aa_go (aa_putI iX6_add_211 fl_X6_55 (fun h => nomatch h) (sh_7 hW3) rfl ⟨rfl, rfl⟩) (aa_go (aa_aload0 iX6_add_214) (aa_go (aa_dup iX6_add_215 rfl) (aa_go (aa_getE iX6_add_216 fl_X6_52 (sh_7 hW3) rfl f1) ?_)))))))
        refine aa_go (aa_iconst iX6_add_219 ki_1) (aa_go (aa_iaddN iX6_add_220 ) (aa_go (aa_putI iX6_add_221 fl_X6_52 (fun h => nomatch h) (sh_7 hW3) rfl ⟨rfl, rfl⟩) ?_))
        refine aa_vret iX6_add_224 rfl ?_
        refine hQ _ e0 ⟨rfl, rfl, e4, e5, fun j hj => ?_, e6⟩ (fun a ha => ?_) (fun j h1 h2 => ?_)
        · rw [pl_add_b] at hj
          show (if j = pl_b P then nI (pl_n P) else σ3.1 13 j) = nI (nup (pl_k P) (pl_b P) (pl_n P) j)
          by_cases e : j = pl_b P
          · rw [if_pos e, e, nup_eq]
          · rw [if_neg e, nup_ne e]
            exact (congrFun e3 j).trans (a5 j (by simp at hj; omega))
        · refine Eq.trans (aa_u2_ne (by omega)) (Eq.trans (aa_u2_ne (by omega)) (Eq.trans (aa_u2_ne (by omega)) (e1 a ha)))
        · show (if j = 13 then _ else if j = 14 then _ else σ3.1 7 j) = _
          rw [if_neg h1, if_neg h2, e2]
  -- who may take it: 139
  have T2 : ∀ f q (σ3 : aa_St), 4 - q < f → q ≤ 4 → σ3.2 = σ.2 → (∀ a, (a < 7 ∨ 14 < a) → σ3.1 a = σ.1 a) → σ3.1 7 = σ.1 7 → σ3.1 13 = σ.1 13 → (∀ k, k < pl_n P + 1 → σ3.1 8 k = nI (pl_w (pl_add P w h u bk) k) ∧ σ3.1 9 k = nI (pl_h (pl_add P w h u bk) k) ∧ σ3.1 10 k = nI (pl_u (pl_add P w h u bk) k) ∧ σ3.1 11 k = nI (pl_ab (pl_add P w h u bk) k) ∧ σ3.1 12 k = nI (pl_tc (pl_add P w h u bk) k)) → (∀ k, pl_n P + 1 ≤ k → σ3.1 8 k = nI 0) → (∀ p, p < q → σ3.1 14 p = nI (pl_al (pl_add P w h u bk) p)) → (∀ p, q ≤ p → p ≤ 3 → σ3.1 14 p = nI (pl_al P p)) →
      aa_V mX6_add 1 139 [some (.ref 7), some (.int (nI w)), some (.int (nI h)), some (.int (nI u)), some (.int (nI bk.toNat)), some (.int (nI (2 ^ pl_n P))), some (.int (nI q))] [] σ3 Q := by
    intro f
    induction f with
    | zero => intro q σ3 g1; omega
    | succ f ih =>
      intro q σ3 g1 g2 e0 e1 e2 e3 e4 e5 e6 e7
      have hW3 : aa_W r dy σ3 := by unfold aa_W; rw [e0]; exact hW
      have skip : ∀ (hq : q ≤ 3), (q == 3 || h.testBit q) = false → aa_V mX6_add 1 172 [some (.ref 7), some (.int (nI w)), some (.int (nI h)), some (.int (nI u)), some (.int (nI bk.toNat)), some (.int (nI (2 ^ pl_n P))), some (.int (nI q))] [] σ3 Q := by
        intro hq hf
        refine aa_go (aa_iincN6 (k := 1) iX6_add_172 rfl (by decide)) (aa_go (aa_goto iX6_add_175) ?_)
        refine ih (q + 1) σ3 (by omega) (by omega) e0 e1 e2 e3 e4 e5 (fun p hp => ?_) (fun p hp => e7 p (by omega))
        rcases (show p < q ∨ p = q by omega) with h1 | h1
        · exact e6 p h1
        · subst h1; rw [pl_add_al, hf]; exact e7 p (Nat.le_refl _) hq
      have put : ∀ (hq : q ≤ 3), (q == 3 || h.testBit q) = true → aa_V mX6_add 1 160 [some (.ref 7), some (.int (nI w)), some (.int (nI h)), some (.int (nI u)), some (.int (nI bk.toNat)), some (.int (nI (2 ^ pl_n P))), some (.int (nI q))] [] σ3 Q := by
        intro hq hf
        refine aa_go (aa_aload0 iX6_add_160) (aa_go (aa_getR iX6_add_161 fl_X6_30 (sh_7 hW3) rfl) (aa_go (aa_iload6 iX6_add_164) (aa_go (aa_dup2 iX6_add_166 rfl rfl) (aa_go (aa_ialE iX6_add_167 (sh_14 hW3) (by omega) (by omega) (e7 q (Nat.le_refl _) hq)) (aa_go (aa_iload5 iX6_add_168) (aa_go (aa_iorN iX6_add_170 ) (aa_go (aa_iasN iX6_add_171 (sh_14 hW3) (by omega) (by omega)) ?_)))))))
        refine aa_go (aa_iincN6 (k := 1) iX6_add_172 rfl (by decide)) (aa_go (aa_goto iX6_add_175) ?_)
        refine ih (q + 1) _ (by omega) (by omega) e0 (fun a ha => Eq.trans (aa_u2_ne (by omega)) (e1 a ha)) e2 e3 e4 e5 (fun p hp => ?_) (fun p hp hp3 => ?_)
        · show (if p = q then nI (pl_al P q ||| 2 ^ pl_n P) else σ3.1 14 p) = _
          rcases (show p < q ∨ p = q by omega) with h1 | h1
          · rw [if_neg (by omega)]; exact e6 p h1
          · subst h1; rw [if_pos rfl, pl_add_al, hf]; rfl
        · show (if p = q then nI (pl_al P q ||| 2 ^ pl_n P) else σ3.1 14 p) = _
          rw [if_neg (by omega)]; exact e7 p (by omega) hp3
      refine aa_go (aa_iload6 iX6_add_139) (aa_go (aa_iconst iX6_add_141 ki_3) ?_)
      refine aa_ic_gtN iX6_add_142 (by omega) (by omega) (fun g3 => ?_) (fun g3 => ?_)
      · skip
        exact T3 σ3 _ e0 e1 e2 e3 e4 e5 (fun p hp => e6 p (by omega))
      · skip
        refine aa_go (aa_iload6 iX6_add_145) (aa_go (aa_iconst iX6_add_147 ki_3) ?_)
        refine aa_ic_eqN iX6_add_148 (by omega) (by omega) (fun g4 => ?_) (fun g4 => ?_)
        · skip
          exact put g3 (by rw [g4]; rfl)
        · skip
          refine aa_go (aa_iload2 iX6_add_151) (aa_go (aa_iload6 iX6_add_152) (aa_go (aa_ishrN iX6_add_154 (by omega) (by omega)) (aa_go (aa_iconst iX6_add_155 ki_1) (aa_go (aa_ibit iX6_add_156) ?_))))
          refine aa_if_eqB iX6_add_157 (fun g5 => ?_) (fun g5 => ?_)
          · skip
            exact skip g3 (by rw [g5, beq_eq_false_iff_ne.mpr g4]; rfl)
          · skip
            exact put g3 (by rw [g5]; simp)
  -- what is above, what it touches: 71
  have T1 : ∀ f k (σ3 : aa_St), pl_n P - k < f → k ≤ pl_n P → σ3.2 = σ.2 → (∀ a, (a < 7 ∨ 14 < a) → σ3.1 a = σ.1 a) → σ3.1 7 = σ.1 7 → σ3.1 13 = σ.1 13 → σ3.1 14 = σ.1 14 → (∀ k, k < pl_n P + 1 → σ3.1 8 k = nI (pl_w (pl_add P w h u bk) k) ∧ σ3.1 9 k = nI (pl_h (pl_add P w h u bk) k) ∧ σ3.1 10 k = nI (pl_u (pl_add P w h u bk) k)) → (∀ k, pl_n P + 1 ≤ k → σ3.1 8 k = nI 0) → (∀ i, (i < k ∨ i = pl_n P) → σ3.1 11 i = nI (pl_ab (pl_add P w h u bk) i) ∧ σ3.1 12 i = nI (pl_tc (pl_add P w h u bk) i)) → (∀ i, k ≤ i → i < pl_n P → σ3.1 11 i = nI (pl_ab P i) ∧ σ3.1 12 i = nI (pl_tc P i)) →
      aa_V mX6_add 1 71 [some (.ref 7), some (.int (nI w)), some (.int (nI h)), some (.int (nI u)), some (.int (nI bk.toNat)), some (.int (nI (2 ^ pl_n P))), some (.int (nI k))] [] σ3 Q := by
    intro f
    induction f with
    | zero => intro k σ3 g1; omega
    | succ f ih =>
      intro k σ3 g1 g2 e0 e1 e2 e3 e4 e5 e6 e7 e8
      have hW3 : aa_W r dy σ3 := by unfold aa_W; rw [e0]; exact hW
      have f1 : σ3.1 7 13 = nI (pl_n P) := by rw [e2]; exact a1
      refine aa_go (aa_iload6 iX6_add_71) (aa_go (aa_aload0 iX6_add_73) (aa_go (aa_getE iX6_add_74 fl_X6_52 (sh_7 hW3) rfl f1) ?_))
      refine aa_ic_geN iX6_add_77 (by omega) (by omega) (fun g3 => ?_) (fun g3 => ?_)
      · skip
        have e : k = pl_n P := by omega
        subst e
        refine aa_go (aa_iconst iX6_add_136 ki_0) (aa_go (aa_istore6 iX6_add_137 rfl (by decide)) ?_)
        refine T2 5 0 σ3 (by omega) (by omega) e0 e1 e2 e3 (fun k hk => ?_) e6 (fun p hp => by omega) (fun p _ hp => (congrFun e4 p).trans (a6 p hp))
        obtain ⟨x1, x2, x3⟩ := e5 k hk
        obtain ⟨x4, x5⟩ := e7 k (by omega)
        exact ⟨x1, x2, x3, x4, x5⟩
      · skip
        have ui := (ok.2.2.1 k g3).2.2.2
        have ui2 : pl_u P k < 2 ^ pl_n P := Nat.lt_of_lt_of_le ui (pw_lt (by omega))
        have ab14 := pl_ab_lt P k
        -- the second half of the body: 109
        have B : ∀ (σ4 : aa_St), σ4.2 = σ3.2 → (∀ a, a ≠ 11 → σ4.1 a = σ3.1 a) → (∀ i, i ≠ k → σ4.1 11 i = σ3.1 11 i) → σ4.1 11 k = nI (pl_ab (pl_add P w h u bk) k) → aa_V mX6_add 1 109 [some (.ref 7), some (.int (nI w)), some (.int (nI h)), some (.int (nI u)), some (.int (nI bk.toNat)), some (.int (nI (2 ^ pl_n P))), some (.int (nI k))] [] σ4 Q := by
          intro σ4 k0 k1 k2 k3
          have hW4 : aa_W r dy σ4 := by unfold aa_W; rw [k0]; exact hW3
          have tk : σ4.1 12 k = nI (pl_tc P k) := (congrFun (k1 12 (by decide)) k).trans (e8 k (Nat.le_refl _) g3).2
          refine aa_go (aa_iload3 iX6_add_109) (aa_go (aa_iload6 iX6_add_110) (aa_go (aa_ishrN iX6_add_112 (by omega) (by omega)) (aa_go (aa_iconst iX6_add_113 ki_1) (aa_go (aa_ibit iX6_add_114) ?_))))
          refine aa_if_eqB iX6_add_115 (fun g4 => ?_) (fun g4 => ?_)
          · skip
            refine aa_go (aa_iincN6 (k := 1) iX6_add_130 rfl (by decide)) (aa_go (aa_goto iX6_add_133) ?_)
            refine ih (k + 1) σ4 (by omega) (by omega) (k0.trans e0) (fun a ha => (k1 a (by omega)).trans (e1 a ha)) ((k1 7 (by decide)).trans e2) ((k1 13 (by decide)).trans e3) ((k1 14 (by decide)).trans e4) (fun q hq => ?_) (fun q hq => by rw [k1 8 (by decide)]; exact e6 q hq) (fun i hi => ?_) (fun i hi hi2 => ?_)
            · rw [k1 8 (by decide), k1 9 (by decide), k1 10 (by decide)]; exact e5 q hq
            · by_cases hik : i = k
              · subst hik
                exact ⟨k3, by rw [pl_add_tc g3 ui2, g4]; exact tk⟩
              · rw [k2 i hik, k1 12 (by decide)]; exact e7 i (by omega)
            · rw [k2 i (by omega), k1 12 (by decide)]; exact e8 i (by omega) hi2
          · skip
            refine aa_go (aa_aload0 iX6_add_118) (aa_go (aa_getR iX6_add_119 fl_X6_24 (sh_7 hW4) rfl) (aa_go (aa_iload6 iX6_add_122) (aa_go (aa_dup2 iX6_add_124 rfl rfl) (aa_go (aa_ialE iX6_add_125 (sh_12 hW4) (by omega) (by omega) (tk)) (aa_go (aa_iload5 iX6_add_126) (aa_go (aa_iorN iX6_add_128 ) (aa_go (aa_iasN iX6_add_129 (sh_12 hW4) (by omega) (by omega)) ?_)))))))
            refine aa_go (aa_iincN6 (k := 1) iX6_add_130 rfl (by decide)) (aa_go (aa_goto iX6_add_133) ?_)
            refine ih (k + 1) _ (by omega) (by omega) (k0.trans e0) (fun a ha => Eq.trans (aa_u2_ne (by omega)) ((k1 a (by omega)).trans (e1 a ha))) ((k1 7 (by decide)).trans e2) ((k1 13 (by decide)).trans e3) ((k1 14 (by decide)).trans e4) (fun q hq => ?_) (fun q hq => ?_) (fun i hi => ?_) (fun i hi hi2 => ?_)
            · show σ4.1 8 q = _ ∧ σ4.1 9 q = _ ∧ σ4.1 10 q = _
              rw [k1 8 (by decide), k1 9 (by decide), k1 10 (by decide)]; exact e5 q hq
            · show σ4.1 8 q = _
              rw [k1 8 (by decide)]; exact e6 q hq
            · show σ4.1 11 i = _ ∧ (if i = k then nI (pl_tc P k ||| 2 ^ pl_n P) else σ4.1 12 i) = _
              by_cases hik : i = k
              · subst hik
                exact ⟨k3, by rw [if_pos rfl, pl_add_tc g3 ui2, g4]; rfl⟩
              · rw [k2 i hik, if_neg hik, k1 12 (by decide)]; exact e7 i (by omega)
            · show σ4.1 11 i = _ ∧ (if i = k then nI (pl_tc P k ||| 2 ^ pl_n P) else σ4.1 12 i) = _
              rw [k2 i (by omega), if_neg (by omega), k1 12 (by decide)]; exact e8 i (by omega) hi2
        have lt9 : u &&& (pl_ab P k ||| 1 <<< k) < 2147483648 := bb_and_l (by omega)
        refine aa_go (aa_iload3 iX6_add_80) (aa_go (aa_aload0 iX6_add_81) (aa_go (aa_getR iX6_add_82 fl_X6_21 (sh_7 hW3) rfl) (aa_go (aa_iload6 iX6_add_85) (aa_go (aa_ialE iX6_add_87 (sh_11 hW3) (by omega) (by omega) ((e8 k (Nat.le_refl _) g3).1)) (aa_go (aa_iconst iX6_add_88 ki_1) (aa_go (aa_iload6 iX6_add_89) (aa_go (aa_ishlN iX6_add_91 (by omega)) ?_)))))))
        refine aa_go (aa_iorN iX6_add_92 ) (aa_go (aa_iandN iX6_add_93 ) ?_)
        refine aa_if_eqN iX6_add_94 lt9 (fun g4 => ?_) (fun g4 => ?_)
        · skip
          rw [Nat.one_shiftLeft] at g4
          exact B σ3 rfl (fun _ _ => rfl) (fun _ _ => rfl) (by rw [pl_add_ab g3 hu, if_pos g4]; exact (e8 k (Nat.le_refl _) g3).1)
        · skip
          rw [Nat.one_shiftLeft] at g4
          refine aa_go (aa_aload0 iX6_add_97) (aa_go (aa_getR iX6_add_98 fl_X6_21 (sh_7 hW3) rfl) (aa_go (aa_iload6 iX6_add_101) (aa_go (aa_dup2 iX6_add_103 rfl rfl) (aa_go (aa_ialE iX6_add_104 (sh_11 hW3) (by omega) (by omega) ((e8 k (Nat.le_refl _) g3).1)) (aa_go (aa_iload5 iX6_add_105) (aa_go (aa_iorN iX6_add_107 ) (aa_go (aa_iasN iX6_add_108 (sh_11 hW3) (by omega) (by omega)) ?_)))))))
          refine B _ rfl (fun a ha => aa_u2_ne ha) (fun i hi => ?_) ?_
          · show (if i = k then _ else σ3.1 11 i) = _
            rw [if_neg hi]
          · show (if k = k then nI (pl_ab P k ||| 2 ^ pl_n P) else σ3.1 11 k) = _
            rw [if_pos rfl, pl_add_ab g3 hu, if_neg g4]
  refine aa_go (aa_aload0 iX6_add_0) (aa_go (aa_getE iX6_add_1 fl_X6_52 (sh_7 hW) rfl a1) (aa_go (aa_bipush iX6_add_4 kb_14) ?_))
  refine aa_ic_ltN iX6_add_6 (by omega) (by omega) (fun g0 => ?_) (fun g0 => ?_)
  · skip
    refine aa_go (aa_iconst iX6_add_10 ki_1) (aa_go (aa_aload0 iX6_add_11) (aa_go (aa_getE iX6_add_12 fl_X6_52 (sh_7 hW) rfl a1) (aa_go (aa_ishlN iX6_add_15 (by omega)) ?_)))
    refine aa_go (aa_top (y := nI (2 ^ pl_n P)) (by rw [Nat.one_shiftLeft])) ?_
    refine aa_go (aa_istore5 iX6_add_16 rfl (by decide)) (aa_go (aa_aload0 iX6_add_18) (aa_go (aa_getR iX6_add_19 fl_X6_11 (sh_7 hW) rfl) (aa_go (aa_aload0 iX6_add_22) (aa_go (aa_getE iX6_add_23 fl_X6_52 (sh_7 hW) rfl a1) (aa_go (aa_iload1 iX6_add_26) (aa_go (aa_iasN iX6_add_27 (sh_8 hW) (by omega) (by omega)) (aa_go (aa_aload0 iX6_add_28) ?_)))))))
    refine aa_go (aa_getR iX6_add_29 fl_X6_15 (sh_7 hW) rfl) (aa_go (aa_aload0 iX6_add_32) (aa_go (aa_getE iX6_add_33 fl_X6_52 (sh_7 hW) rfl a1) (aa_go (aa_iload2 iX6_add_36) (aa_go (aa_iasN iX6_add_37 (sh_9 hW) (by omega) (by omega)) (aa_go (aa_aload0 iX6_add_38) (aa_go (aa_getR iX6_add_39 fl_X6_18 (sh_7 hW) rfl) (aa_go (aa_aload0 iX6_add_42) ?_)))))))
    refine aa_go (aa_getE iX6_add_43 fl_X6_52 (sh_7 hW) rfl a1) (aa_go (aa_iload3 iX6_add_46) (aa_go (aa_iasN iX6_add_47 (sh_10 hW) (by omega) (by omega)) (aa_go (aa_aload0 iX6_add_48) (aa_go (aa_getR iX6_add_49 fl_X6_21 (sh_7 hW) rfl) (aa_go (aa_aload0 iX6_add_52) (aa_go (aa_getE iX6_add_53 fl_X6_52 (sh_7 hW) rfl a1) (aa_go (aa_iconst iX6_add_56 ki_0) ?_)))))))
    refine aa_go (aa_iasN iX6_add_57 (sh_11 hW) (by omega) (by omega)) (aa_go (aa_aload0 iX6_add_58) (aa_go (aa_getR iX6_add_59 fl_X6_24 (sh_7 hW) rfl) (aa_go (aa_aload0 iX6_add_62) (aa_go (aa_getE iX6_add_63 fl_X6_52 (sh_7 hW) rfl a1) (aa_go (aa_iload3 iX6_add_66) (aa_go (aa_iasN iX6_add_67 (sh_12 hW) (by omega) (by omega)) (aa_go (aa_iconst iX6_add_68 ki_0) ?_)))))))
    refine aa_go (aa_istore6 iX6_add_69 rfl (by decide)) ?_
    refine T1 (pl_n P + 1) 0 _ (by omega) (by omega) rfl (fun a ha => ?_) rfl rfl rfl (fun k hk => ?_) (fun k hk => ?_) (fun i hi => ?_) (fun i _ hi => ?_)
    · exact Eq.trans (aa_u2_ne (by omega)) (Eq.trans (aa_u2_ne (by omega)) (Eq.trans (aa_u2_ne (by omega)) (Eq.trans (aa_u2_ne (by omega)) (aa_u2_ne (by omega)))))
    · show (if k = pl_n P then nI w else σ.1 8 k) = nI (nup (pl_w P) (pl_n P) w k) ∧ (if k = pl_n P then nI h else σ.1 9 k) = nI (nup (pl_h P) (pl_n P) h k) ∧ (if k = pl_n P then nI u else σ.1 10 k) = nI (nup (pl_u P) (pl_n P) u k)
      by_cases e : k = pl_n P
      · subst e; simp [nup_eq]
      · simp only [if_neg e, nup_ne e]
        obtain ⟨x1, x2, x3, -⟩ := a3 k (by omega)
        exact ⟨x1, x2, x3⟩
    · show (if k = pl_n P then nI w else σ.1 8 k) = nI 0
      rw [if_neg (by omega)]; exact a4 k (by omega)
    · have e : i = pl_n P := by omega
      subst e
      show (if pl_n P = pl_n P then nI 0 else _) = _ ∧ (if pl_n P = pl_n P then nI u else _) = _
      rw [if_pos rfl, if_pos rfl, pl_add_ab0, pl_add_tc0 ok hu]
      exact ⟨rfl, rfl⟩
    · show (if i = pl_n P then nI 0 else σ.1 11 i) = _ ∧ (if i = pl_n P then nI u else σ.1 12 i) = _
      rw [if_neg (by omega), if_neg (by omega)]
      obtain ⟨-, -, -, x1, x2⟩ := a3 i hi
      exact ⟨x1, x2⟩
  · skip
    omega
theorem c_X6_add (hW : aa_W r dy σ) (ok : pl_ok P) (hA : XA P σ.1) (hn : pl_n P < 14) {w h u : Nat} {bk : Bool} (hw : w ≤ 9) (h7 : h ≤ 7) (hu : u < 2 ^ pl_n P) (hb : bk = true → pl_b P < 2) :
    ∃ σ' : aa_St, (σ'.2 = σ.2 ∧ XA (pl_add P w h u bk) σ'.1 ∧ (∀ a, (a < 7 ∨ 14 < a) → σ'.1 a = σ.1 a) ∧ (∀ j, j ≠ 13 → j ≠ 14 → σ'.1 7 j = σ.1 7 j)) ∧ aa_SX mX6_add 1 [.ref 7, .int (nI w), .int (nI h), .int (nI u), .int (nI bk.toNat)] σ none σ' := by
  obtain ⟨r1, σ', ⟨rfl, h1⟩, hS⟩ := aa_S_of (avs := [.ref 7, .int (nI w), .int (nI h), .int (nI u), .int (nI bk.toNat)]) (by decide) 2 [some (.ref 7), some (.int (nI w)), some (.int (nI h)), some (.int (nI u)), some (.int (nI bk.toNat)), none, none] rfl rfl
    (c_X6_addV hW ok hA hn hw h7 hu hb (Q := fun r1 σ' => r1 = none ∧ (σ'.2 = σ.2 ∧ XA (pl_add P w h u bk) σ'.1 ∧ (∀ a, (a < 7 ∨ 14 < a) → σ'.1 a = σ.1 a) ∧ (∀ j, j ≠ 13 → j ≠ 14 → σ'.1 7 j = σ.1 7 j))) (fun σ' h1 h2 h3 h4 => ⟨rfl, h1, h2, h3, h4⟩))
  exact ⟨σ', h1, hS⟩
/-- the bits of those that are back, one after the other -/
def pl_hb (P : pl_T) (h : Nat) : Nat → Nat
  | 0 => h
  | k + 1 => pl_hb P h k ||| (((pl_hb P h k).testBit (pl_k P k)).toNat <<< (pl_n P + k))
theorem pl_hb_bit {P : pl_T} {h : Nat} (hh : h < 2 ^ pl_n P) (hk : ∀ j, j < pl_b P → pl_k P j < pl_n P) : ∀ k, k ≤ pl_b P → ∀ i, (pl_hb P h k).testBit i = (h.testBit i || (decide (pl_n P ≤ i) && (decide (i < pl_n P + k) && h.testBit (pl_k P (i - pl_n P)))))
  | 0, _, i => by
    rw [pl_hb]
    by_cases h1 : pl_n P ≤ i
    · simp only [show decide (i < pl_n P + 0) = false from decide_eq_false (by omega), Bool.false_and, Bool.and_false, Bool.or_false]
    · simp [h1]
  | k + 1, hk2, i => by
    have ih := pl_hb_bit hh hk k (by omega)
    rw [pl_hb, Nat.testBit_or, Nat.testBit_shiftLeft, ih (pl_k P k), ih i]
    have hkk := hk k (by omega)
    simp only [show ¬ pl_n P ≤ pl_k P k by omega, decide_false, Bool.false_and, Bool.or_false]
    by_cases h1 : i = pl_n P + k
    · subst h1
      have e2 : h.testBit (pl_n P + k) = false := bb_hi hh (by omega)
      simp [e2]
      cases h.testBit (pl_k P k) <;> rfl
    · have e3 : (h.testBit (pl_k P k)).toNat.testBit (i - (pl_n P + k)) = false ∨ ¬ i ≥ pl_n P + k := by
        by_cases h2 : i ≥ pl_n P + k
        · left
          obtain ⟨d, hd⟩ : ∃ d, i - (pl_n P + k) = d + 1 := ⟨i - (pl_n P + k) - 1, by omega⟩
          rw [hd]
          cases h.testBit (pl_k P k) <;> simp [Nat.testBit_succ]
        · right; exact h2
      have e4 : (i < pl_n P + (k + 1)) = (i < pl_n P + k) := by apply propext; omega
      rcases e3 with e3 | e3
      · simp [e3, e4]
      · simp [e3, e4]
theorem pl_hb_hm {P : pl_T} {h : Nat} (hh : h < 2 ^ pl_n P) (hk : ∀ j, j < pl_b P → pl_k P j < pl_n P) : pl_hb P h (pl_b P) = pl_hm P h := by
  apply bb_ext
  intro i
  rw [pl_hb_bit hh hk _ (Nat.le_refl _), pl_hm, Nat.testBit_or, bm_bit]
  cases h.testBit i <;> cases decide (pl_n P ≤ i) <;> cases decide (i < pl_n P + pl_b P) <;> simp
theorem pl_hb_lt {P : pl_T} {h : Nat} (hh : h < 2 ^ pl_n P) (hk : ∀ j, j < pl_b P → pl_k P j < pl_n P) {k : Nat} (h2 : k ≤ pl_b P) : pl_hb P h k < 2 ^ (pl_n P + pl_b P) := by
  apply bb_lt
  intro i hi
  rw [pl_hb_bit hh hk k h2, bb_hi hh (by omega)]
  simp [show ¬ i < pl_n P + k by omega]
theorem c_X6_splitHeaps (hW : aa_W r dy σ) (ok : pl_ok P) (hA : XA P σ.1) : ∃ σ' : aa_St, (σ'.2 = σ.2 ∧ XH P (pl_hl P (pl_n P)).1 σ'.1 ∧ (∀ a, a ≠ 7 → a ≠ 19 → σ'.1 a = σ.1 a) ∧ (∀ j, j ≠ 12 → σ'.1 7 j = σ.1 7 j)) ∧ aa_SX mX6_splitHeaps 2 [.ref 7] σ none σ' := by
  obtain ⟨a1, a2, a3, a4, a5, a6⟩ := id hA
  have hn := ok.1
  have hb2 := ok.2.1
  have hkk := ok.2.2.2.2.1
  have p16 : 2 ^ (pl_n P + pl_b P) ≤ 65536 := pw16 (by omega)
  have p14 : 2 ^ pl_n P ≤ 16384 := pw14 (by omega)
  have full : ∀ σ1 : aa_St, aa_W r dy σ1 → σ1.1 7 13 = nI (pl_n P) → aa_SX mX6_full 1 [.ref 7] σ1 (some (.int (nI (2 ^ pl_n P - 1)))) σ1 := by
    intro σ1 hW1 e
    refine aa_E_of (by decide) 0 [some (.ref 7)] rfl rfl ?_
    refine aa_go (aa_iconst iX6_full_0 ki_1) (aa_go (aa_aload0 iX6_full_1) (aa_go (aa_getE iX6_full_2 fl_X6_52 (sh_7 hW1) rfl e) (aa_go (aa_ishlN iX6_full_5 (by omega)) ?_)))
    refine aa_go (aa_top (y := nI (2 ^ pl_n P)) (by rw [Nat.one_shiftLeft])) ?_
    refine aa_go (aa_iconst iX6_full_6 ki_1) (aa_go (aa_isubN iX6_full_7 (pw_pos _)) ?_)
    refine aa_iret iX6_full_8 rfl ?_
    exact ⟨rfl, rfl⟩
  have L : ∀ f k (σ1 : aa_St) y3 y4, pl_n P - k < f → k ≤ pl_n P → σ1.2 = σ.2 → (∀ a, a ≠ 7 → a ≠ 19 → σ1.1 a = σ.1 a) → (∀ j, j ≠ 12 → σ1.1 7 j = σ.1 7 j) → σ1.1 7 12 = nI (pl_hl P k).1.length → (∀ q h, (pl_hl P k).1[q]? = some h → σ1.1 19 q = nI (pl_hm P h)) →
      aa_V mX6_splitHeaps 2 12 [some (.ref 7), some (.int (nI (pl_hl P k).2)), some (.int (nI k)), y3, y4] [] σ1 (fun r1 σ' => r1 = none ∧ (σ'.2 = σ.2 ∧ XH P (pl_hl P (pl_n P)).1 σ'.1 ∧ (∀ a, a ≠ 7 → a ≠ 19 → σ'.1 a = σ.1 a) ∧ (∀ j, j ≠ 12 → σ'.1 7 j = σ.1 7 j))) := by
    intro f
    induction f with
    | zero => intro k σ1 y3 y4 g1; omega
    | succ f ih =>
      intro k σ1 y3 y4 g1 g2 e0 e1 e2 e3 e4
      have hW1 : aa_W r dy σ1 := by unfold aa_W; rw [e0]; exact hW
      have f1 : σ1.1 7 13 = nI (pl_n P) := (e2 13 (by decide)).trans a1
      have f2 : σ1.1 7 14 = nI (pl_b P) := (e2 14 (by decide)).trans a2
      have lt1 := pl_hl_lt P k
      have ln := pl_hl_len P k
      refine aa_go (aa_iload2 iX6_splitHeaps_12) (aa_go (aa_aload0 iX6_splitHeaps_13) (aa_go (aa_getE iX6_splitHeaps_14 fl_X6_52 (sh_7 hW1) rfl f1) ?_))
      refine aa_ic_geN iX6_splitHeaps_17 (by omega) (by omega) (fun g3 => ?_) (fun g3 => ?_)
      · skip
        have e : k = pl_n P := by omega
        subst e
        refine aa_vret iX6_splitHeaps_107 rfl ?_
        exact ⟨rfl, e0, ⟨e3, by omega, e4⟩, e1, e2⟩
      · skip
        refine aa_go (aa_iload1 iX6_splitHeaps_20) (aa_go (aa_iload2 iX6_splitHeaps_21) (aa_go (aa_ishrN iX6_splitHeaps_22 (by omega) (by omega)) (aa_go (aa_iconst iX6_splitHeaps_23 ki_1) (aa_go (aa_ibit iX6_splitHeaps_24) ?_))))
        refine aa_if_eqB iX6_splitHeaps_25 (fun g4 => ?_) (fun g4 => ?_)
        · skip
          refine aa_go (aa_iincN2 (k := 1) iX6_splitHeaps_101 rfl (by decide)) (aa_go (aa_goto iX6_splitHeaps_104) ?_)
          have hl1 : pl_hl P (k + 1) = pl_hl P k := by rw [pl_hl, g4]; rfl
          have := ih (k + 1) σ1 y3 y4 (by omega) (by omega) e0 e1 e2 (by rw [hl1]; exact e3) (by rw [hl1]; exact e4)
          rw [hl1] at this
          exact this
        · skip
          have hl1 : pl_hl P (k + 1) = ((pl_hl P k).1 ++ [pl_hp P (pl_hl P k).2 k], bd (pl_hl P k).2 (pl_hp P (pl_hl P k).2 k)) := by rw [pl_hl, g4]; rfl
          have lt2 := pl_hp_lt (P := P) (i := k) lt1
          generalize hH : pl_hp P (pl_hl P k).2 k = hp at *
          have inner : ∀ f q, pl_b P - q < f → q ≤ pl_b P → aa_V mX6_splitHeaps 2 44 [some (.ref 7), some (.int (nI (bd (pl_hl P k).2 hp))), some (.int (nI k)), some (.int (nI (pl_hb P hp q))), some (.int (nI q))] [] σ1 (fun r1 σ' => r1 = none ∧ (σ'.2 = σ.2 ∧ XH P (pl_hl P (pl_n P)).1 σ'.1 ∧ (∀ a, a ≠ 7 → a ≠ 19 → σ'.1 a = σ.1 a) ∧ (∀ j, j ≠ 12 → σ'.1 7 j = σ.1 7 j))) := by
            intro f
            induction f with
            | zero => intro q k1; omega
            | succ f ih2 =>
              intro q k1 k2
              have lt3 := pl_hb_lt lt2 hkk k2
              refine aa_go (aa_iload4 iX6_splitHeaps_44) (aa_go (aa_aload0 iX6_splitHeaps_46) (aa_go (aa_getE iX6_splitHeaps_47 fl_X6_55 (sh_7 hW1) rfl f2) ?_))
              refine aa_ic_geN iX6_splitHeaps_50 (by omega) (by omega) (fun k3 => ?_) (fun k3 => ?_)
              · skip
                have e : q = pl_b P := by omega
                subst e
                refine aa_go (aa_aload0 iX6_splitHeaps_81) (aa_go (aa_getR iX6_splitHeaps_82 fl_X6_45 (sh_7 hW1) rfl) (aa_go (aa_aload0 iX6_splitHeaps_85) (aa_go (aa_getE iX6_splitHeaps_86 fl_X6_48 (sh_7 hW1) rfl e3) (aa_go (aa_iload3 iX6_splitHeaps_89) (aa_go (aa_iasN iX6_splitHeaps_90 (sh_19 hW1) (by omega) (by omega)) (aa_go (aa_aload0 iX6_splitHeaps_91) (aa_go (aa_dup iX6_splitHeaps_92 rfl) ?_)))))))
                refine aa_go (aa_getE iX6_splitHeaps_93 fl_X6_48 (sh_7 hW1) rfl e3) (aa_go (aa_iconst iX6_splitHeaps_96 ki_1) (aa_go (aa_iaddN iX6_splitHeaps_97 ) (aa_go (aa_putI iX6_splitHeaps_98 fl_X6_48 (fun h => nomatch h) (sh_7 hW1) rfl ⟨rfl, rfl⟩) (aa_go (aa_iincN2 (k := 1) iX6_splitHeaps_101 rfl (by decide)) (aa_go (aa_goto iX6_splitHeaps_104) ?_)))))
                have := ih (k + 1) (aa_sI (aa_sI σ1 19 (pl_hl P k).1.length (nI (pl_hb P hp (pl_b P)))) 7 12 (nI ((pl_hl P k).1.length + 1))) (some (.int (nI (pl_hb P hp (pl_b P))))) (some (.int (nI (pl_b P)))) (by omega) (by omega) e0 (fun a h1 h2 => Eq.trans (aa_u2_ne h1) ((aa_u2_ne h2).trans (e1 a h1 h2))) (fun j hj => ?_) ?_ (fun j h hj => ?_)
                · rw [hl1] at this
                  exact this
                · show (if j = 12 then _ else σ1.1 7 j) = _
                  rw [if_neg hj]; exact e2 j hj
                · rw [hl1]; simp; rfl
                · rw [hl1] at hj
                  show (if j = (pl_hl P k).1.length then nI (pl_hb P hp (pl_b P)) else σ1.1 19 j) = _
                  by_cases hj2 : j = (pl_hl P k).1.length
                  · rw [if_pos hj2, pl_hb_hm lt2 hkk]
                    rw [hj2, List.getElem?_append_right (Nat.le_refl _), Nat.sub_self] at hj
                    simp at hj
                    rw [hj]
                  · have hj3 : j < (pl_hl P k).1.length := by
                      have := (List.getElem?_eq_some_iff.mp hj).1
                      simp at this; omega
                    rw [if_neg hj2]
                    rw [List.getElem?_append_left hj3] at hj
                    exact e4 j h hj
              · skip
                have hkq := hkk q k3
                refine aa_go (aa_iload3 iX6_splitHeaps_53) (aa_go (aa_iload3 iX6_splitHeaps_54) (aa_go (aa_aload0 iX6_splitHeaps_55) (aa_go (aa_getR iX6_splitHeaps_56 fl_X6_27 (sh_7 hW1) rfl) (aa_go (aa_iload4 iX6_splitHeaps_59) (aa_go (aa_ialE iX6_splitHeaps_61 (sh_13 hW1) (by omega) (by omega) ((congrFun (e1 13 (by decide) (by decide)) q).trans (a5 q k3))) (aa_go (aa_ishrN iX6_splitHeaps_62 (by omega) (by omega)) (aa_go (aa_iconst iX6_splitHeaps_63 ki_1) ?_)))))))
                refine aa_go (aa_ibit iX6_splitHeaps_64) (aa_go (aa_aload0 iX6_splitHeaps_65) (aa_go (aa_getE iX6_splitHeaps_66 fl_X6_52 (sh_7 hW1) rfl f1) (aa_go (aa_iload4 iX6_splitHeaps_69) (aa_go (aa_iaddN iX6_splitHeaps_71 ) (aa_go (aa_ishlN iX6_splitHeaps_72 (by omega)) (aa_go (aa_iorN iX6_splitHeaps_73 ) (aa_go (aa_istore3 iX6_splitHeaps_74 rfl (by decide)) ?_)))))))
                refine aa_go (aa_iincN4 (k := 1) iX6_splitHeaps_75 rfl (by decide)) (aa_go (aa_goto iX6_splitHeaps_78) ?_)
                exact ih2 (q + 1) (by omega) (by omega)
          refine aa_go (aa_aload0 iX6_splitHeaps_28) (aa_go (aa_iload2 iX6_splitHeaps_29) (aa_go (aa_iload1 iX6_splitHeaps_30) (aa_go (aa_cVi iX6_splitHeaps_31 (hH ▸ c_X6_heapOf hW1 hn f1 (fun k hk => (congrFun (e1 12 (by decide) (by decide)) k).trans (a3 k hk).2.2.2.2) g3 (by omega)) (by decide) lc_X6_heapOf lk_X6_77 (sh_7 hW1) rfl rfl (Nat.le_of_ble_eq_true rfl)) (aa_go (aa_istore3 iX6_splitHeaps_34 rfl (by decide)) (aa_go (aa_iload1 iX6_splitHeaps_35) (aa_go (aa_iload3 iX6_splitHeaps_36) (aa_go (aa_iconst iX6_splitHeaps_37 ki_m1) ?_)))))))
          refine aa_go (aa_ixor iX6_splitHeaps_38) (aa_go (aa_iandC iX6_splitHeaps_39) (aa_go (aa_istore1 iX6_splitHeaps_40 rfl (by decide)) (aa_go (aa_iconst iX6_splitHeaps_41 ki_0) (aa_go (aa_istore4 iX6_splitHeaps_42 rfl (by decide)) ?_))))
          exact inner (pl_b P + 1) 0 (by omega) (by omega)
  have key : aa_V mX6_splitHeaps 2 0 [some (.ref 7), none, none, none, none] [] σ (fun r1 σ' => r1 = none ∧ (σ'.2 = σ.2 ∧ XH P (pl_hl P (pl_n P)).1 σ'.1 ∧ (∀ a, a ≠ 7 → a ≠ 19 → σ'.1 a = σ.1 a) ∧ (∀ j, j ≠ 12 → σ'.1 7 j = σ.1 7 j))) := by
    refine aa_go (aa_aload0 iX6_splitHeaps_0) (aa_go (aa_cVi iX6_splitHeaps_1 (full σ hW a1) (by decide) lc_X6_full lk_X6_73 (sh_7 hW) rfl rfl (Nat.le_of_ble_eq_true rfl)) (aa_go (aa_istore1 iX6_splitHeaps_4 rfl (by decide)) (aa_go (aa_aload0 iX6_splitHeaps_5) (aa_go (aa_iconst iX6_splitHeaps_6 ki_0) (aa_go (aa_putI iX6_splitHeaps_7 fl_X6_48 (fun h => nomatch h) (sh_7 hW) rfl ⟨rfl, rfl⟩) (aa_go (aa_iconst iX6_splitHeaps_10 ki_0) (aa_go (aa_istore2 iX6_splitHeaps_11 rfl (by decide)) ?_)))))))
    refine L (pl_n P + 1) 0 _ none none (by omega) (by omega) rfl (fun a h1 _ => aa_u2_ne h1) (fun j hj => ?_) rfl (fun q h hq => by simp [pl_hl] at hq)
    show (if j = 12 then _ else σ.1 7 j) = _
    rw [if_neg hj]
  obtain ⟨r1, σ', ⟨rfl, h1⟩, hS⟩ := aa_S_of (avs := [.ref 7]) (by decide) 4 [some (.ref 7), none, none, none, none] rfl rfl key
  exact ⟨σ', h1, hS⟩
end
