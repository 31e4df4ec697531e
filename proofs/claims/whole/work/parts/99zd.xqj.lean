/-! THE REFERENCE, PUBLIC METHODS: lines, walked -/
def MFr (r : Nat → Nat) (σ : aa_St) (r' : Nat → Nat) (σ' : aa_St) : Prop := (∀ q, q ≠ 7 → q ≠ 8 → r' q = r q) ∧ σ'.2.2.2 = σ.2.2.2 ∧ (∀ x : Nat, x ≠ 63 → σ'.2.2.1[x]? = σ.2.2.1[x]?) ∧ ∀ x, x < 63 ∨ 86 ≤ x → σ'.1 x = σ.1 x ∧ σ'.2.1 x = σ.2.1 x
theorem MF.fr {r : Nat → Nat} {σ σ' : aa_St} (h : MF σ σ') : MFr r σ r σ' := ⟨fun _ _ _ => rfl, by rw [h.1], fun _ _ => by rw [h.1], h.2⟩
theorem MP.e1 {P : pl_T} {i i' : Nat → Nat → Int32} (h : MP P i) (e : i' = i) : MP P i' := e ▸ h
section
variable {P P' : pl_T} {tx tx' : Nat → Nat} {n n' : Nat} {g g' : gm_T} {kp kp' : Nat → Option gm_T} {lk lk' tl tl' : Nat} {rw rw' : Nat → Int} {Q Q' : Nat} {r0 : Nat → Nat} {dy : List aa_Shp} {σ σ' : aa_St}
theorem LF.MI {r : Nat → Nat} (h : MI P tx n g kp lk tl rw Q r0 dy σ) (hF : LF r0 dy σ r σ') : MI P tx n g kp lk tl rw Q r dy σ' := by
  obtain ⟨a, b, c, d, e, f, _⟩ := hF
  refine ⟨a, b, ?_, ?_, ?_, ?_, ?_, ?_, ?_⟩
  · rw [d]; exact h.M
  · rw [d]; exact h.X
  · rw [d]; exact h.G
  · rw [d]; exact h.K
  · rw [d]; exact h.L
  · exact h.T.fr (by rw [d]) (e 64 (by decide) (by decide))
  · rw [d]; exact h.q
theorem q_linesB (h : MI P tx n g kp lk tl rw Q r0 dy σ) {x : Int32} (hx : x < 0 ∨ nI 5 < x) : ∃ σ', MJ P tx n g kp lk tl rw Q r0 dy σ σ' ∧ aa_SX mX12_lines 100 [.ref 63, .int x] σ (some (.long (-1))) σ' := by
  have h1 := h.thr (nI 0)
  refine ⟨_, h.JB, ?_⟩
  refine aa_E_of (by decide) 4 [some (.ref 63), some (.int (x)), none, none, none, none] rfl rfl ?_
  refine aa_go (aa_aload0 iX12_lines_0) (aa_go (aa_iconst iX12_lines_1 ki_0) (aa_go (aa_putI iX12_lines_2 fl_X12_3 (fun h => nomatch h) (sh_63 h.W) rfl ⟨rfl, rfl⟩) ?_))
  refine aa_go (aa_iload1 iX12_lines_5) (aa_go (aa_i2l iX12_lines_6) (aa_go (aa_lconst iX12_lines_7 kl_0) (aa_go (aa_ldc2 iX12_lines_8 ld_X12_111) (aa_go (aa_cSi iX12_lines_11 (m_inB (c := 5) (by omega) hx) (by decide) lc_X12_in lk_X12_21 rfl (Nat.le_of_ble_eq_true rfl)) ?_))))
  refine aa_if_neB iX12_lines_14 (fun g1 => ?_) (fun g1 => ?_)
  · skip
    exact absurd g1 (by decide)
  · skip
    refine aa_go (aa_ldc2 iX12_lines_17 ld_X12_204) ?_
    refine aa_lret iX12_lines_20 rfl ?_
    exact ⟨rfl, rfl⟩
theorem q_lines (h : MI P tx n g kp lk tl rw Q r0 dy σ) (hG : GG P g) {N : Nat} (hN : N ≤ 5) : ∃ (r' : Nat → Nat) (σ' : aa_St), (MI P tx n g kp lk tl rw Q r' dy σ' ∧ MFr r0 σ r' σ') ∧ aa_SX mX12_lines 100 [.ref 63, .int (nI N)] σ (some (.long (lN (gm P N (gtn g) (gst g))))) σ' := by
  have h1 := h.thr (nI 0)
  have ok := h.ok
  have t1 := gtn_le g
  have clt := cv_lt (P := P) (gst g)
  have dc := hG.dv ok
  have done : ∀ r' σ', LF r0 dy (aa_sI σ 63 0 (nI 0)) r' σ' → MI P tx n g kp lk tl rw Q r' dy σ' ∧ MFr r0 σ r' σ' := fun r' σ' hF => ⟨LF.MI h1 hF, hF.2.2.1, hF.2.2.2.2.2.1, hF.2.2.2.2.2.2, fun x hx => ⟨by rw [hF.2.2.2.1, sI_ne (by omega)], by rw [hF.2.2.2.2.1 x (by omega) (by omega)]; rfl⟩⟩
  -- the sum: 202
  have loopF : ∀ f k (r : Nat → Nat) (σ1 : aa_St) (L : Nat → Nat) (y5 : Option Value), 65536 - k < f → k ≤ 65536 → LF r0 dy (aa_sI σ 63 0 (nI 0)) r σ1 → LY (r 7) L σ1 → wS L (fun _ => 1) 65536 = gm P N (gtn g) (gst g) → aa_V mX12_lines 100 202 [some (.ref 63), some (.int (nI N)), some (.long (lN (wS L (fun _ => 1) k))), none, some (.int (nI k)), y5] [] σ1 (fun ra σ' => ra = some (.long (lN (gm P N (gtn g) (gst g)))) ∧ ∃ r', MI P tx n g kp lk tl rw Q r' dy σ' ∧ MFr r0 σ r' σ') := by
    intro f
    induction f with
    | zero => intro k r σ1 L y5 g1; omega
    | succ f ih =>
      intro k r σ1 L y5 g1 g2 hF hL hw
      have hs_r7 := hF.r7
      refine aa_go (aa_iload4 iX12_lines_202) (aa_go (aa_ldc iX12_lines_204 ld_X12_170) ?_)
      refine aa_ic_geN iX12_lines_206 (by omega) (by omega) (fun g3 => ?_) (fun g3 => ?_)
      · skip
        have e : k = 65536 := by omega
        subst e
        refine aa_go (aa_lload2 iX12_lines_225) ?_
        refine aa_lret iX12_lines_226 rfl ?_
        exact ⟨by rw [hw], r, done r σ1 hF⟩
      · skip
        have nxt := ih (k + 1) r σ1 L y5 (by omega) (by omega) hF hL hw
        rw [wS, Nat.mul_one] at nxt
        refine aa_go (aa_lload2 iX12_lines_209) (aa_go (aa_aload0 iX12_lines_210) (aa_go (aa_getR iX12_lines_211 fl_X12_206 (sh_63 hF.1) rfl) (aa_go (aa_iload4 iX12_lines_214) (aa_go (aa_lalE iX12_lines_216 hs_r7 (by omega) (by omega) (hL k (by omega))) (aa_go (aa_laddN iX12_lines_217 ) (aa_go (aa_lstore2 iX12_lines_218 rfl (by decide)) (aa_go (aa_iincN4 (k := 1) iX12_lines_219 rfl (by decide)) ?_)))))))
        refine aa_go (aa_goto iX12_lines_222) ?_
        exact nxt
  -- the moves of one state: 105
  have loopE : ∀ (i w : Nat) (r : Nat → Nat) (k : Nat) (L G : Nat → Nat) (i2 : Nat), i2 < 2147483648 → k < 65536 → w ≤ 1 → (∀ j, G j = gm P i (1 - w) (dv P j)) → wS L (fun _ => 1) 65536 ≤ 100000000 →
      (∀ (σ1 : aa_St) (Nx : Nat → Nat) (y5 : Option Value), LF r0 dy (aa_sI σ 63 0 (nI 0)) r σ1 → LY (r 7) L σ1 → LY (r 8) Nx σ1 → wS Nx G 65536 = wS L (fun j => gm P (i + 1) w (dv P j)) (k + 1) → wS Nx (fun _ => 1) 65536 ≤ 28 * wS L (fun _ => 1) (k + 1) → aa_V mX12_lines 100 165 [some (.ref 63), some (.int (nI N)), some (.int (nI i2)), some (.int (nI w)), some (.int (nI k)), y5] [] σ1 (fun ra σ' => ra = some (.long (lN (gm P N (gtn g) (gst g)))) ∧ ∃ r', MI P tx n g kp lk tl rw Q r' dy σ' ∧ MFr r0 σ r' σ')) →
      ∀ f m (σ1 : aa_St) (Nx : Nat → Nat), 28 - m < f → m ≤ 28 → LF r0 dy (aa_sI σ 63 0 (nI 0)) r σ1 → LY (r 7) L σ1 → LY (r 8) Nx σ1 → wS Nx G 65536 = wS L (fun j => gm P (i + 1) w (dv P j)) k + L k * gmk P i w (dv P k) (msT P m) → wS Nx (fun _ => 1) 65536 ≤ 28 * wS L (fun _ => 1) k + m * L k → aa_V mX12_lines 100 105 [some (.ref 63), some (.int (nI N)), some (.int (nI i2)), some (.int (nI w)), some (.int (nI k)), some (.int (nI m))] [] σ1 (fun ra σ' => ra = some (.long (lN (gm P N (gtn g) (gst g)))) ∧ ∃ r', MI P tx n g kp lk tl rw Q r' dy σ' ∧ MFr r0 σ r' σ') := by
    intro i w r k L G i2 hi2 hk hw1 hG9 hT next f
    have Lk := wS_ge (N := L) 65536 k hk
    induction f with
    | zero => intro m σ1 Nx g1; omega
    | succ f ih =>
      intro m σ1 Nx g1 g2 hF hL hN9 e1 e2
      have hs_r7 := hF.r7
      have hs_r8 := hF.r8
      have hI := LF.MI h1 hF
      have full : (m = 28 ∨ L k = 0) → L k * gmk P i w (dv P k) (msT P m) = L k * gm P (i + 1) w (dv P k) := by
        intro q
        rcases q with q | q
        · subst q
          rw [gmk, ms_28 ok, mlk_all]; rfl
        · rw [q, Nat.zero_mul, Nat.zero_mul]
      have fin : (m = 28 ∨ L k = 0) → aa_V mX12_lines 100 165 [some (.ref 63), some (.int (nI N)), some (.int (nI i2)), some (.int (nI w)), some (.int (nI k)), some (.int (nI m))] [] σ1 (fun ra σ' => ra = some (.long (lN (gm P N (gtn g) (gst g)))) ∧ ∃ r', MI P tx n g kp lk tl rw Q r' dy σ' ∧ MFr r0 σ r' σ') := fun q => by
        refine next σ1 Nx _ hF hL hN9 ?_ ?_
        · rw [e1, full q]; rfl
        · have ek : wS L (fun _ => 1) (k + 1) = wS L (fun _ => 1) k + L k := by rw [wS, Nat.mul_one]
          have : m * L k ≤ 28 * L k := Nat.mul_le_mul_right _ g2
          rw [ek]
          omega
      refine aa_go (aa_iload5 iX12_lines_105) (aa_go (aa_bipush iX12_lines_107 kb_28) ?_)
      refine aa_ic_geN iX12_lines_109 (by omega) (by omega) (fun g3 => ?_) (fun g3 => ?_)
      · skip
        exact fin (Or.inl (by omega))
      · skip
        refine aa_go (aa_aload0 iX12_lines_112) (aa_go (aa_getR iX12_lines_113 fl_X12_206 (sh_63 hF.1) rfl) (aa_go (aa_iload4 iX12_lines_116) (aa_go (aa_lalE iX12_lines_118 hs_r7 (by omega) (by omega) (hL k hk)) (aa_go (aa_lconst iX12_lines_119 kl_0) (aa_go (aa_lcmp iX12_lines_120) ?_)))))
        refine aa_if_leC iX12_lines_121 (by omega) (by omega) (fun g4 => ?_) (fun g4 => ?_)
        · skip
          exact fin (Or.inr (by omega))
        · skip
          refine aa_go (aa_aload0 iX12_lines_124) (aa_go (aa_iload4 iX12_lines_125) (aa_go (aa_iload3 iX12_lines_127) (aa_go (aa_iload5 iX12_lines_128) (aa_go (aa_cVi iX12_lines_130 (m_can hF.1 hI.M hk (by omega) (by omega)) (by decide) lc_X12_can lk_X12_140 (sh_63 hF.1) rfl rfl (Nat.le_of_ble_eq_true rfl)) ?_))))
          refine aa_if_eqB iX12_lines_133 (fun g5 => ?_) (fun g5 => ?_)
          · skip
            have e9 := mlk_cn_f ok g3 g5
            refine aa_go (aa_iincN5 (k := 1) iX12_lines_159 rfl (by decide)) (aa_go (aa_goto iX12_lines_162) ?_)
            refine ih (m + 1) σ1 Nx (by omega) (by omega) hF hL hN9 ?_ ?_
            · rw [gmk, e9]; exact e1
            · rw [Nat.add_mul]; omega
          · skip
            obtain ⟨j, hj, jl, m28, lg, m1, m2⟩ := cn_t ok g5
            have e9 := mlk_cn_t ok g5 hj
            have da := dv_af (t := k) ok hj
            have al := af_lt ok hk g3
            have eg : gmk P i w (dv P k) (msT P (m + 1)) = gmk P i w (dv P k) (msT P m) + G (af P k m) := by
              rw [gmk, gmk, e9, List.map_append, List.sum_append, hG9, da]
              simp
            refine aa_go (aa_aload0 iX12_lines_136) (aa_go (aa_getR iX12_lines_137 fl_X12_209 (sh_63 hF.1) rfl) (aa_go (aa_aload0 iX12_lines_140) (aa_go (aa_iload4 iX12_lines_141) (aa_go (aa_iload5 iX12_lines_143) (aa_go (aa_cVi iX12_lines_145 (m_after hF.1 hI.M m28 hj) (by decide) lc_X12_after lk_X12_137 (sh_63 hF.1) rfl rfl (Nat.le_of_ble_eq_true rfl)) (aa_go (aa_dup2 iX12_lines_148 rfl rfl) (aa_go (aa_lalE iX12_lines_149 hs_r8 (by omega) (al) (hN9 (af P k m) al)) ?_)))))))
            refine aa_go (aa_aload0 iX12_lines_150) (aa_go (aa_getR iX12_lines_151 fl_X12_206 (sh_63 hF.1) rfl) (aa_go (aa_iload4 iX12_lines_154) (aa_go (aa_lalE iX12_lines_156 hs_r7 (by omega) (by omega) (hL k hk)) (aa_go (aa_laddN iX12_lines_157 ) (aa_go (aa_lasN iX12_lines_158 hs_r8 (by omega) (al)) (aa_go (aa_iincN5 (k := 1) iX12_lines_159 rfl (by decide)) (aa_go (aa_goto iX12_lines_162) ?_)))))))
            refine ih (m + 1) _ (nup Nx (af P k m) (Nx (af P k m) + L k)) (by omega) (by omega) (hF.put hF.in8 _ _) (hL.ne hF.ne _ _) (hN9.put _ _) ?_ ?_
            · rw [wS_up 65536 al, e1, eg, Nat.mul_add]; omega
            · rw [wS_up 65536 al, Nat.add_mul]; omega
  -- all states: 95
  have loopD : ∀ (i w : Nat) (r : Nat → Nat) (L G : Nat → Nat), w ≤ 1 → (∀ j, G j = gm P i (1 - w) (dv P j)) → wS L (fun _ => 1) 65536 ≤ 100000000 → ∀ i2, i2 < 2147483648 →
      (∀ (σ1 : aa_St) (Nx : Nat → Nat) (y5 : Option Value), LF r0 dy (aa_sI σ 63 0 (nI 0)) r σ1 → LY (r 7) L σ1 → LY (r 8) Nx σ1 → wS Nx G 65536 = wS L (fun j => gm P (i + 1) w (dv P j)) 65536 → wS Nx (fun _ => 1) 65536 ≤ 28 * wS L (fun _ => 1) 65536 → aa_V mX12_lines 100 171 [some (.ref 63), some (.int (nI N)), some (.int (nI i2)), some (.int (nI w)), some (.int (nI 65536)), y5] [] σ1 (fun ra σ' => ra = some (.long (lN (gm P N (gtn g) (gst g)))) ∧ ∃ r', MI P tx n g kp lk tl rw Q r' dy σ' ∧ MFr r0 σ r' σ')) →
      ∀ f k (σ1 : aa_St) (Nx : Nat → Nat) (y5 : Option Value), 65536 - k < f → k ≤ 65536 → LF r0 dy (aa_sI σ 63 0 (nI 0)) r σ1 → LY (r 7) L σ1 → LY (r 8) Nx σ1 → wS Nx G 65536 = wS L (fun j => gm P (i + 1) w (dv P j)) k → wS Nx (fun _ => 1) 65536 ≤ 28 * wS L (fun _ => 1) k → aa_V mX12_lines 100 95 [some (.ref 63), some (.int (nI N)), some (.int (nI i2)), some (.int (nI w)), some (.int (nI k)), y5] [] σ1 (fun ra σ' => ra = some (.long (lN (gm P N (gtn g) (gst g)))) ∧ ∃ r', MI P tx n g kp lk tl rw Q r' dy σ' ∧ MFr r0 σ r' σ') := by
    intro i w r L G hw1 hG9 hT i2 hi2 next f
    induction f with
    | zero => intro k σ1 Nx y5 g1; omega
    | succ f ih =>
      intro k σ1 Nx y5 g1 g2 hF hL hN9 e1 e2
      refine aa_go (aa_iload4 iX12_lines_95) (aa_go (aa_ldc iX12_lines_97 ld_X12_170) ?_)
      refine aa_ic_geN iX12_lines_99 (by omega) (by omega) (fun g3 => ?_) (fun g3 => ?_)
      · skip
        have e : k = 65536 := by omega
        subst e
        exact next σ1 Nx _ hF hL hN9 e1 e2
      · skip
        refine aa_go (aa_iconst iX12_lines_102 ki_0) (aa_go (aa_istore5 iX12_lines_103 rfl (by decide)) ?_)
        refine loopE i w r k L G i2 hi2 g3 hw1 hG9 hT (fun σ2 Nx2 y5 q1 q2 q3 q4 q5 => ?_) 29 0 σ1 Nx (by omega) (by omega) hF hL hN9 (by rw [ms_0, e1]; show _ = _ + L k * 0; omega) (by omega)
        refine aa_go (aa_iincN4 (k := 1) iX12_lines_165 rfl (by decide)) (aa_go (aa_goto iX12_lines_168) ?_)
        exact ih (k + 1) σ2 Nx2 _ (by omega) (by omega) q1 q2 q3 q4 q5
  -- one move more: 54
  have loopB : ∀ f i (r : Nat → Nat) (σ1 : aa_St) (L : Nat → Nat) (y3 y4 y5 : Option Value), N - i < f → i ≤ N → aa_c1 y3 = true → LF r0 dy (aa_sI σ 63 0 (nI 0)) r σ1 → LY (r 7) L σ1 → wS L (fun k => gm P (N - i) ((gtn g + i) % 2) (dv P k)) 65536 = gm P N (gtn g) (gst g) → wS L (fun _ => 1) 65536 ≤ 28 ^ i → aa_V mX12_lines 100 54 [some (.ref 63), some (.int (nI N)), some (.int (nI i)), y3, y4, y5] [] σ1 (fun ra σ' => ra = some (.long (lN (gm P N (gtn g) (gst g)))) ∧ ∃ r', MI P tx n g kp lk tl rw Q r' dy σ' ∧ MFr r0 σ r' σ') := by
    intro f
    induction f with
    | zero => intro i r σ1 L y3 y4 y5 g1; omega
    | succ f ih =>
      intro i r σ1 L y3 y4 y5 g1 g2 c3 hF hL e1 e2
      have hI := LF.MI h1 hF
      refine aa_go (aa_iload2 iX12_lines_54) (aa_go (aa_iload1 iX12_lines_55) ?_)
      refine aa_ic_geN iX12_lines_56 (by omega) (by omega) (fun g3 => ?_) (fun g3 => ?_)
      · skip
        have e : i = N := by omega
        subst e
        rw [Nat.sub_self] at e1
        have e1 : wS L (fun _ => 1) 65536 = gm P i (gtn g) (gst g) := e1
        refine aa_go (aa_lconst iX12_lines_197 kl_0) (aa_go (aa_lstore2 iX12_lines_198 rfl (by decide)) (aa_go (aa_iconst iX12_lines_199 ki_0) (aa_go (aa_istore4 iX12_lines_200 rfl (by decide)) ?_)))
        exact loopF 65537 0 r σ1 L _ (by omega) (by omega) hF hL e1
      · skip
        have p5 : 28 ^ i ≤ 28 ^ 4 := Nat.pow_le_pow_right (by decide) (by omega)
        have p6 : (28 : Nat) ^ 4 = 614656 := by decide
        generalize hw : (gtn g + i) % 2 = w at *
        have w1 : w ≤ 1 := by omega
        have ew : 1 - w = (gtn g + (i + 1)) % 2 := by omega
        -- behind: 171
        have beh : ∀ (σ2 : aa_St) (Nx : Nat → Nat) (y5 : Option Value), LF r0 dy (aa_sI σ 63 0 (nI 0)) r σ2 → LY (r 7) L σ2 → LY (r 8) Nx σ2 → wS Nx (fun j => gm P (N - (i + 1)) (1 - w) (dv P j)) 65536 = wS L (fun j => gm P (N - (i + 1) + 1) w (dv P j)) 65536 → wS Nx (fun _ => 1) 65536 ≤ 28 * wS L (fun _ => 1) 65536 → aa_V mX12_lines 100 171 [some (.ref 63), some (.int (nI N)), some (.int (nI i)), some (.int (nI w)), some (.int (nI 65536)), y5] [] σ2 (fun ra σ' => ra = some (.long (lN (gm P N (gtn g) (gst g)))) ∧ ∃ r', MI P tx n g kp lk tl rw Q r' dy σ' ∧ MFr r0 σ r' σ') := by
          intro σ2 Nx y5 q1 q2 q3 q4 q5
          have hWa := swW1 q1.1 rfl
          have hWb := swW2 hWa rfl
          have hFb : LF r0 dy (aa_sI σ 63 0 (nI 0)) (swR r) _ := ⟨hWb, by
              rcases q1.2.1 with q | q
              · exact Or.inr ⟨by rw [swR_7]; exact q.2, by rw [swR_8]; exact q.1⟩
              · exact Or.inl ⟨by rw [swR_7]; exact q.2, by rw [swR_8]; exact q.1⟩, fun q hq hq2 => by rw [swR, nup_ne hq2, nup_ne hq]; exact q1.2.2.1 q hq hq2, q1.2.2.2.1, q1.2.2.2.2.1, q1.2.2.2.2.2.1, fun x hx => by
              show ((σ2.2.2.1.set 63 _).set 63 _)[x]? = _
              rw [List.getElem?_set_ne (Ne.symm hx), List.getElem?_set_ne (Ne.symm hx)]; exact q1.2.2.2.2.2.2 x hx⟩
          have nxt := ih (i + 1) (swR r) _ Nx (some (.int (nI w))) (some (.ref (r 7))) y5 (by omega) (by omega) rfl hFb (by rw [swR_7]; exact q3) (by rw [← ew, q4, show N - (i + 1) + 1 = N - i by omega]; exact e1) (by rw [Nat.pow_succ]; omega)
          refine aa_go (aa_aload0 iX12_lines_171) (aa_go (aa_getR iX12_lines_172 fl_X12_206 (sh_63 q1.1) rfl) (aa_go (aa_astore4 iX12_lines_175 rfl (by decide)) (aa_go (aa_aload0 iX12_lines_177) (aa_go (aa_aload0 iX12_lines_178) (aa_go (aa_getR iX12_lines_179 fl_X12_209 (sh_63 q1.1) rfl) (aa_go (aa_putR iX12_lines_182 fl_X12_206 (fun h => nomatch h) (sh_63 q1.1) (Nat.le_of_ble_eq_true rfl) (fun _ => ⟨rfl, rfl⟩)) ?_))))))
          refine aa_go (aa_aload0 iX12_lines_185) (aa_go (aa_aload4 iX12_lines_186) (aa_go (aa_putR iX12_lines_188 fl_X12_209 (fun h => nomatch h) (sh_63 hWa) (Nat.le_of_ble_eq_true rfl) (fun _ => ⟨rfl, rfl⟩)) (aa_go (aa_iincN2 (k := 1) iX12_lines_191 rfl (by decide)) (aa_go (aa_goto iX12_lines_194) ?_))))
          exact nxt
        -- clearing: 71
        have loopC : ∀ f2 k (σ2 : aa_St), 65536 - k < f2 → k ≤ 65536 → LF r0 dy (aa_sI σ 63 0 (nI 0)) r σ2 → LY (r 7) L σ2 → (∀ j, j < k → σ2.2.1 (r 8) j = lN 0) → aa_V mX12_lines 100 71 [some (.ref 63), some (.int (nI N)), some (.int (nI i)), some (.int (nI w)), some (.int (nI k)), y5] [] σ2 (fun ra σ' => ra = some (.long (lN (gm P N (gtn g) (gst g)))) ∧ ∃ r', MI P tx n g kp lk tl rw Q r' dy σ' ∧ MFr r0 σ r' σ') := by
          intro f2
          induction f2 with
          | zero => intro k σ2 g1; omega
          | succ f2 ih2 =>
            intro k σ2 k1 k2 q1 q2 q3
            have hs_r8 := q1.r8
            refine aa_go (aa_iload4 iX12_lines_71) (aa_go (aa_ldc iX12_lines_73 ld_X12_170) ?_)
            refine aa_ic_geN iX12_lines_75 (by omega) (by omega) (fun g4 => ?_) (fun g4 => ?_)
            · skip
              have e : k = 65536 := by omega
              subst e
              refine aa_go (aa_iconst iX12_lines_92 ki_0) (aa_go (aa_istore4 iX12_lines_93 rfl (by decide)) ?_)
              exact loopD (N - (i + 1)) w r L _ w1 (fun j => rfl) (by omega) i (by omega) beh 65537 0 σ2 (fun _ => 0) _ (by omega) (by omega) q1 q2 q3 (by rw [wS_0]; rfl) (by rw [wS_0]; omega)
            · skip
              refine aa_go (aa_aload0 iX12_lines_78) (aa_go (aa_getR iX12_lines_79 fl_X12_209 (sh_63 q1.1) rfl) (aa_go (aa_iload4 iX12_lines_82) (aa_go (aa_lconst iX12_lines_84 kl_0) (aa_go (aa_lasN iX12_lines_85 hs_r8 (by omega) (g4)) (aa_go (aa_iincN4 (k := 1) iX12_lines_86 rfl (by decide)) (aa_go (aa_goto iX12_lines_89) ?_))))))
              refine ih2 (k + 1) _ (by omega) (by omega) (q1.put q1.in8 _ _) (q2.ne q1.ne _ _) (fun j hj => ?_)
              rw [sL_at]
              by_cases c : j = k
              · rw [if_pos c]
              · rw [if_neg c]; exact q3 j (by omega)
        refine aa_go (aa_aload0 iX12_lines_59) (aa_go (aa_getE iX12_lines_60 fl_X12_102 (sh_63 hF.1) rfl hI.G.2.1) (aa_go (aa_iload2 iX12_lines_63) (aa_go (aa_iaddN iX12_lines_64 ) (aa_go (aa_iconst iX12_lines_65 ki_2) (aa_go (aa_iremN iX12_lines_66 (by omega) (by omega) (by omega)) ?_)))))
        refine aa_go (aa_top (y := nI w) (by rw [hw])) ?_
        refine aa_go (aa_istore3 iX12_lines_67 rfl (by decide)) (aa_go (aa_iconst iX12_lines_68 ki_0) (aa_go (aa_istore4 iX12_lines_69 rfl (by decide)) ?_))
        exact loopC 65537 0 σ1 (by omega) (by omega) hF hL (fun j hj => by omega)
  -- clearing at first: 23
  have loopA : ∀ f k (r : Nat → Nat) (σ1 : aa_St), 65536 - k < f → k ≤ 65536 → LF r0 dy (aa_sI σ 63 0 (nI 0)) r σ1 → (∀ j, j < k → σ1.2.1 (r 7) j = lN 0) → aa_V mX12_lines 100 23 [some (.ref 63), some (.int (nI N)), some (.int (nI k)), none, none, none] [] σ1 (fun ra σ' => ra = some (.long (lN (gm P N (gtn g) (gst g)))) ∧ ∃ r', MI P tx n g kp lk tl rw Q r' dy σ' ∧ MFr r0 σ r' σ') := by
    intro f
    induction f with
    | zero => intro k r σ1 g1; omega
    | succ f ih =>
      intro k r σ1 g1 g2 hF q3
      have hI := LF.MI h1 hF
      have hs_r7 := hF.r7
      refine aa_go (aa_iload2 iX12_lines_23) (aa_go (aa_ldc iX12_lines_24 ld_X12_170) ?_)
      refine aa_ic_geN iX12_lines_26 (by omega) (by omega) (fun g4 => ?_) (fun g4 => ?_)
      · skip
        have e : k = 65536 := by omega
        subst e
        have hL0 : LY (r 7) (fun _ => 0) σ1 := q3
        have hL1 := hL0.put (cv P (gst g)) 1
        have ws : ∀ G : Nat → Nat, wS (nup (fun _ => 0) (cv P (gst g)) 1) G 65536 = G (cv P (gst g)) := fun G => by
          have := wS_up (N := fun _ => 0) (G := G) (j := cv P (gst g)) (v := 1) 65536 clt
          rw [wS_0, Nat.zero_add, Nat.zero_add, Nat.one_mul] at this
          exact this
        refine aa_go (aa_aload0 iX12_lines_42) (aa_go (aa_getR iX12_lines_43 fl_X12_206 (sh_63 hF.1) rfl) (aa_go (aa_aload0 iX12_lines_46) (aa_go (aa_getE iX12_lines_47 fl_X12_99 (sh_63 hF.1) rfl hI.G.1) (aa_go (aa_lconst iX12_lines_50 kl_1) (aa_go (aa_lasN iX12_lines_51 hs_r7 (by omega) (clt)) (aa_go (aa_iconst iX12_lines_52 ki_0) (aa_go (aa_istore2 iX12_lines_53 rfl (by decide)) ?_)))))))
        refine loopB (N + 1) 0 r _ (nup (fun _ => 0) (cv P (gst g)) 1) _ _ _ (by omega) (by omega) rfl (hF.put hF.in7 _ _) hL1 ?_ ?_
        · rw [ws, dc, Nat.sub_zero, show (gtn g + 0) % 2 = gtn g by omega]
        · rw [ws]; decide
      · skip
        refine aa_go (aa_aload0 iX12_lines_29) (aa_go (aa_getR iX12_lines_30 fl_X12_206 (sh_63 hF.1) rfl) (aa_go (aa_iload2 iX12_lines_33) (aa_go (aa_lconst iX12_lines_34 kl_0) (aa_go (aa_lasN iX12_lines_35 hs_r7 (by omega) (g4)) (aa_go (aa_iincN2 (k := 1) iX12_lines_36 rfl (by decide)) (aa_go (aa_goto iX12_lines_39) ?_))))))
        refine ih (k + 1) r _ (by omega) (by omega) (hF.put hF.in7 _ _) (fun j hj => ?_)
        rw [sL_at]
        by_cases c : j = k
        · rw [if_pos c]
        · rw [if_neg c]; exact q3 j (by omega)
  have key : aa_V mX12_lines 100 0 [some (.ref 63), some (.int (nI N)), none, none, none, none] [] σ (fun ra σ' => ra = some (.long (lN (gm P N (gtn g) (gst g)))) ∧ ∃ r', MI P tx n g kp lk tl rw Q r' dy σ' ∧ MFr r0 σ r' σ') := by
    have hF0 : LF r0 dy (aa_sI σ 63 0 (nI 0)) r0 (aa_sI σ 63 0 (nI 0)) := ⟨h1.W, h.R, fun _ _ _ => rfl, rfl, fun _ _ _ => rfl, rfl, fun _ _ => rfl⟩
    refine aa_go (aa_aload0 iX12_lines_0) (aa_go (aa_iconst iX12_lines_1 ki_0) (aa_go (aa_putI iX12_lines_2 fl_X12_3 (fun h => nomatch h) (sh_63 h.W) rfl ⟨rfl, rfl⟩) ?_))
    refine aa_go (aa_iload1 iX12_lines_5) (aa_go (aa_i2lN iX12_lines_6 (by omega)) (aa_go (aa_lconst iX12_lines_7 kl_0) (aa_go (aa_ldc2 iX12_lines_8 ld_X12_111) (aa_go (aa_cSi iX12_lines_11 (m_inN (hi := 5) (by omega) (by omega)) (by decide) lc_X12_in lk_X12_21 rfl (Nat.le_of_ble_eq_true rfl)) ?_))))
    refine aa_if_neB iX12_lines_14 (fun g1 => ?_) (fun g1 => ?_)
    · skip
      refine aa_go (aa_iconst iX12_lines_21 ki_0) (aa_go (aa_istore2 iX12_lines_22 rfl (by decide)) ?_)
      exact loopA 65537 0 r0 _ (by omega) (by omega) hF0 (fun j hj => by omega)
    · skip
      exact absurd hN (of_decide_eq_false g1)
  obtain ⟨ra, σ', ⟨rfl, r', h9⟩, hS9⟩ := aa_S_of (avs := [.ref 63, .int (nI N)]) (by decide) 4 [some (.ref 63), some (.int (nI N)), none, none, none, none] rfl rfl key
  exact ⟨r', σ', h9, hS9⟩
end
