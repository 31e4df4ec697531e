/-! THE REFERENCE, PUBLIC METHODS: piles -/
theorem plL_at {P : pl_T} {dt : tm_D} : ∀ k, (∀ i, i < pl_n P → pl_w (plL P dt k) i = pl_w P i ∧ pl_h (plL P dt k) i = pl_h P i ∧ pl_u (plL P dt k) i = pl_u P i) ∧ ∀ j, j < k → pl_w (plL P dt k) (pl_n P + j) = (dt j).1 ∧ pl_h (plL P dt k) (pl_n P + j) = (dt j).2.1 ∧ pl_u (plL P dt k) (pl_n P + j) = (dt j).2.2.1
  | 0 => ⟨fun i _ => ⟨rfl, rfl, rfl⟩, fun j hj => by omega⟩
  | k + 1 => by
    obtain ⟨h1, h2⟩ := plL_at (P := P) (dt := dt) k
    have e := plL_n P dt k
    have ne : ∀ i, i ≠ pl_n P + k → pl_w (plL P dt (k + 1)) i = pl_w (plL P dt k) i ∧ pl_h (plL P dt (k + 1)) i = pl_h (plL P dt k) i ∧ pl_u (plL P dt (k + 1)) i = pl_u (plL P dt k) i := fun i hi => ⟨nup_ne (by rw [e]; exact hi), nup_ne (by rw [e]; exact hi), nup_ne (by rw [e]; exact hi)⟩
    have eq : pl_w (plL P dt (k + 1)) (pl_n P + k) = (dt k).1 ∧ pl_h (plL P dt (k + 1)) (pl_n P + k) = (dt k).2.1 ∧ pl_u (plL P dt (k + 1)) (pl_n P + k) = (dt k).2.2.1 := by
      rw [← e]
      exact ⟨nup_eq _ _ _, nup_eq _ _ _, nup_eq _ _ _⟩
    refine ⟨fun i hi => ?_, fun j hj => ?_⟩
    · obtain ⟨a, b, c⟩ := ne i (by omega)
      rw [a, b, c]; exact h1 i hi
    · by_cases q : j = k
      · rw [q]; exact eq
      · obtain ⟨a, b, c⟩ := ne (pl_n P + j) (by omega)
        rw [a, b, c]; exact h2 j (by omega)
section
variable {P : pl_T} {tx : Nat → Nat} {n : Nat} {g : gm_T} {kp : Nat → Option gm_T} {lk tl : Nat} {rw : Nat → Int} {Q : Nat} {r : Nat → Nat} {dy : List aa_Shp} {σ σ' σs : aa_St}
def PQ (P : pl_T) (tx : Nat → Nat) (n : Nat) (g : gm_T) (kp : Nat → Option gm_T) (lk tl : Nat) (rw : Nat → Int) (Q : Nat) (r : Nat → Nat) (dy : List aa_Shp) (σ : aa_St) (ra : Option Value) (σ' : aa_St) : Prop := ∃ (z : Int32) (o : Option tm_T), ra = some (.int z) ∧ RD P tx n z o ∧ MJ (PIL P g kp o).1 tx 0 (PIL P g kp o).2.1 (PIL P g kp o).2.2 lk tl rw Q r dy σ σ'
theorem MI.rd (h : MI P tx n g kp lk tl rw Q r dy σ) (hF : FRd P σ σ') : MI P tx n g kp lk tl rw Q r dy σ' := by
  have q : ∀ x, x = 68 ∨ x = 70 ∨ x = 71 ∨ x = 72 ∨ x = 74 ∨ x = 80 ∨ x = 83 ∨ x = 84 ∨ x = 85 → σ'.1 x = σ.1 x := fun x hx => hF.2.1 x (by simp; omega)
  obtain ⟨a0, a1, a2, a3, a4⟩ := h.M
  refine ⟨hF.W h.W, h.R, ⟨a0, by rw [hF.2.2.1 3 (by decide)]; exact a1, by rw [hF.2.2.1 8 (by decide)]; exact a2, fun k hk => ?_, fun j hj => by rw [hF.2.2.2.2 j hj]; exact a4 j hj⟩, h.X.fr (hF.2.2.1 17 (by decide)) (q 72 (by decide)), h.G.fr (fun k hk => hF.2.2.1 k (by simp; omega)) (q 70 (by decide)) (q 71 (by decide)), h.K.fr (q 83 (by decide)) (q 84 (by decide)) (q 85 (by decide)), h.L.fr (q 80 (by decide)), h.T.fr (hF.2.2.1 1 (by decide)) (by rw [hF.1]), h.q.fr (hF.2.2.1 24 (by decide)) (q 74 (by decide))⟩
  obtain ⟨b1, b2, b3⟩ := hF.2.2.2.1 k hk
  rw [b1, b2, b3, q 68 (by decide)]
  exact a3 k hk
/-- what was read counts -/
theorem pq_yes (h : MI P tx 0 g kp lk tl rw Q r dy σs) (hm0 : MF σ σs) (hG : GG P g) (hF : FRd P σs σ') {p : Nat} {m : tm_T} (hp : p ≤ min n 76) (hR : RRl P tx n p m σ'.1) (h1 : m.1 ≠ 1) (h2 : m.1 ≠ 2) {z : Int32} (hRD : RD P tx n (nI m.2.1) (some m)) {y3 y4 y5 : Option Value} : aa_V mX12_piles 100 149 [some (.ref 63), some (.int (nI n)), some (.int (nI m.2.1)), y3, y4, y5] [] σ' (PQ P tx n g kp lk tl rw Q r dy σ) := by
  have ok := h.ok
  have tw := tw_of ok hR.1 hp
  have ok' := (plL_ok ok tw h1 h2 m.2.1 (Nat.le_refl _)).1
  have en : pl_n (plL P m.2.2.1 m.2.1) = pl_n P + m.2.1 := plL_n _ _ _
  have eb := tw.2.2.2.2.2.1
  obtain ⟨a1, a2, a3, a4, a5, a6⟩ := hR
  obtain ⟨l1, l2⟩ := plL_at (P := P) (dt := m.2.2.1) m.2.1
  obtain ⟨c0, c1, c2, c3, c4⟩ := h.M
  have n14 := tw.2.2.1
  have e3 : σ'.1 63 3 = nI (pl_n P) := by rw [hF.2.2.1 3 (by decide)]; exact c1
  have e8 : σ'.1 63 8 = nI (pl_b P) := by rw [hF.2.2.1 8 (by decide)]; exact c2
  -- the cells of the new pile
  have cells : ∀ k, k < pl_n P + m.2.1 → σ'.1 65 k = nI (pl_w (plL P m.2.2.1 m.2.1) k) ∧ σ'.1 66 k = nI (pl_h (plL P m.2.2.1 m.2.1) k) ∧ σ'.1 67 k = nI (pl_u (plL P m.2.2.1 m.2.1) k) := by
    intro k hk
    by_cases c : k < pl_n P
    · obtain ⟨x1, x2, x3⟩ := l1 k c
      obtain ⟨b1, b2, b3⟩ := hF.2.2.2.1 k c
      have := c3 k c
      rw [x1, x2, x3, b1, b2, b3]
      exact ⟨this.1, this.2.1, this.2.2.1⟩
    · obtain ⟨j, rfl⟩ : ∃ j, k = pl_n P + j := ⟨k - pl_n P, by omega⟩
      obtain ⟨x1, x2, x3⟩ := l2 j (by omega)
      rw [x1, x2, x3]
      exact a5 j (by omega)
  have hWa : aa_W r dy (aa_sI σ' 63 3 (nI (pl_n P + m.2.1))) := (hF.W h.W).sI _ _ _
  have hWb : aa_W r dy (aa_sI (aa_sI σ' 63 3 (nI (pl_n P + m.2.1))) 63 8 (nI (pl_b P + (m.2.2.2.1 - pl_b P)))) := hWa.sI _ _ _
  obtain ⟨σ3, ⟨hI, h68⟩, hS3⟩ := m_rises (P := plL P m.2.2.1 m.2.1) hWb ok' (fun k hk => by
    rw [en] at hk
    rw [sI_ne (by decide), sI_ne (by decide)]; exact (cells k hk).2.2)
  rw [en] at hS3 h68
  have hW3 := hI.W hWb
  have q3 : ∀ x, x ≠ 63 → x ≠ 68 → σ3.1 x = σ'.1 x := fun x x1 x2 => by rw [hI.2 x x2, sI_ne x1, sI_ne x1]
  have k3 : ∀ k, k ≠ 3 → k ≠ 8 → σ3.1 63 k = σ'.1 63 k := fun k x1 x2 => by rw [hI.2 63 (by decide), sI_nk x2, sI_nk x1]
  have hM3 : MP (plL P m.2.2.1 m.2.1) σ3.1 := by
    refine ⟨ok', ?_, ?_, fun k hk => ?_, fun j hj => ?_⟩
    · rw [hI.2 63 (by decide), sI_nk (by decide), sI_eq, en]
    · rw [hI.2 63 (by decide), sI_eq, ← eb]; congr 1; omega
    · rw [en] at hk
      obtain ⟨x1, x2, x3⟩ := cells k hk
      rw [q3 65 (by decide) (by decide), q3 66 (by decide) (by decide), q3 67 (by decide) (by decide)]
      exact ⟨x1, x2, x3, h68 k hk⟩
    · rw [q3 69 (by decide) (by decide)]; exact a6 j (by rw [eb]; exact hj)
  have hSb := m_begins hW3 hM3
  have fin : PQ P tx n g kp lk tl rw Q r dy σ (some (.int (nI m.2.1))) (aa_sI (aa_sI (aa_sI σ3 63 10 (nI (2 ^ pl_n (plL P m.2.2.1 m.2.1) - 1))) 63 11 (nI 0)) 63 13 (nI 0)) := by
    refine ⟨_, some m, rfl, hRD, ?_⟩
    have q5 : ∀ x, x ≠ 63 → x ≠ 65 → x ≠ 66 → x ≠ 67 → x ≠ 68 → x ≠ 69 → (aa_sI (aa_sI (aa_sI σ3 63 10 (nI (2 ^ pl_n (plL P m.2.2.1 m.2.1) - 1))) 63 11 (nI 0)) 63 13 (nI 0)).1 x = σs.1 x := fun x x1 x2 x3 x4 x5 x6 => by rw [sI_ne x1, sI_ne x1, sI_ne x1, q3 x x1 x5, hF.2.1 x (by simp; omega)]
    have k5 : ∀ k, k ∉ [3, 8, 10, 11, 13, 18, 20] → (aa_sI (aa_sI (aa_sI σ3 63 10 (nI (2 ^ pl_n (plL P m.2.2.1 m.2.1) - 1))) 63 11 (nI 0)) 63 13 (nI 0)).1 63 k = σs.1 63 k := fun k hk => by
      simp at hk
      rw [sI_nk (by omega), sI_nk (by omega), sI_nk (by omega), k3 k (by omega) (by omega), hF.2.2.1 k (by simp; omega)]
    have hM5 : MP (plL P m.2.2.1 m.2.1) (aa_sI (aa_sI (aa_sI σ3 63 10 (nI (2 ^ pl_n (plL P m.2.2.1 m.2.1) - 1))) 63 11 (nI 0)) 63 13 (nI 0)).1 := hM3.fr (by rw [sI_nk (by decide), sI_nk (by decide), sI_nk (by decide)]) (by rw [sI_nk (by decide), sI_nk (by decide), sI_nk (by decide)]) (fun x hx => by rw [sI_ne (by omega), sI_ne (by omega), sI_ne (by omega)])
    have mf0 : MF σs (aa_sI (aa_sI (aa_sI σ3 63 10 (nI (2 ^ pl_n (plL P m.2.2.1 m.2.1) - 1))) 63 11 (nI 0)) 63 13 (nI 0)) := ⟨by show σ3.2.2 = _; rw [hI.1]; show σ'.2.2 = _; rw [hF.1], fun x hx => ⟨q5 x (by omega) (by omega) (by omega) (by omega) (by omega) (by omega), by show σ3.2.1 x = _; rw [hI.1]; show σ'.2.1 x = _; rw [hF.1]⟩⟩
    have mf := hm0.tr mf0
    have hW5 : aa_W r dy (aa_sI (aa_sI (aa_sI σ3 63 10 (nI (2 ^ pl_n (plL P m.2.2.1 m.2.1) - 1))) 63 11 (nI 0)) 63 13 (nI 0)) := ((hW3.sI _ _ _).sI _ _ _).sI _ _ _
    have hX5 : MTx tx 0 (aa_sI (aa_sI (aa_sI σ3 63 10 (nI (2 ^ pl_n (plL P m.2.2.1 m.2.1) - 1))) 63 11 (nI 0)) 63 13 (nI 0)).1 := ⟨by rw [k5 17 (by decide)]; exact h.X.1, by omega, fun p hp => by omega⟩
    have hL5 := h.L.fr (q5 80 (by decide) (by decide) (by decide) (by decide) (by decide) (by decide))
    have hT5 : MR tl rw (aa_sI (aa_sI (aa_sI σ3 63 10 (nI (2 ^ pl_n (plL P m.2.2.1 m.2.1) - 1))) 63 11 (nI 0)) 63 13 (nI 0)) := h.T.fr (k5 1 (by decide)) (by show σ3.2.1 64 = _; rw [hI.1]; show σ'.2.1 64 = _; rw [hF.1])
    have hQ5 := h.q.fr (k5 24 (by decide)) (q5 74 (by decide) (by decide) (by decide) (by decide) (by decide) (by decide))
    have k12 := k5 12 (by decide)
    have e10 : (aa_sI (aa_sI (aa_sI σ3 63 10 (nI (2 ^ pl_n (plL P m.2.2.1 m.2.1) - 1))) 63 11 (nI 0)) 63 13 (nI 0)).1 63 10 = nI (2 ^ pl_n (plL P m.2.2.1 m.2.1) - 1) := by rw [sI_nk (by decide), sI_nk (by decide), sI_eq]
    have e11 : (aa_sI (aa_sI (aa_sI σ3 63 10 (nI (2 ^ pl_n (plL P m.2.2.1 m.2.1) - 1))) 63 11 (nI 0)) 63 13 (nI 0)).1 63 11 = nI 0 := by rw [sI_nk (by decide), sI_eq]
    have e13 : (aa_sI (aa_sI (aa_sI σ3 63 10 (nI (2 ^ pl_n (plL P m.2.2.1 m.2.1) - 1))) 63 11 (nI 0)) 63 13 (nI 0)).1 63 13 = nI 0 := sI_eq
    have hKK := h.K
    have q83 := q5 83 (by decide) (by decide) (by decide) (by decide) (by decide) (by decide)
    have q84 := q5 84 (by decide) (by decide) (by decide) (by decide) (by decide) (by decide)
    have q85 := q5 85 (by decide) (by decide) (by decide) (by decide) (by decide) (by decide)
    generalize aa_sI (aa_sI (aa_sI σ3 63 10 (nI (2 ^ pl_n (plL P m.2.2.1 m.2.1) - 1))) 63 11 (nI 0)) 63 13 (nI 0) = σ9 at *
    by_cases l0 : m.2.1 = 0
    · have e : PIL P g kp (some m) = (P, (0, g.2), kp) := by rw [PIL, if_pos l0]
      have eP : plL P m.2.2.1 m.2.1 = P := by rw [l0]; rfl
      rw [e]
      rw [eP] at hM5 e10
      refine MI.J (Q' := Q) ⟨hW5, h.R, hM5, hX5, ⟨?_, ?_, ?_, ?_, fun k hk => absurd hk (Nat.not_lt_zero k)⟩, hKK.fr q83 q84 q85, hL5, hT5, hQ5⟩ (by omega) mf
      · rw [e10]
        show nI (2 ^ pl_n P - 1) = nI (cv P (g.2.1 0))
        rw [hG.1.1, cv_full ok]
      · rw [e11]; rfl
      · rw [k12]; exact h.G.2.2.1
      · rw [e13]
    · have e : PIL P g kp (some m) = (plL P m.2.2.1 m.2.1, gNew (plL P m.2.2.1 m.2.1) g, kp0) := by rw [PIL, if_neg l0]
      rw [e]
      refine MI.J (Q' := Q) ⟨hW5, h.R, hM5, hX5, ⟨?_, ?_, ?_, ?_, fun k hk => absurd hk (Nat.not_lt_zero k)⟩, fun j hj => ?_, hL5, hT5, hQ5⟩ (by omega) mf
      · rw [e10]
        show nI (2 ^ pl_n (plL P m.2.2.1 m.2.1) - 1) = nI (cv _ (2 ^ pl_n (plL P m.2.2.1 m.2.1) - 1))
        rw [cv_full ok']
      · rw [e11]; rfl
      · rw [k12]; exact h.G.2.2.1
      · rw [e13]; rfl
      · obtain ⟨b, t, x1, x2, x3, x4, x5⟩ := hKK j hj
        refine ⟨b, t, by rw [q83]; exact x1, by rw [q84]; exact x2, ?_, ?_, fun g1 hg => by simp [kp0] at hg⟩
        · show t ≤ pl_n (plL P m.2.2.1 m.2.1)
          rw [en]; omega
        · show false = (b && decide (t = pl_n (plL P m.2.2.1 m.2.1)))
          rw [en, decide_eq_false (by omega), Bool.and_false]
  refine aa_go (aa_aload0 iX12_piles_149) (aa_go (aa_dup iX12_piles_150 rfl) (aa_go (aa_getE iX12_piles_151 fl_X12_78 (sh_63 (hF.W h.W)) rfl e3) (aa_go (aa_iload2 iX12_piles_154) (aa_go (aa_iaddN iX12_piles_155 ) (aa_go (aa_putI iX12_piles_156 fl_X12_78 (fun h => nomatch h) (sh_63 (hF.W h.W)) rfl ⟨rfl, rfl⟩) ?_)))))
  refine aa_go (aa_aload0 iX12_piles_159) (aa_go (aa_dup iX12_piles_160 rfl) (aa_go (aa_getE iX12_piles_161 fl_X12_63 (sh_63 hWa) rfl (by rw [sI_nk (by decide)]; exact e8)) (aa_go (aa_aload0 iX12_piles_164) (aa_go (aa_getE iX12_piles_165 fl_X12_66 (sh_63 hWa) rfl (by rw [sI_nk (by decide)]; exact a3)) (aa_go (aa_iaddN iX12_piles_168 ) (aa_go (aa_putI iX12_piles_169 fl_X12_63 (fun h => nomatch h) (sh_63 hWa) rfl ⟨rfl, rfl⟩) ?_))))))
  refine aa_go (aa_aload0 iX12_piles_172) (aa_go (aa_aload0 iX12_piles_173) (aa_go (aa_getE iX12_piles_174 fl_X12_78 (sh_63 hWb) rfl (by rw [sI_nk (by decide)]; exact sI_eq)) (aa_go (aa_cVv iX12_piles_177 (hS3) (by decide) lc_X12_rises lk_X12_84 (sh_63 hWb) rfl rfl (Nat.le_of_ble_eq_true rfl)) ?_)))
  refine aa_go (aa_aload0 iX12_piles_180) (aa_go (aa_cVv iX12_piles_181 (hSb) (by decide) lc_X12_begins lk_X12_88 (sh_63 hW3) rfl rfl (Nat.le_of_ble_eq_true rfl)) (aa_go (aa_iload2 iX12_piles_184) ?_))
  refine aa_iret iX12_piles_185 rfl ?_
  exact fin
theorem q_piles (h : MI P tx n g kp lk tl rw Q r dy σ) (hG : GG P g) : ∃ (z : Int32) (o : Option tm_T) (σ' : aa_St), (RD P tx n z o ∧ MJ (PIL P g kp o).1 tx 0 (PIL P g kp o).2.1 (PIL P g kp o).2.2 lk tl rw Q r dy σ σ') ∧ aa_SX mX12_piles 100 [.ref 63] σ (some (.int z)) σ' := by
  have h1 := h.thr (nI 0)
  have ok := h.ok
  have n80 := h.X.2.1
  have n14 := ok.1
  have hm0 : MF σ (aa_sI (aa_sI (aa_sI (aa_sI (aa_sI σ 63 0 (nI 0)) 63 17 (nI 0)) 63 18 (nI 0)) 63 19 (nI (min n 76))) 63 20 (nI 0)) := ((((MF.rf.s (by decide) _ _).s (by decide) _ _).s (by decide) _ _).s (by decide) _ _).s (by decide) _ _
  have hs : MI P tx 0 g kp lk tl rw Q r dy (aa_sI (aa_sI (aa_sI (aa_sI (aa_sI σ 63 0 (nI 0)) 63 17 (nI 0)) 63 18 (nI 0)) 63 19 (nI (min n 76))) 63 20 (nI 0)) := by
    have q : ∀ x, x ≠ 63 → (aa_sI (aa_sI (aa_sI (aa_sI (aa_sI σ 63 0 (nI 0)) 63 17 (nI 0)) 63 18 (nI 0)) 63 19 (nI (min n 76))) 63 20 (nI 0)).1 x = σ.1 x := fun x hx => by rw [sI_ne hx, sI_ne hx, sI_ne hx, sI_ne hx, sI_ne hx]
    have qk : ∀ k, k ∉ [0, 17, 18, 19, 20] → (aa_sI (aa_sI (aa_sI (aa_sI (aa_sI σ 63 0 (nI 0)) 63 17 (nI 0)) 63 18 (nI 0)) 63 19 (nI (min n 76))) 63 20 (nI 0)).1 63 k = σ.1 63 k := fun k hk => by
      simp at hk
      rw [sI_nk (by omega), sI_nk (by omega), sI_nk (by omega), sI_nk (by omega), sI_nk (by omega)]
    exact h.upd rfl (fun k hk => qk k (by simp; omega)) (fun x hx => q x (by omega)) ⟨by rw [sI_nk (by decide), sI_nk (by decide), sI_nk (by decide), sI_eq], by omega, fun p hp => by omega⟩ (h.G.fr (fun k hk => qk k (by simp; omega)) (q 70 (by decide)) (q 71 (by decide))) (h.K.fr (q 83 (by decide)) (q 84 (by decide)) (q 85 (by decide))) (h.L.fr (q 80 (by decide)))
  have hR0 : RRl P tx n 0 (0, 0, tm0, pl_b P, 0, 0) (aa_sI (aa_sI (aa_sI (aa_sI (aa_sI σ 63 0 (nI 0)) 63 17 (nI 0)) 63 18 (nI 0)) 63 19 (nI (min n 76))) 63 20 (nI 0)).1 := by
    refine ⟨rfl, ⟨by rw [sI_nk (by decide), sI_nk (by decide), sI_eq], by rw [sI_nk (by decide), sI_eq], n80, by omega, fun q hq => ?_⟩, by rw [sI_eq, Nat.sub_self], Nat.le_refl _, fun k hk => absurd hk (Nat.not_lt_zero k), fun j hj => ?_⟩
    · rw [sI_ne (by decide), sI_ne (by decide), sI_ne (by decide), sI_ne (by decide), sI_ne (by decide)]; exact h.X.2.2 q hq
    · exact hs.M.2.2.2.2 j hj
  have hb : (aa_sI (aa_sI (aa_sI (aa_sI (aa_sI σ 63 0 (nI 0)) 63 17 (nI 0)) 63 18 (nI 0)) 63 19 (nI (min n 76))) 63 20 (nI 0)).1 63 8 = nI (pl_b P) := hs.M.2.2.1
  generalize hσ : aa_sI (aa_sI (aa_sI (aa_sI (aa_sI σ 63 0 (nI 0)) 63 17 (nI 0)) 63 18 (nI 0)) 63 19 (nI (min n 76))) 63 20 (nI 0) = σs at *
  have mfail : ∀ (σ' : aa_St) (z : Int32), FRd P σs σ' → RD P tx n z none → PQ P tx n g kp lk tl rw Q r dy σ (some (.int z)) σ' := fun σ' z hF hRD => ⟨z, none, rfl, hRD, (hs.rd hF).J (by omega) (hm0.tr hF.MF)⟩
  -- it stopped: 92
  have fin1 : ∀ (σ1 : aa_St) (p l : Nat) (y5 : Option Value), n ≠ 0 → FRd P σs σ1 → σ1.1 63 19 = nI (min n 76) → σ1.1 63 18 = nI p → FLr P tx n p → aa_V mX12_piles 100 92 [some (.ref 63), some (.int (nI n)), some (.int (nI l)), some (.int (nI false.toNat)), some (.int (nI 0)), y5] [] σ1 (PQ P tx n g kp lk tl rw Q r dy σ) := by
    intro σ1 p l y5 n0 hF h19 h18 fl
    have pl := fl.le
    have lastp : n ≤ 76 ∨ p < 76 → PQ P tx n g kp lk tl rw Q r dy σ (some (.int (-1 - nI p))) σ1 := by
      intro q
      refine mfail σ1 _ hF ?_
      rcases fl with ⟨x1, x2, x3⟩ | ⟨x1, m, x2, x3⟩
      · exact Or.inl ⟨p, x1, x2, x3, rfl, rfl⟩
      · have e : p = n := by omega
        rw [x1] at x2
        refine Or.inr ⟨m, x2, Or.inr (Or.inr ⟨by omega, n0, x3, by rw [e]; rfl, rfl⟩)⟩
    refine aa_go (aa_iload3 iX12_piles_92) ?_
    refine aa_go (aa_if_eqT iX12_piles_93 (by decide)) ?_
    refine aa_go (aa_iconst iX12_piles_111 ki_0) (aa_go (aa_istore5 iX12_piles_112 rfl (by decide)) (aa_go (aa_iload1 iX12_piles_114) (aa_go (aa_bipush iX12_piles_115 kb_76) ?_)))
    refine aa_ic_leN iX12_piles_117 (by omega) (by omega) (fun g1 => ?_) (fun g1 => ?_)
    · skip
      refine aa_go (aa_iload5 iX12_piles_137) ?_
      refine aa_go (aa_if_neF iX12_piles_139 (by decide)) ?_
      refine aa_go (aa_iconst iX12_piles_142 ki_m1) (aa_go (aa_aload0 iX12_piles_143) (aa_go (aa_getE iX12_piles_144 fl_X12_25 (sh_63 (hF.W hs.W)) rfl h18) (aa_go (aa_isub iX12_piles_147 ) ?_)))
      refine aa_iret iX12_piles_148 rfl ?_
      exact lastp (Or.inl (by omega))
    · skip
      refine aa_go (aa_iload5 iX12_piles_120) ?_
      refine aa_go (aa_if_neF iX12_piles_122 (by decide)) ?_
      refine aa_go (aa_aload0 iX12_piles_125) (aa_go (aa_getE iX12_piles_126 fl_X12_25 (sh_63 (hF.W hs.W)) rfl h18) (aa_go (aa_bipush iX12_piles_129 kb_76) ?_))
      refine aa_ic_ltN iX12_piles_131 (by omega) (by omega) (fun g2 => ?_) (fun g2 => ?_)
      · skip
        refine aa_go (aa_iload5 iX12_piles_137) ?_
        refine aa_go (aa_if_neF iX12_piles_139 (by decide)) ?_
        refine aa_go (aa_iconst iX12_piles_142 ki_m1) (aa_go (aa_aload0 iX12_piles_143) (aa_go (aa_getE iX12_piles_144 fl_X12_25 (sh_63 (hF.W hs.W)) rfl h18) (aa_go (aa_isub iX12_piles_147 ) ?_)))
        refine aa_iret iX12_piles_148 rfl ?_
        exact lastp (Or.inr (by omega))
      · skip
        refine aa_go (aa_bipush iX12_piles_134 kb_m77) ?_
        refine aa_iret iX12_piles_136 rfl ?_
        refine mfail σ1 _ hF ?_
        rcases fl with ⟨x1, x2, x3⟩ | ⟨x1, m, x2, x3⟩
        · omega
        · rw [x1] at x2
          exact Or.inr ⟨m, x2, Or.inl ⟨by omega, rfl, rfl⟩⟩
  -- all was read, or more stands there: 92
  have fin2 : ∀ (σ1 : aa_St) (p : Nat) (m : tm_T) (y5 : Option Value), FRd P σs σ1 → RRl P tx n p m σ1.1 → m.1 ≠ 1 → m.1 ≠ 2 → (n = 0 ∨ mayE m.1 = true) → (p < min n 76 → tR P tx n (p + 1) = none) → aa_V mX12_piles 100 92 [some (.ref 63), some (.int (nI n)), some (.int (nI m.2.1)), some (.int (nI true.toNat)), some (.int (nI 0)), y5] [] σ1 (PQ P tx n g kp lk tl rw Q r dy σ) := by
    intro σ1 p m y5 hF hR m1 m2 mE ne
    have pl := hR.2.1.2.2.2.1
    refine aa_go (aa_iload3 iX12_piles_92) ?_
    refine aa_go (aa_if_eqF iX12_piles_93 (by decide)) ?_
    refine aa_go (aa_aload0 iX12_piles_96) (aa_go (aa_getE iX12_piles_97 fl_X12_25 (sh_63 (hF.W hs.W)) rfl hR.2.1.1) (aa_go (aa_aload0 iX12_piles_100) (aa_go (aa_getE iX12_piles_101 fl_X12_28 (sh_63 (hF.W hs.W)) rfl hR.2.1.2.1) ?_)))
    refine aa_ic_neN iX12_piles_104 (by omega) (by omega) (fun g0 => ?_) (fun g0 => ?_)
    · skip
      have fl : RD P tx n (dN p) none := Or.inl ⟨p, by omega, by rw [hR.1]; simp, ne (by omega), rfl, rfl⟩
      refine aa_go (aa_iconst iX12_piles_111 ki_0) (aa_go (aa_istore5 iX12_piles_112 rfl (by decide)) (aa_go (aa_iload1 iX12_piles_114) (aa_go (aa_bipush iX12_piles_115 kb_76) ?_)))
      refine aa_ic_leN iX12_piles_117 (by omega) (by omega) (fun g1 => ?_) (fun g1 => ?_)
      · skip
        refine aa_go (aa_iload5 iX12_piles_137) ?_
        refine aa_go (aa_if_neF iX12_piles_139 (by decide)) ?_
        refine aa_go (aa_iconst iX12_piles_142 ki_m1) (aa_go (aa_aload0 iX12_piles_143) (aa_go (aa_getE iX12_piles_144 fl_X12_25 (sh_63 (hF.W hs.W)) rfl hR.2.1.1) (aa_go (aa_isub iX12_piles_147 ) ?_)))
        refine aa_iret iX12_piles_148 rfl ?_
        exact mfail σ1 _ hF fl
      · skip
        refine aa_go (aa_iload5 iX12_piles_120) ?_
        refine aa_go (aa_if_neF iX12_piles_122 (by decide)) ?_
        refine aa_go (aa_aload0 iX12_piles_125) (aa_go (aa_getE iX12_piles_126 fl_X12_25 (sh_63 (hF.W hs.W)) rfl hR.2.1.1) (aa_go (aa_bipush iX12_piles_129 kb_76) ?_))
        refine aa_ic_ltN iX12_piles_131 (by omega) (by omega) (fun g2 => ?_) (fun g2 => ?_)
        · skip
          refine aa_go (aa_iload5 iX12_piles_137) ?_
          refine aa_go (aa_if_neF iX12_piles_139 (by decide)) ?_
          refine aa_go (aa_iconst iX12_piles_142 ki_m1) (aa_go (aa_aload0 iX12_piles_143) (aa_go (aa_getE iX12_piles_144 fl_X12_25 (sh_63 (hF.W hs.W)) rfl hR.2.1.1) (aa_go (aa_isub iX12_piles_147 ) ?_)))
          refine aa_iret iX12_piles_148 rfl ?_
          exact mfail σ1 _ hF fl
        · skip
          omega
    · skip
      have e : p = min n 76 := by omega
      have hm := hR.1
      rw [e] at hm
      refine aa_go (aa_iconst iX12_piles_107 ki_1) (aa_go (aa_goto iX12_piles_108) (aa_go (aa_istore5 iX12_piles_112 rfl (by decide)) (aa_go (aa_iload1 iX12_piles_114) (aa_go (aa_bipush iX12_piles_115 kb_76) ?_))))
      refine aa_ic_leN iX12_piles_117 (by omega) (by omega) (fun g1 => ?_) (fun g1 => ?_)
      · skip
        refine aa_go (aa_iload5 iX12_piles_137) ?_
        refine aa_go (aa_if_neT iX12_piles_139 (by decide)) ?_
        exact pq_yes (z := 0) hs hm0 hG hF pl hR m1 m2 (Or.inr ⟨m, hm, Or.inr (Or.inl ⟨by omega, mE, rfl, rfl⟩)⟩)
      · skip
        refine aa_go (aa_iload5 iX12_piles_120) ?_
        refine aa_go (aa_if_neT iX12_piles_122 (by decide)) ?_
        refine aa_go (aa_bipush iX12_piles_134 kb_m77) ?_
        refine aa_iret iX12_piles_136 rfl ?_
        exact mfail σ1 _ hF (Or.inr ⟨m, hm, Or.inl ⟨by omega, rfl, rfl⟩⟩)
  -- thing by thing: 50
  have loop : ∀ f p (m : tm_T) (σ1 : aa_St) (y5 : Option Value), min n 76 - p < f → n ≠ 0 → FRd P σs σ1 → RRl P tx n p m σ1.1 → m.1 = 0 → aa_V mX12_piles 100 50 [some (.ref 63), some (.int (nI n)), some (.int (nI m.2.1)), some (.int (nI 1)), some (.int (nI 1)), y5] [] σ1 (PQ P tx n g kp lk tl rw Q r dy σ) := by
    intro f
    induction f with
    | zero => intro p m σ1 y5 g1; omega
    | succ f ih =>
      intro p m σ1 y5 g1 n0 hF hR h0
      have pl := hR.2.1.2.2.2.1
      have tw := tw_of ok hR.1 pl
      have l14 := tw.2.2.1
      obtain ⟨b, σ2, hT, hS⟩ := m_readsThing ok hs.W hb hF hR h0
      have hF2 := hT.1
      have e3 : σ1.1 63 3 = nI (pl_n P) := by rw [hF.2.2.1 3 (by decide)]; exact hs.M.2.1
      have fin3 : aa_V mX12_piles 100 65 [some (.ref 63), some (.int (nI n)), some (.int (nI m.2.1)), some (.int (nI 1)), some (.int (nI 1)), y5] [.int (nI b.toNat)] σ2 (PQ P tx n g kp lk tl rw Q r dy σ) := by
        obtain ⟨-, hT2⟩ := hT
        rcases hT2 with ⟨rfl, p', m', hR', mE, ml, pp, ne, ye⟩ | ⟨rfl, p', p1, p2, fl⟩
        · have pl' := hR'.2.1.2.2.2.1
          have hS2 := m_takes (hF2.W hs.W) hR'.2.1 (s := 59) (by omega)
          have fin4 : ∀ c : Bool, tkB tx n p' 59 = c → aa_V mX12_piles 100 79 [some (.ref 63), some (.int (nI n)), some (.int (nI (m.2.1 + 1))), some (.int (nI true.toNat)), some (.int (nI 1)), y5] [.int (nI c.toNat)] (SA σ2 (p' + c.toNat)) (PQ P tx n g kp lk tl rw Q r dy σ) := by
            intro c hc
            cases c with
            | false =>
              rw [show SA σ2 (p' + false.toNat) = _ from SA_id hR'.2.1.1]
              have hn : p' < min n 76 → tR P tx n (p' + 1) = none := fun x => ne x (fun y => by
                rw [tkB, decide_eq_true x, decide_eq_true y] at hc
                exact absurd hc (by decide))
              have f9 := fin2 σ2 p' m' y5 hF2 hR' (fun x => by rw [x] at mE; exact absurd mE (by decide)) (fun x => by rw [x] at mE; exact absurd mE (by decide)) (Or.inr mE) hn
              rw [ml] at f9
              refine aa_go (aa_if_eqT iX12_piles_79 (by decide)) ?_
              refine aa_go (aa_iconst iX12_piles_86 ki_0) (aa_go (aa_istore4 iX12_piles_87 rfl (by decide)) (aa_go (aa_goto iX12_piles_89) (aa_go (aa_iload4 iX12_piles_50) ?_)))
              refine aa_go (aa_if_eqT iX12_piles_52 (by decide)) ?_
              exact f9
            | true =>
              have tk : p' < min n 76 ∧ tx p' = 59 := by
                rw [tkB, Bool.and_eq_true, decide_eq_true_eq, decide_eq_true_eq] at hc
                exact hc
              have hR5 := hR'.mv (q := p' + 1) (by omega) (ye tk.1 tk.2) rfl rfl rfl
              have nxt := ih (p' + 1) _ _ y5 (by omega) n0 (hF2.f (by decide) _) hR5 rfl
              dsimp only at nxt
              rw [ml] at nxt
              refine aa_go (aa_if_eqF iX12_piles_79 (by decide)) ?_
              refine aa_go (aa_iconst iX12_piles_82 ki_1) (aa_go (aa_goto iX12_piles_83) (aa_go (aa_istore4 iX12_piles_87 rfl (by decide)) (aa_go (aa_goto iX12_piles_89) ?_)))
              exact nxt
          refine aa_go (aa_istore3 iX12_piles_65 rfl (by decide)) (aa_go (aa_iincN2 (k := 1) iX12_piles_66 rfl (by decide)) (aa_go (aa_iload3 iX12_piles_69) ?_))
          refine aa_go (aa_if_eqF iX12_piles_70 (by decide)) ?_
          refine aa_go (aa_aload0 iX12_piles_73) (aa_go (aa_bipush iX12_piles_74 kb_59) (aa_go (aa_cVi iX12_piles_76 (hS2) (by decide) lc_X12_takes lk_X12_50 (sh_63 (hF2.W hs.W)) rfl rfl (Nat.le_of_ble_eq_true rfl)) ?_))
          exact fin4 _ rfl
        · have f9 := fin1 σ2 p' (m.2.1 + 1) y5 n0 hF2 (by rw [hF2.2.2.1 19 (by decide)]; exact hR0.2.1.2.1) p2 fl
          refine aa_go (aa_istore3 iX12_piles_65 rfl (by decide)) (aa_go (aa_iincN2 (k := 1) iX12_piles_66 rfl (by decide)) (aa_go (aa_iload3 iX12_piles_69) ?_))
          refine aa_go (aa_if_eqT iX12_piles_70 (by decide)) ?_
          refine aa_go (aa_iconst iX12_piles_86 ki_0) (aa_go (aa_istore4 iX12_piles_87 rfl (by decide)) (aa_go (aa_goto iX12_piles_89) (aa_go (aa_iload4 iX12_piles_50) ?_)))
          refine aa_go (aa_if_eqT iX12_piles_52 (by decide)) ?_
          exact f9
      refine aa_go (aa_iload4 iX12_piles_50) ?_
      refine aa_go (aa_if_eqF iX12_piles_52 (by decide)) ?_
      refine aa_go (aa_aload0 iX12_piles_55) (aa_go (aa_aload0 iX12_piles_56) (aa_go (aa_getE iX12_piles_57 fl_X12_78 (sh_63 (hF.W hs.W)) rfl e3) (aa_go (aa_iload2 iX12_piles_60) (aa_go (aa_iaddN iX12_piles_61 ) (aa_go (aa_cVi iX12_piles_62 (hS) (by decide) lc_X12_readsThing lk_X12_81 (sh_63 (hF.W hs.W)) rfl rfl (Nat.le_of_ble_eq_true rfl)) ?_)))))
      exact fin3
  have key : aa_V mX12_piles 100 0 [some (.ref 63), none, none, none, none, none] [] σ (PQ P tx n g kp lk tl rw Q r dy σ) := by
    have h17 : (aa_sI σ 63 0 (nI 0)).1 63 17 = nI n := by rw [sI_nk (by decide)]; exact h.X.1
    refine aa_go (aa_aload0 iX12_piles_0) (aa_go (aa_iconst iX12_piles_1 ki_0) (aa_go (aa_putI iX12_piles_2 fl_X12_3 (fun h => nomatch h) (sh_63 h.W) rfl ⟨rfl, rfl⟩) ?_))
    refine aa_go (aa_aload0 iX12_piles_5) (aa_go (aa_getE iX12_piles_6 fl_X12_14 (sh_63 h1.W) rfl h17) (aa_go (aa_istore1 iX12_piles_9 rfl (by decide)) (aa_go (aa_aload0 iX12_piles_10) (aa_go (aa_iconst iX12_piles_11 ki_0) (aa_go (aa_putI iX12_piles_12 fl_X12_14 (fun h => nomatch h) (sh_63 h1.W) rfl ⟨rfl, rfl⟩) ?_)))))
    refine aa_go (aa_aload0 iX12_piles_15) (aa_go (aa_iconst iX12_piles_16 ki_0) (aa_go (aa_putI iX12_piles_17 fl_X12_25 (fun h => nomatch h) (sh_63 (h1.W.sI 63 17 (nI 0))) rfl ⟨rfl, rfl⟩) ?_))
    refine aa_go (aa_aload0 iX12_piles_20) (aa_go (aa_iload1 iX12_piles_21) (aa_go (aa_bipush iX12_piles_22 kb_76) (aa_go (aa_mminN iX12_piles_24 (by omega) lk_X12_72 (Nat.le_of_ble_eq_true rfl) (by omega) (by omega)) (aa_go (aa_putI iX12_piles_27 fl_X12_28 (fun h => nomatch h) (sh_63 ((h1.W.sI 63 17 (nI 0)).sI 63 18 (nI 0))) rfl ⟨rfl, rfl⟩) ?_))))
    refine aa_go (aa_aload0 iX12_piles_30) (aa_go (aa_iconst iX12_piles_31 ki_0) (aa_go (aa_putI iX12_piles_32 fl_X12_66 (fun h => nomatch h) (sh_63 (((h1.W.sI 63 17 (nI 0)).sI 63 18 (nI 0)).sI 63 19 (nI (min n 76)))) rfl ⟨rfl, rfl⟩) ?_))
    rw [hσ]
    refine aa_go (aa_iconst iX12_piles_35 ki_0) (aa_go (aa_istore2 iX12_piles_36 rfl (by decide)) (aa_go (aa_iconst iX12_piles_37 ki_1) (aa_go (aa_istore3 iX12_piles_38 rfl (by decide)) (aa_go (aa_iload1 iX12_piles_39) ?_))))
    refine aa_if_leN iX12_piles_40 (by omega) (fun g1 => ?_) (fun g1 => ?_)
    · skip
      have n0 : n = 0 := by omega
      have f9 := fin2 σs 0 (0, 0, tm0, pl_b P, 0, 0) none FRd.rf hR0 (show (0 : Nat) ≠ 1 by decide) (show (0 : Nat) ≠ 2 by decide) (Or.inl n0) (fun x => by omega)
      refine aa_go (aa_iconst iX12_piles_47 ki_0) (aa_go (aa_istore4 iX12_piles_48 rfl (by decide)) (aa_go (aa_iload4 iX12_piles_50) ?_))
      refine aa_go (aa_if_eqT iX12_piles_52 (by decide)) ?_
      exact f9
    · skip
      have f9 := loop (min n 76 + 1) 0 (0, 0, tm0, pl_b P, 0, 0) σs none (by omega) (by omega) FRd.rf hR0 rfl
      refine aa_go (aa_iconst iX12_piles_43 ki_1) (aa_go (aa_goto iX12_piles_44) (aa_go (aa_istore4 iX12_piles_48 rfl (by decide)) ?_))
      exact f9
  obtain ⟨ra, σ', ⟨z, o, rfl, h8, h9⟩, hS9⟩ := aa_S_of (avs := [.ref 63]) (by decide) 5 [some (.ref 63), none, none, none, none, none] rfl rfl key
  exact ⟨z, o, σ', ⟨h8, h9⟩, hS9⟩
end
