/-! THE CLASS AND THE REFERENCE, side by side -/
section
variable {P P' : pl_T} {tx tx' : Nat → Nat} {n n' : Nat} {g g' : gm_T} {kp kp' : Nat → Option gm_T} {lk lk' tl tl' : Nat} {rw rw' : Nat → Int} {Q Q' : Nat} {r r' : Nat → Nat} {dy dy' : List aa_Shp} {σ σ' : aa_St} {N N' v W S R : Nat}
/-- a call of the class leaves the reference as it was -/
theorem MI.cf (h : MI P tx n g kp lk tl rw Q r dy σ) (hF : CF r σ r' σ') (hW : aa_W r' dy' σ') : MI P tx n g kp lk tl rw Q r' dy' σ' := by
  have q : ∀ x, 63 ≤ x → x < 87 → σ'.1 x = σ.1 x := fun x h1 h2 => (hF.1 x h1 h2).1
  have q63 := q 63 (by decide) (by decide)
  refine ⟨hW, ?_, h.M.fr (by rw [q63]) (by rw [q63]) (fun x hx => q x (by omega) (by omega)), h.X.fr (by rw [q63]) (q 72 (by decide) (by decide)), h.G.fr (fun k _ => by rw [q63]) (q 70 (by decide) (by decide)) (q 71 (by decide) (by decide)), h.K.fr (q 83 (by decide) (by decide)) (q 84 (by decide) (by decide)) (q 85 (by decide) (by decide)), h.L.fr (q 80 (by decide) (by decide)), h.T.fr (by rw [q63]) (hF.1 64 (by decide) (by decide)).2, h.q.fr (by rw [q63]) (q 74 (by decide) (by decide))⟩
  unfold RLy
  rw [hF.2.1, hF.2.2]
  exact h.R
/-- a call of the reference leaves the class as it was -/
theorem XIv.mf (h : XIv P tx n g kp lk tl rw N v W S R r dy σ) (hF : MFr r σ r' σ') (hW : aa_W r' dy σ') (hR : RLy r') : XIv P tx n g kp lk tl rw N v W S R r' dy σ' := by
  obtain ⟨a1, a2, a3, a4, a5, a6, a7, a8, w1, w2, w3, w4⟩ := h
  obtain ⟨f1, f2, f3, f4⟩ := hF
  have lo : ∀ x, x < 63 → σ'.1 x = σ.1 x := fun x hx => (f4 x (Or.inl hx)).1
  have rq : ∀ q, q < 7 → r' q = r q := fun q hq => f1 q (by omega) (by omega)
  have rr : ∀ q, q < 7 → σ'.1 (r q) = σ.1 (r q) ∧ σ'.2.1 (r q) = σ.2.1 (r q) ∧ σ'.2.2.1[r q]? = σ.2.2.1[r q]? := fun q hq => by
    have := a2.lo hq
    have c : r q < 63 ∨ 86 ≤ r q := by omega
    exact ⟨(f4 _ c).1, (f4 _ c).2, f3 _ (by omega)⟩
  have b2 : RQ r' dy := by
    refine ⟨fun q => ?_, fun p q hp hq hpq => ?_, fun q hq => ?_⟩
    · by_cases c7 : q = 7
      · rw [c7]; rcases hR with x | x <;> omega
      · by_cases c8 : q = 8
        · rw [c8]; rcases hR with x | x <;> omega
        · rw [f1 q c7 c8]; exact a2.1 q
    · rw [rq p hp, rq q hq]; exact a2.2.1 p q hp hq hpq
    · rw [rq q hq]; exact a2.2.2 q hq
  have cce : cc v σ'.1 = cc v σ.1 := by rw [cc, cc, lo 25 (by decide), lo 27 (by decide), lo 30 (by decide), lo 39 (by decide), lo 47 (by decide)]
  refine ⟨hW, b2, a3.fr ⟨by rw [lo 7 (by decide)], by rw [lo 7 (by decide)], by rw [lo 7 (by decide)]⟩ (fun a h1 h2 => lo a (by omega)), by rw [lo 7 (by decide)]; exact a4, a5, a6.fr (fun x hx => lo x (by simp [XTc] at hx; omega)) (f4 56 (by omega)).2, ?_, ?_, w1, w2, w3, w4.fr (fun a ha => by rw [lo a (by simp at ha; omega)]) (by rw [lo 49 (by decide)])⟩
  · obtain ⟨m0, m1, m2, m3, m4, m5, ⟨m6, m6'⟩, m7, m8, m9⟩ := a7
    refine ⟨?_, ?_, ?_, ?_, ?_, ?_, ⟨by rw [lo 49 (by decide)]; exact m6, ?_⟩, by rw [lo 24 (by decide)]; exact m7, by rw [(f4 38 (by omega)).2]; exact m8, m9⟩
    · unfold S0 R0; rw [lo 25 (by decide), rq 0 (by decide), (rr 0 (by decide)).2.1, (rr 0 (by decide)).2.2]; exact m0
    · unfold S1 R1; rw [lo 27 (by decide), rq 1 (by decide), (rr 1 (by decide)).2.1, (rr 1 (by decide)).2.2]; exact m1
    · unfold S2 R2; rw [lo 30 (by decide), rq 2 (by decide), (rr 2 (by decide)).2.1, (rr 2 (by decide)).2.2]; exact m2
    · unfold S3 R3; rw [rq 3 (by decide), (rr 3 (by decide)).1, (rr 3 (by decide)).2.2]; exact m3
    · unfold S4 R4; rw [lo 39 (by decide), rq 4 (by decide), (rr 4 (by decide)).2.1, (rr 4 (by decide)).2.2]; exact m4
    · unfold S5 R5; rw [lo 47 (by decide), rq 5 (by decide), (rr 5 (by decide)).2.1, (rr 5 (by decide)).2.2]; exact m5
    · rw [rq 6 (by decide), (rr 6 (by decide)).1, (rr 6 (by decide)).2.2, lo 49 (by decide)]
      rcases m6' with x | ⟨x1, x2, x3, x4⟩
      · exact Or.inl x
      · refine Or.inr ⟨x1, x2, x3, fun T e y1 y2 y3 y4 y5 y6 => ?_⟩
        obtain ⟨z1, z2⟩ := x4 T e y1 y2 y3 y4 y5 y6
        exact ⟨z1.fr (by rw [lo 51 (by decide)]) (lo 52 (by decide)) (lo 53 (by decide)) (lo 54 (by decide)), z2⟩
  · obtain ⟨c1, c2⟩ := a8
    unfold BD ph pn
    rw [cce, f2, rq 3 (by decide), rq 6 (by decide)]
    exact ⟨c1, c2⟩
theorem XIv.GG (h : XIv P tx n g kp lk tl rw N v W S R r dy σ) : GG P g := ⟨h.GV, h.e1, h.G.2.1⟩
theorem XIv.KG (h : XIv P tx n g kp lk tl rw N v W S R r dy σ) : KG P kp := fun j hj g1 hg => by
  obtain ⟨⟨x1, x2⟩, x3⟩ := (h.2.2.2.2.2.1.2.2.1 j hj).2 g1 hg
  exact ⟨x3, x2.2.2.2.1, x2.1⟩
end
/-- both hold the same -/
def JI (N : Nat) (σ : aa_St) : Prop := ∃ (P : pl_T) (tx : Nat → Nat) (n : Nat) (g : gm_T) (kp : Nat → Option gm_T) (lk tl : Nat) (rw : Nat → Int) (Q : Nat) (r : Nat → Nat) (dy : List aa_Shp), XI P tx n g kp lk tl rw N r dy σ ∧ MI P tx n g kp lk tl rw Q r dy σ ∧ Q ≤ 2000 * N
def HW (σ : aa_St) : Prop := ∃ (r : Nat → Nat) (dy : List aa_Shp), aa_W r dy σ
theorem JI.W {N : Nat} {σ : aa_St} (h : JI N σ) : HW σ := by
  obtain ⟨P, tx, n, g, kp, lk, tl, rw, Q, r, dy, h1, h2, h3⟩ := h
  exact ⟨r, dy, h2.W⟩
/-- a call on both gives the same answer -/
def JSi (mx mm : aa_M) (as : List Value) (N : Nat) (σ : aa_St) : Prop := ∃ (x : Int32) (σ1 σ2 : aa_St), aa_SX mx 100 (.ref 0 :: as) σ (some (.int x)) σ1 ∧ aa_SX mm 100 (.ref 63 :: as) σ1 (some (.int x)) σ2 ∧ HW σ1 ∧ JI (N + 1) σ2
def JSl (mx mm : aa_M) (as : List Value) (N : Nat) (σ : aa_St) : Prop := ∃ (x : Int64) (σ1 σ2 : aa_St), aa_SX mx 100 (.ref 0 :: as) σ (some (.long x)) σ1 ∧ aa_SX mm 100 (.ref 63 :: as) σ1 (some (.long x)) σ2 ∧ HW σ1 ∧ JI (N + 1) σ2
section
variable {P P' : pl_T} {tx tx' : Nat → Nat} {n n' : Nat} {g g' : gm_T} {kp kp' : Nat → Option gm_T} {lk lk' tl tl' : Nat} {rw rw' : Nat → Int} {Q Q' : Nat} {r r' : Nat → Nat} {dy dy' : List aa_Shp} {σ σ' σ1 : aa_St} {N N' v W S R : Nat} {mx mm : aa_M} {as : List Value} {x : Int32}
theorem JI.of (hX : XI P tx n g kp lk tl rw N' r dy σ) (hM : MJ P tx n g kp lk tl rw Q r dy σ σ') (hQ : Q ≤ 2000 * N) (hN : N' ≤ N + 1) : JI (N + 1) σ' := by
  obtain ⟨v, W, S, R, hX⟩ := hX
  obtain ⟨⟨Q', q1, h1⟩, hF⟩ := hM
  exact ⟨P, tx, n, g, kp, lk, tl, rw, Q', r, dy, ((hX.up hN).mf hF.fr h1.W h1.R).to, h1, by omega⟩
theorem JSi.go (hM : MI P tx n g kp lk tl rw Q r dy σ) (hQ : Q ≤ 2000 * N) (hS : aa_SX mx 100 (.ref 0 :: as) σ (some (.int x)) σ1) (hX : XI P' tx' n' g' kp' lk' tl' rw' N' r' dy' σ1) (hN : N' ≤ N + 1) (hC : CF r σ r' σ1) (hq : MI P tx n g kp lk tl rw Q r' dy' σ1 → ∃ σ2, MJ P' tx' n' g' kp' lk' tl' rw' Q r' dy' σ1 σ2 ∧ aa_SX mm 100 (.ref 63 :: as) σ1 (some (.int x)) σ2) : JSi mx mm as N σ := by
  have hW1 : aa_W r' dy' σ1 := by obtain ⟨v, W, S, R, h⟩ := hX; exact h.1
  obtain ⟨σ2, h1, h2⟩ := hq (hM.cf hC hW1)
  exact ⟨x, σ1, σ2, hS, h2, ⟨r', dy', hW1⟩, JI.of hX h1 hQ hN⟩
/-- the class changed nothing -/
theorem JSi.no (hX : XIv P tx n g kp lk tl rw N v W S R r dy σ) (hM : MI P tx n g kp lk tl rw Q r dy σ) (hQ : Q ≤ 2000 * N) (hS : aa_SX mx 100 (.ref 0 :: as) σ (some (.int x)) σ) (hq : ∃ σ2, MJ P tx n g kp lk tl rw Q r dy σ σ2 ∧ aa_SX mm 100 (.ref 63 :: as) σ (some (.int x)) σ2) : JSi mx mm as N σ :=
  JSi.go hM hQ hS hX.to (by omega) CF.rf (fun _ => hq)
end
theorem i32_nat (x : Int32) : ∃ a, a < 4294967296 ∧ x = nI a := by
  refine ⟨x.toBitVec.toNat, x.toBitVec.isLt, ?_⟩
  apply Int32.toBitVec_inj.mp
  rw [nI_bv]
  apply BitVec.eq_of_toNat_eq
  rw [BitVec.toNat_ofNat, Nat.mod_eq_of_lt x.toBitVec.isLt]
theorem i32_rng (x : Int32) (c : Nat) (hc : c < 2147483648) : (x < 0 ∨ nI c < x) ∨ ∃ k, k ≤ c ∧ x = nI k := by
  by_cases h : x < 0 ∨ nI c < x
  · exact Or.inl h
  · refine Or.inr ⟨x.toInt.toNat, ?_, ?_⟩
    · rw [Int32.lt_iff_toInt_lt, Int32.lt_iff_toInt_lt, Int32.toInt_zero, nI_toInt hc] at h; omega
    · rw [Int32.lt_iff_toInt_lt, Int32.lt_iff_toInt_lt, Int32.toInt_zero, nI_toInt hc] at h
      apply Int32.toInt_inj.mp
      rw [nI_toInt (by omega)]; omega
/-- below a number: or not -/
theorem i32_lt (x : Int32) (c : Nat) (hc : c < 2147483648) : (¬ (0 ≤ x ∧ x < nI c)) ∨ ∃ k, k < c ∧ x = nI k := by
  by_cases h : 0 ≤ x ∧ x < nI c
  · refine Or.inr ⟨x.toInt.toNat, ?_, ?_⟩
    · rw [Int32.lt_iff_toInt_lt, Int32.le_iff_toInt_le, Int32.toInt_zero, nI_toInt hc] at h; omega
    · rw [Int32.lt_iff_toInt_lt, Int32.le_iff_toInt_le, Int32.toInt_zero, nI_toInt hc] at h
      apply Int32.toInt_inj.mp
      rw [nI_toInt (by omega)]; omega
  · exact Or.inl h
