/-! thing AND row, ON BOTH -/
section
variable {P : pl_T} {tx : Nat → Nat} {n : Nat} {g : gm_T} {kp : Nat → Option gm_T} {lk tl : Nat} {rw : Nat → Int} {Q : Nat} {r : Nat → Nat} {dy dy' : List aa_Shp} {σ σ' : aa_St} {N N' v W S R : Nat}
theorem XIv.cg (h : XIv P tx n g kp lk tl rw N v W S R r dy σ) (hW : aa_W r dy' σ') (b2 : RQ r dy') (lo : ∀ x, x < 63 → σ'.1 x = σ.1 x) (l38 : σ'.2.1 38 = σ.2.1 38) (l56 : σ'.2.1 56 = σ.2.1 56)
    (rr : ∀ q, q < 7 → σ'.1 (r q) = σ.1 (r q) ∧ σ'.2.1 (r q) = σ.2.1 (r q) ∧ σ'.2.2.1[r q]? = σ.2.2.1[r q]?) (hB : BD P v N' r σ') (hN : N ≤ N') : XIv P tx n g kp lk tl rw N' v W S R r dy' σ' := by
  obtain ⟨a1, a2, a3, a4, a5, a6, a7, a8, w1, w2, w3, w4⟩ := h
  refine ⟨hW, b2, a3.fr ⟨by rw [lo 7 (by decide)], by rw [lo 7 (by decide)], by rw [lo 7 (by decide)]⟩ (fun a h1 h2 => lo a (by omega)), by rw [lo 7 (by decide)]; exact a4, a5, a6.fr (fun x hx => lo x (by simp [XTc] at hx; omega)) l56, ?_, hB, by omega, by omega, by omega, w4.fr (fun a ha => by rw [lo a (by simp at ha; omega)]) (by rw [lo 49 (by decide)])⟩
  obtain ⟨m0, m1, m2, m3, m4, m5, ⟨m6, m6'⟩, m7, m8, m9⟩ := a7
  refine ⟨?_, ?_, ?_, ?_, ?_, ?_, ⟨by rw [lo 49 (by decide)]; exact m6, ?_⟩, by rw [lo 24 (by decide)]; exact m7, by rw [l38]; exact m8, m9⟩
  · unfold S0 R0; rw [lo 25 (by decide), (rr 0 (by decide)).2.1, (rr 0 (by decide)).2.2]; exact m0
  · unfold S1 R1; rw [lo 27 (by decide), (rr 1 (by decide)).2.1, (rr 1 (by decide)).2.2]; exact m1
  · unfold S2 R2; rw [lo 30 (by decide), (rr 2 (by decide)).2.1, (rr 2 (by decide)).2.2]; exact m2
  · unfold S3 R3; rw [(rr 3 (by decide)).1, (rr 3 (by decide)).2.2]; exact m3
  · unfold S4 R4; rw [lo 39 (by decide), (rr 4 (by decide)).2.1, (rr 4 (by decide)).2.2]; exact m4
  · unfold S5 R5; rw [lo 47 (by decide), (rr 5 (by decide)).2.1, (rr 5 (by decide)).2.2]; exact m5
  · rw [(rr 6 (by decide)).1, (rr 6 (by decide)).2.2, lo 49 (by decide)]
    rcases m6' with x | ⟨x1, x2, x3, x4⟩
    · exact Or.inl x
    · refine Or.inr ⟨x1, x2, x3, fun T e y1 y2 y3 y4 y5 y6 => ?_⟩
      obtain ⟨z1, z2⟩ := x4 T e y1 y2 y3 y4 y5 y6
      exact ⟨z1.fr (by rw [lo 51 (by decide)]) (lo 52 (by decide)) (lo 53 (by decide)) (lo 54 (by decide)), z2⟩
theorem MI.cg (h : MI P tx n g kp lk tl rw Q r dy σ) (hW : aa_W r dy' σ') (q : ∀ x, 63 ≤ x → x < 86 → σ'.1 x = σ.1 x ∧ σ'.2.1 x = σ.2.1 x) : MI P tx n g kp lk tl rw Q r dy' σ' := by
  have q63 := (q 63 (by decide) (by decide)).1
  exact ⟨hW, h.R, h.M.fr (by rw [q63]) (by rw [q63]) (fun x hx => (q x (by omega) (by omega)).1), h.X.fr (by rw [q63]) (q 72 (by decide) (by decide)).1, h.G.fr (fun k _ => by rw [q63]) (q 70 (by decide) (by decide)).1 (q 71 (by decide) (by decide)).1, h.K.fr (q 83 (by decide) (by decide)).1 (q 84 (by decide) (by decide)).1 (q 85 (by decide) (by decide)).1, h.L.fr (q 80 (by decide) (by decide)).1, h.T.fr (by rw [q63]) (q 64 (by decide) (by decide)).2, h.q.fr (by rw [q63]) (q 74 (by decide) (by decide)).1⟩
theorem cc_cg {i i' : Nat → Nat → Int32} (lo : ∀ x, x < 63 → i' x = i x) (v : Nat) : cc v i' = cc v i := by rw [cc, cc, lo 25 (by decide), lo 27 (by decide), lo 30 (by decide), lo 39 (by decide), lo 47 (by decide)]
/-- the row of one long -/
theorem XIv.o86 (h : XIv P tx n g kp lk tl rw N v W S R r dy σ) (x : Int64) : XIv P tx n g kp lk tl rw N v W S R r dy (aa_sL σ 86 0 x) := by
  have ne : ∀ q, q < 7 → r q ≠ 86 := fun q hq => by have := h.2.1.lo hq; omega
  exact h.cg (h.1.of2 rfl) h.2.1 (fun _ _ => rfl) (sL_ne (by decide)) (sL_ne (by decide)) (fun q hq => ⟨rfl, sL_ne (ne q hq), rfl⟩) h.2.2.2.2.2.2.2.1 (Nat.le_refl _)
theorem MI.o86 (h : MI P tx n g kp lk tl rw Q r dy σ) (x : Int64) : MI P tx n g kp lk tl rw Q r dy (aa_sL σ 86 0 x) := h.cg (h.W.of2 rfl) (fun a h1 h2 => ⟨rfl, sL_ne (by omega)⟩)
/-- an exception's cell -/
theorem nw_len (h : aa_W r dy σ) : σ.2.2.1.length = 87 + dy.length := by rw [h, List.length_append]; rfl
theorem nw_i (h : aa_W r dy σ) {a : Nat} (ha : a < 87 + dy.length) : (aa_nw σ uS 6).1 a = σ.1 a ∧ (aa_nw σ uS 6).2.1 a = σ.2.1 a ∧ (aa_nw σ uS 6).2.2.1[a]? = σ.2.2.1[a]? := by
  have hl := nw_len h
  have hne : a ≠ σ.2.2.1.length := by omega
  refine ⟨?_, ?_, ?_⟩
  · funext j; simp [aa_nw, hne]
  · funext j; simp [aa_nw, hne]
  · simp only [aa_nw]; rw [List.getElem?_append_left (by omega)]
theorem nw_W (h : aa_W r dy σ) : aa_W r (dy ++ [uS]) (aa_nw σ uS 6) := by
  show σ.2.2.1 ++ [uS] = aa_SH r ++ (dy ++ [uS])
  rw [h, List.append_assoc]
theorem XIv.nw (h : XIv P tx n g kp lk tl rw N v W S R r dy σ) : XIv P tx n g kp lk tl rw (N + 1) v W S R r (dy ++ [uS]) (aa_nw σ uS 6) := by
  have lo : ∀ x, x < 63 → (aa_nw σ uS 6).1 x = σ.1 x := fun x hx => (nw_i h.1 (by omega)).1
  obtain ⟨b1, b2, b3⟩ := h.2.1
  refine h.cg (nw_W h.1) ⟨fun q => ?_, b2, b3⟩ lo (nw_i h.1 (by omega)).2.1 (nw_i h.1 (by omega)).2.1 (fun q _ => nw_i h.1 (b1 q)) ?_ (Nat.le_succ _)
  · have := b1 q
    rw [List.length_append, List.length_singleton]; omega
  · obtain ⟨c1, c2⟩ := h.2.2.2.2.2.2.2.1
    unfold ph at c1
    unfold pn at c2
    unfold BD ph pn
    rw [cc_cg lo]
    refine ⟨?_, ?_⟩
    · show σ.2.2.2.2 + 6 + _ + _ ≤ _
      omega
    · show σ.2.2.2.1 + 1 + _ + _ ≤ _
      omega
theorem MI.nw (h : MI P tx n g kp lk tl rw Q r dy σ) : MI P tx n g kp lk tl rw Q r (dy ++ [uS]) (aa_nw σ uS 6) := h.cg (nw_W h.W) (fun a h1 h2 => ⟨(nw_i h.W (by omega)).1, (nw_i h.W (by omega)).2.1⟩)
end
section
variable {N : Nat} {σ : aa_St}
/-- both give the same: a thing's fact, or none -/
theorem j_thing (h : JI N σ) (x y : Int32) : ∃ (k : Nat) (w : Int32) (σ1 σ2 : aa_St), k ≤ 1 ∧ ee_SW mL_thing [(0, 10, 13, 13)] 101 [.ref 0, .int x, .int y, .ref 86] σ (some (.int (nI k))) σ1 ∧ HW σ1 ∧ aa_SX mX12_thing 100 [.ref 63, .int x, .int y] σ1 (some (.int w)) σ2 ∧ HW σ2 ∧ aa_SX mX12_thrown 100 [.ref 63] σ2 (some (.int (nI k))) σ2 ∧ (k = 0 → σ2.2.1 86 0 = w.toInt64) ∧ JI (N + 1) σ2 := by
  obtain ⟨P, tx, n, g, kp, lk, tl, rw, Q, r, dy, ⟨v, W, S, R, hX⟩, hM, hQ⟩ := h
  have hn := hX.X.n14
  by_cases c : ¬ (0 ≤ x ∧ x < nI (pl_n P)) ∨ (y < 0 ∨ nI 5 < y)
  · have h1 := s_thingT hX.1 (t_thing hX c)
    obtain ⟨σ2, ⟨hJ, he⟩, h2⟩ := q_thingB hM.nw c
    obtain ⟨⟨Q', q1, h3⟩, h4⟩ := id hJ
    exact ⟨1, _, _, σ2, Nat.le_refl _, h1, ⟨_, _, nw_W hX.1⟩, h2, ⟨_, _, h3.W⟩, q_thrown h3.W he, (fun q => by cases q), JI.of hX.nw.to hJ hQ (Nat.le_refl _)⟩
  · have c1 : 0 ≤ x ∧ x < nI (pl_n P) := Decidable.byContradiction fun q => c (Or.inl q)
    have c2 : ¬ (y < 0 ∨ nI 5 < y) := fun q => c (Or.inr q)
    obtain ⟨i, hi, rfl⟩ := (i32_lt x (pl_n P) (by omega)).resolve_left (fun q => q c1)
    obtain ⟨j, hj, rfl⟩ := (i32_rng y 5 (by decide)).resolve_left c2
    have hS := p_thing hX hi hj
    have h1 := s_thing hX.1 hX.1 hS
    obtain ⟨σ2, ⟨hJ, he⟩, h2⟩ := q_thing (hM.o86 _) hi hj
    obtain ⟨⟨Q', q1, h3⟩, h4⟩ := id hJ
    refine ⟨0, _, _, σ2, Nat.zero_le _, h1, ⟨_, _, (hX.o86 _).1⟩, h2, ⟨_, _, h3.W⟩, q_thrown h3.W he, fun _ => ?_, JI.of (hX.o86 _).to hJ hQ (Nat.le_succ _)⟩
    rw [(h4.2 86 (Or.inr (Nat.le_refl _))).2]
    simp [aa_sL, aa_u2]
theorem j_row (h : JI N σ) (x : Int32) : ∃ (k : Nat) (w : Int64) (σ1 σ2 : aa_St), k ≤ 1 ∧ ee_SW mL_row [(0, 8, 11, 13)] 101 [.ref 0, .int x, .ref 86] σ (some (.int (nI k))) σ1 ∧ HW σ1 ∧ aa_SX mX12_row 100 [.ref 63, .int x] σ1 (some (.long w)) σ2 ∧ HW σ2 ∧ aa_SX mX12_thrown 100 [.ref 63] σ2 (some (.int (nI k))) σ2 ∧ (k = 0 → σ2.2.1 86 0 = w) ∧ JI (N + 1) σ2 := by
  obtain ⟨P, tx, n, g, kp, lk, tl, rw, Q, r, dy, ⟨v, W, S, R, hX⟩, hM, hQ⟩ := h
  obtain ⟨t1, t2, t3⟩ := hX.T.2.2.2.2
  by_cases c : 0 ≤ x ∧ x < nI tl
  · obtain ⟨i, hi, rfl⟩ := (i32_lt x tl (by omega)).resolve_left (fun q => q c)
    have hS := p_row hX hi
    have h1 := s_row hX.1 hX.1 hS
    obtain ⟨σ2, ⟨hJ, he⟩, h2⟩ := q_row (hM.o86 _) hi
    obtain ⟨⟨Q', q1, h3⟩, h4⟩ := id hJ
    refine ⟨0, _, _, σ2, Nat.zero_le _, h1, ⟨_, _, (hX.o86 _).1⟩, h2, ⟨_, _, h3.W⟩, q_thrown h3.W he, fun _ => ?_, JI.of (hX.o86 _).to hJ hQ (Nat.le_succ _)⟩
    rw [(h4.2 86 (Or.inr (Nat.le_refl _))).2]
    simp [aa_sL, aa_u2]
  · have h1 := s_rowT hX.1 (t_row hX c)
    obtain ⟨σ2, ⟨hJ, he⟩, h2⟩ := q_rowB hM.nw c
    obtain ⟨⟨Q', q1, h3⟩, h4⟩ := id hJ
    exact ⟨1, _, _, σ2, Nat.le_refl _, h1, ⟨_, _, nw_W hX.1⟩, h2, ⟨_, _, h3.W⟩, q_thrown h3.W he, (fun q => by cases q), JI.of hX.nw.to hJ hQ (Nat.le_refl _)⟩
end
