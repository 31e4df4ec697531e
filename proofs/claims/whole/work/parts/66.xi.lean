/-! WHAT HOLDS OF THE CLASS'S OBJECT BETWEEN CALLS -/
abbrev gm_T : Type := Nat × (Nat → Nat) × (Nat → Nat) × Nat
def GV (P : pl_T) (g : gm_T) : Prop := g.2.1 0 = 2 ^ pl_n P - 1 ∧ (∀ k, g.2.1 k < 2 ^ (pl_n P + pl_b P)) ∧ ∀ k, k < g.1 → pl_lg P (k % 2) (g.2.1 k) (g.2.2.1 k) = true ∧ g.2.1 (k + 1) = pl_nx P (g.2.1 k) (g.2.2.1 k)
def XGg (a : Nat) (g : gm_T) (i : Nat → Nat → Int32) : Prop := XG a g.1 g.2.1 g.2.2.2 i
def RQ (r : Nat → Nat) (dy : List aa_Shp) : Prop := (∀ q, r q < 87 + dy.length) ∧ (∀ p q, p < 7 → q < 7 → p ≠ q → r p ≠ r q) ∧ (∀ q, q < 7 → r q = 26 ∨ r q = 28 ∨ r q = 31 ∨ r q = 37 ∨ r q = 40 ∨ r q = 48 ∨ r q = 50 ∨ 87 ≤ r q)
/-- what is told: the text, the game, games kept, who likes whom, the row -/
def NB (tl : Nat) (rw : Nat → Int) (σ : aa_St) : Prop := σ.1 0 13 = nI tl ∧ tl ≤ 20 ∧ ∀ i, i < tl → σ.2.1 56 i = lZ (rw i)
def XTc : List Nat := [0, 1, 2, 20, 21, 23, 46, 57, 58, 59, 60, 61, 62]
def XK (P : pl_T) (kp : Nat → Option gm_T) (i : Nat → Nat → Int32) : Prop := ∀ j, j < 3 → i 23 j = nI (kp j).isSome.toNat ∧ ∀ g, kp j = some g → XGg (57 + 2 * j) g i ∧ GV P g
def XT (P : pl_T) (tx : Nat → Nat) (n : Nat) (g : gm_T) (kp : Nat → Option gm_T) (lk tl : Nat) (rw : Nat → Int) (σ : aa_St) : Prop := TC tx n σ.1 ∧ (XGg 20 g σ.1 ∧ GV P g) ∧ XK P kp σ.1 ∧ (σ.1 46 2 = nI lk ∧ lk < 8) ∧ NB tl rw σ
def hsP (P : pl_T) : List Nat := (pl_hl P (pl_n P)).1
def XM (P : pl_T) (v W S R : Nat) (r : Nat → Nat) (σ : aa_St) : Prop := S0 P v r σ ∧ S1 P v r W σ ∧ S2 P v r σ ∧ S3 r σ ∧ S4 P v r S σ ∧ S5 P v r σ ∧ S6 P v R r σ ∧ σ.1 24 3 = nI W ∧ σ.2.1 38 2 = lN S ∧ 1 ≤ S
def BD (P : pl_T) (v N : Nat) (r : Nat → Nat) (σ : aa_St) : Prop := σ.2.2.2.2 + ph v r σ.1 + 327680 * (14 - pl_n P) ≤ 6000000 + 100 * N ∧ σ.2.2.2.1 + pn v r σ.1 + 5 * (14 - pl_n P) ≤ 2000 + 100 * N
def VB (v : Nat) (i : Nat → Nat → Int32) : Prop := (∀ a, a ∈ [25, 27, 30, 39, 47] → i a 1 = -1 ∨ ∃ w, w ≤ v ∧ i a 1 = nI w) ∧ (i 49 4 = -1 ∨ ∃ w, w ≤ v ∧ i 49 4 = nI w)
theorem VB.fr {v : Nat} {i i' : Nat → Nat → Int32} (h : VB v i) (h1 : ∀ a, a ∈ [25, 27, 30, 39, 47] → i' a 1 = i a 1) (h2 : i' 49 4 = i 49 4) : VB v i' := ⟨fun a ha => by rw [h1 a ha]; exact h.1 a ha, by rw [h2]; exact h.2⟩
def XIv (P : pl_T) (tx : Nat → Nat) (n : Nat) (g : gm_T) (kp : Nat → Option gm_T) (lk tl : Nat) (rw : Nat → Int) (N v W S R : Nat) (r : Nat → Nat) (dy : List aa_Shp) (σ : aa_St) : Prop :=
  aa_W r dy σ ∧ RQ r dy ∧ XP P (hsP P) σ.1 ∧ σ.1 7 15 = nI v ∧ v ≤ pl_n P ∧ XT P tx n g kp lk tl rw σ ∧ XM P v W S R r σ ∧ BD P v N r σ ∧ W ≤ N ∧ S ≤ N + 1 ∧ R ≤ N ∧ VB v σ.1
def XI (P : pl_T) (tx : Nat → Nat) (n : Nat) (g : gm_T) (kp : Nat → Option gm_T) (lk tl : Nat) (rw : Nat → Int) (N : Nat) (r : Nat → Nat) (dy : List aa_Shp) (σ : aa_St) : Prop := ∃ v W S R, XIv P tx n g kp lk tl rw N v W S R r dy σ
/-- the cells of the reference are as they were -/
def CF (r : Nat → Nat) (σ : aa_St) (r' : Nat → Nat) (σ' : aa_St) : Prop := (∀ x, 63 ≤ x → x < 87 → σ'.1 x = σ.1 x ∧ σ'.2.1 x = σ.2.1 x) ∧ r' 7 = r 7 ∧ r' 8 = r 8
theorem CF.rf {r : Nat → Nat} {σ : aa_St} : CF r σ r σ := ⟨fun _ _ _ => ⟨rfl, rfl⟩, rfl, rfl⟩
theorem CF.tr {r r1 r2 : Nat → Nat} {σ σ1 σ2 : aa_St} (h : CF r σ r1 σ1) (g : CF r1 σ1 r2 σ2) : CF r σ r2 σ2 := ⟨fun x h1 h2 => ⟨(g.1 x h1 h2).1.trans (h.1 x h1 h2).1, (g.1 x h1 h2).2.trans (h.1 x h1 h2).2⟩, g.2.1.trans h.2.1, g.2.2.trans h.2.2⟩
section
variable {A J : List Nat} {v W S R : Nat} {r r' : Nat → Nat} {dy dy' : List aa_Shp} {σ σ' : aa_St} {P : pl_T} {tx : Nat → Nat} {n : Nat} {g : gm_T} {kp : Nat → Option gm_T} {lk tl : Nat} {rw : Nat → Int} {N : Nat}
theorem RQ.lo (h : RQ r dy) {q : Nat} (hq : q < 7) : r q = 26 ∨ r q = 28 ∨ r q = 31 ∨ r q = 37 ∨ r q = 40 ∨ r q = 48 ∨ r q = 50 ∨ 87 ≤ r q := h.2.2 q hq
theorem RQ.gx (h : RQ r dy) (hG : GX A J v r dy σ r' dy' σ') : RQ r' dy' := by
  refine ⟨hG.R h.1, fun p q hp hq hpq => hG.D h.1 (h.2.1 p q hp hq hpq), fun q hq => ?_⟩
  rcases hG.2.2.2.2.1 q with e | e
  · rw [e]; exact h.2.2 q hq
  · have : 87 ≤ r' q := by omega
    omega
theorem XT.fr (h : XT P tx n g kp lk tl rw σ) (hi : ∀ x, x ∈ XTc → σ'.1 x = σ.1 x) (hl : σ'.2.1 56 = σ.2.1 56) : XT P tx n g kp lk tl rw σ' := by
  obtain ⟨⟨a1, a2, a3⟩, ⟨⟨b1, b2, b3, b4, b5, b6⟩, b7⟩, c, ⟨d1, d2⟩, ⟨e1, e2, e3⟩⟩ := h
  have q : ∀ x, x ∈ [0, 1, 2, 20, 21, 23, 46, 57, 58, 59, 60, 61, 62] → σ'.1 x = σ.1 x := hi
  refine ⟨⟨by rw [q 1 (by decide)]; exact a1, a2, fun p hp => by rw [q 2 (by decide)]; exact a3 p hp⟩, ⟨⟨by rw [q 20 (by decide)]; exact b1, b2, by rw [q 20 (by decide)]; exact b3, by rw [q 20 (by decide)]; exact b4, b5, fun k hk => by rw [q 21 (by decide)]; exact b6 k hk⟩, b7⟩, fun j hj => ?_, ⟨by rw [q 46 (by decide)]; exact d1, d2⟩, ⟨by rw [q 0 (by decide)]; exact e1, e2, fun i hi => by rw [hl]; exact e3 i hi⟩⟩
  obtain ⟨c1, c2⟩ := c j hj
  refine ⟨by rw [q 23 (by decide)]; exact c1, fun g' hg' => ?_⟩
  obtain ⟨⟨f1, f2, f3, f4, f5, f6⟩, f7⟩ := c2 g' hg'
  have x1 : 57 + 2 * j ∈ [0, 1, 2, 20, 21, 23, 46, 57, 58, 59, 60, 61, 62] := by
    rcases (show j = 0 ∨ j = 1 ∨ j = 2 by omega) with rfl | rfl | rfl <;> decide
  have x2 : 57 + 2 * j + 1 ∈ [0, 1, 2, 20, 21, 23, 46, 57, 58, 59, 60, 61, 62] := by
    rcases (show j = 0 ∨ j = 1 ∨ j = 2 by omega) with rfl | rfl | rfl <;> decide
  exact ⟨⟨by rw [q _ x1]; exact f1, f2, by rw [q _ x1]; exact f3, by rw [q _ x1]; exact f4, f5, fun k hk => by rw [q _ x2]; exact f6 k hk⟩, f7⟩
/-- a memo that a call does not touch -/
theorem GX.memo {a j : Nat} {C : Nat} {K : (Nat → Int64) → Prop} (hG : GX A J v r dy σ r' dy' σ') (hW : aa_W r dy σ) (hQ : RQ r dy) (ha : a < 87) (haA : a ∉ A) (hj : j ∉ J) (hj7 : j < 7) (hJ : ∀ i, i ∈ J → i < 7) (h : σ.1 a 1 = nI v → σ.1 a 1 = nI v ∧ σ.2.2.1[r j]? = some (.inl (1, C)) ∧ K (σ.2.1 (r j))) : σ'.1 a 1 = nI v → σ'.1 a 1 = nI v ∧ σ'.2.2.1[r' j]? = some (.inl (1, C)) ∧ K (σ'.2.1 (r' j)) := by
  intro q
  rw [hG.I ha haA] at q ⊢
  obtain ⟨h1, h2, h3⟩ := h q
  have e : r' j = r j := hG.2.2.2.1 j hj
  refine ⟨h1, by rw [e]; exact hG.sh hW h2, ?_⟩
  rw [e, hG.2.2.2.2.2.2.2.1 (r j) (hQ.1 j) (fun i hi => hQ.2.1 j i hj7 (hJ i hi) (fun c => hj (c ▸ hi)))]
  exact h3
theorem GX.k3 (hG : GX A J v r dy σ r' dy' σ') (hW : aa_W r dy σ) (hQ : RQ r dy) (hj : 3 ∉ J) (hA : r 3 ∉ A) (h : S3 r σ) : S3 r' σ' := by
  have e : r' 3 = r 3 := hG.2.2.2.1 3 hj
  intro q
  rw [e] at q
  obtain ⟨h1, h2, h3⟩ := h q
  refine ⟨by rw [e]; exact h1, by rw [e]; exact hG.sh hW h2, ?_⟩
  rw [e, hG.2.2.2.2.2.2.1 (r 3) (hQ.1 3) hA]
  exact h3
theorem GX.k6 (hG : GX A J v r dy σ r' dy' σ') (hW : aa_W r dy σ) (hQ : RQ r dy) (hj : 6 ∉ J) (hA : r 6 ∉ A) (hB : 49 ∉ A ∧ 51 ∉ A ∧ 52 ∉ A ∧ 53 ∉ A ∧ 54 ∉ A) (h : S6 P v R r σ) : S6 P v R r' σ' := by
  have e : r' 6 = r 6 := hG.2.2.2.1 6 hj
  have q49 := hG.I (x := 49) (by decide) hB.1
  obtain ⟨h1, h2⟩ := h
  refine ⟨by rw [q49]; exact h1, ?_⟩
  rcases h2 with ⟨a, b⟩ | ⟨a, b, c, d⟩
  · exact Or.inl ⟨by rw [e]; exact a, b⟩
  · have q6 : σ'.1 (r 6) = σ.1 (r 6) := hG.2.2.2.2.2.2.1 (r 6) (hQ.1 6) hA
    refine Or.inr ⟨by rw [e]; exact a, by rw [e]; exact hG.sh hW b, by rw [e, q6]; exact c, fun T e' x1 x2 x3 x4 x5 x6 => ?_⟩
    rw [q49] at x1 x2 x3
    obtain ⟨y1, y2⟩ := d T e' x1 x2 x3 x4 x5 x6
    exact ⟨y1.fr (by rw [hG.I (by decide) hB.2.1]) (hG.I (by decide) hB.2.2.1) (hG.I (by decide) hB.2.2.2.1) (hG.I (by decide) hB.2.2.2.2), by rw [e, q6]; exact y2⟩
theorem BD.gx (h : BD P v N r σ) (hG : GX A J v r dy σ r' dy' σ') : BD P v N r' σ' := by
  obtain ⟨h1, h2⟩ := h
  obtain ⟨g1, g2⟩ := hG.2.2.2.2.2.2.2.2
  exact ⟨by omega, by omega⟩
theorem CF.gx (hG : GX A J v r dy σ r' dy' σ') (hQ : RQ r dy) (hA : ∀ x, x ∈ A → x < 63 ∨ 87 ≤ x) (hJ : ∀ j, j ∈ J → j < 7) : CF r σ r' σ' := by
  refine ⟨fun x h1 h2 => ⟨hG.2.2.2.2.2.2.1 x (by omega) (fun c => by have := hA x c; omega), hG.2.2.2.2.2.2.2.1 x (by omega) (fun j hj c => ?_)⟩, hG.2.2.2.1 7 (fun c => by have := hJ 7 c; omega), hG.2.2.2.1 8 (fun c => by have := hJ 8 c; omega)⟩
  have := hQ.lo (hJ j hj)
  omega
/-- a call of a solver: what it may change, and that it leaves its own memo right -/
theorem XIv.gx {W' S' R' N' : Nat} (h : XIv P tx n g kp lk tl rw N v W S R r dy σ) (hG : GX A J v r dy σ r' dy' σ') (hA : ∀ x, x ∈ A → x ∉ XTc ∧ 19 < x ∧ (x < 63 ∨ 87 ≤ x)) (hJ : ∀ j, j ∈ J → j < 7) (hM : XM P v W' S' R' r' σ') (hN : N ≤ N') (h1 : W' ≤ N') (h2 : S' ≤ N' + 1) (h3 : R' ≤ N') (hV : VB v σ'.1) : XIv P tx n g kp lk tl rw N' v W' S' R' r' dy' σ' ∧ CF r σ r' σ' := by
  obtain ⟨a1, a2, a3, a4, a5, a6, a7, a8, a9⟩ := h
  have l56 : σ'.2.1 56 = σ.2.1 56 := hG.2.2.2.2.2.2.2.1 56 (by omega) (fun j hj c => by have := a2.lo (hJ j hj); omega)
  have i7 : σ'.1 7 = σ.1 7 := hG.I (by decide) (fun c => by have := (hA 7 c).2.1; omega)
  have b8 := a8.gx hG
  refine ⟨⟨hG.W, a2.gx hG, hG.XP (fun x hx => (hA x hx).2.1) a3, by rw [i7]; exact a4, a5, a6.fr (fun x hx => ?_) l56, hM, ⟨by have := b8.1; omega, by have := b8.2; omega⟩, h1, h2, h3, hV⟩, CF.gx hG a2 (fun x hx => (hA x hx).2.2) hJ⟩
  refine hG.I ?_ (fun c => (hA x c).1 hx)
  simp only [XTc, List.mem_cons, List.not_mem_nil, or_false] at hx
  omega
end
