/-! THE REFERENCE: what holds of it between calls -/
def MTx (tx : Nat → Nat) (n : Nat) (i : Nat → Nat → Int32) : Prop := i 63 17 = nI n ∧ n ≤ 80 ∧ ∀ p, p < n → i 72 p = nI (tx p) ∧ tx p < 256
def MGm (P : pl_T) (g : gm_T) (i : Nat → Nat → Int32) : Prop := i 63 10 = nI (cv P (gst g)) ∧ i 63 11 = nI (gtn g) ∧ i 63 12 = nI (gen g) ∧ i 63 13 = nI g.1 ∧ ∀ k, k < g.1 → i 70 k = nI (pl_mo P (g.2.2.1 k)) ∧ i 71 k = nI (cv P (g.2.1 k))
def MKg (P : pl_T) (j : Nat) (g : gm_T) (i : Nat → Nat → Int32) : Prop := i 85 (52 * j) = nI (cv P (gst g)) ∧ i 85 (52 * j + 1) = nI (gtn g) ∧ i 85 (52 * j + 2) = nI (gen g) ∧ i 85 (52 * j + 3) = nI g.1 ∧ ∀ k, k < g.1 → i 85 (52 * j + 4 + 2 * k) = nI (pl_mo P (g.2.2.1 k)) ∧ i 85 (52 * j + 5 + 2 * k) = nI (cv P (g.2.1 k))
def MKp (P : pl_T) (kp : Nat → Option gm_T) (i : Nat → Nat → Int32) : Prop := ∀ j, j < 3 → ∃ (b : Bool) (t : Nat), i 83 j = nI b.toNat ∧ i 84 j = nI t ∧ t ≤ pl_n P ∧ (kp j).isSome = (b && decide (t = pl_n P)) ∧ ∀ g, kp j = some g → MKg P j g i
def MR (tl : Nat) (rw : Nat → Int) (σ : aa_St) : Prop := σ.1 63 1 = nI tl ∧ tl ≤ 20 ∧ ∀ i, i < tl → σ.2.1 64 i = lZ (rw i)
def RLy (r : Nat → Nat) : Prop := (r 7 = 77 ∧ r 8 = 78) ∨ (r 7 = 78 ∧ r 8 = 77)
def MI (P : pl_T) (tx : Nat → Nat) (n : Nat) (g : gm_T) (kp : Nat → Option gm_T) (lk tl : Nat) (rw : Nat → Int) (Q : Nat) (r : Nat → Nat) (dy : List aa_Shp) (σ : aa_St) : Prop := aa_W r dy σ ∧ RLy r ∧ MP P σ.1 ∧ MTx tx n σ.1 ∧ MGm P g σ.1 ∧ MKp P kp σ.1 ∧ ML3 lk σ.1 ∧ MR tl rw σ ∧ MMQ Q σ.1
/-- a call of the reference changes nothing but its own cells -/
def MF (σ σ' : aa_St) : Prop := σ'.2.2 = σ.2.2 ∧ ∀ x, x < 63 ∨ 86 ≤ x → σ'.1 x = σ.1 x ∧ σ'.2.1 x = σ.2.1 x
theorem MF.rf {σ : aa_St} : MF σ σ := ⟨rfl, fun _ _ => ⟨rfl, rfl⟩⟩
theorem MF.tr {σ σ1 σ2 : aa_St} (h : MF σ σ1) (g : MF σ1 σ2) : MF σ σ2 := ⟨g.1.trans h.1, fun x hx => ⟨(g.2 x hx).1.trans (h.2 x hx).1, (g.2 x hx).2.trans (h.2 x hx).2⟩⟩
theorem sL_ne {σ : aa_St} {c k : Nat} {x : Int64} {a : Nat} (h : a ≠ c) : (aa_sL σ c k x).2.1 a = σ.2.1 a := by
  funext j
  simp [aa_sL, aa_u2, h]
theorem MF.s {σ σ1 : aa_St} (h : MF σ σ1) {c : Nat} (hc : 63 ≤ c ∧ c < 86) (k : Nat) (x : Int32) : MF σ (aa_sI σ1 c k x) := ⟨h.1, fun a ha => ⟨by rw [sI_ne (by omega)]; exact (h.2 a ha).1, (h.2 a ha).2⟩⟩
theorem MF.l {σ σ1 : aa_St} (h : MF σ σ1) {c : Nat} (hc : 63 ≤ c ∧ c < 86) (k : Nat) (x : Int64) : MF σ (aa_sL σ1 c k x) := ⟨h.1, fun a ha => ⟨(h.2 a ha).1, by rw [sL_ne (by omega)]; exact (h.2 a ha).2⟩⟩
/-- what a question may change -/
def SQ (σ σ' : aa_St) : Prop := σ'.2.2 = σ.2.2 ∧ (∀ x, x ∉ [63, 73, 74, 75, 76, 79, 81] → σ'.1 x = σ.1 x) ∧ (∀ k, k ∉ [0, 24, 25] → σ'.1 63 k = σ.1 63 k) ∧ ∀ x, x ∉ [77, 78, 82] → σ'.2.1 x = σ.2.1 x
theorem SQ.rf {σ : aa_St} : SQ σ σ := ⟨rfl, fun _ _ => rfl, fun _ _ => rfl, fun _ _ => rfl⟩
theorem SQ.tr {σ σ1 σ2 : aa_St} (h : SQ σ σ1) (g : SQ σ1 σ2) : SQ σ σ2 := ⟨g.1.trans h.1, fun x hx => (g.2.1 x hx).trans (h.2.1 x hx), fun x hx => (g.2.2.1 x hx).trans (h.2.2.1 x hx), fun x hx => (g.2.2.2 x hx).trans (h.2.2.2 x hx)⟩
theorem SQ.f {σ σ1 : aa_St} (h : SQ σ σ1) {k : Nat} (hk : k ∈ [0, 24, 25]) (x : Int32) : SQ σ (aa_sI σ1 63 k x) := ⟨h.1, fun a ha => by
  rw [sI_ne (fun q => ha (by rw [q]; decide))]; exact h.2.1 a ha, fun j hj => by
  rw [sI_nk (show j ≠ k from fun q => hj (q ▸ hk))]; exact h.2.2.1 j hj, h.2.2.2⟩
theorem SQ.s {σ σ1 : aa_St} (h : SQ σ σ1) {c : Nat} (hc : c ∈ [73, 74, 75, 76, 79, 81]) (k : Nat) (x : Int32) : SQ σ (aa_sI σ1 c k x) := ⟨h.1, fun a ha => by
  rw [sI_ne (fun q => ha (by rw [q]; exact List.mem_cons_of_mem _ hc))]; exact h.2.1 a ha, fun j hj => by
  rw [sI_ne (show 63 ≠ c by rintro rfl; revert hc; decide)]; exact h.2.2.1 j hj, h.2.2.2⟩
theorem SQ.A {σ σ1 σ2 : aa_St} (h : SQ σ σ1) (g : FrA [74, 75] σ1 σ2) : SQ σ σ2 := h.tr ⟨by rw [g.1], fun x hx => g.2 x (fun c => hx (by simp at c ⊢; omega)), fun k _ => by rw [g.2 63 (by decide)], fun x _ => by rw [g.1]⟩
theorem SQ.Q {σ σ1 σ2 : aa_St} (h : SQ σ σ1) (g : FrQ σ1 σ2) : SQ σ σ2 := h.tr ⟨by rw [g.1], fun x hx => g.2.1 x (fun c => hx (by simp at c ⊢; omega)), fun k hk => g.2.2 k (fun c => hk (by rw [c]; decide)), fun x _ => by rw [g.1]⟩
theorem SQ.M {σ σ1 σ2 : aa_St} (h : SQ σ σ1) (g : FrM σ1 σ2) : SQ σ σ2 := h.tr ⟨g.1, fun x hx => g.2.1 x (fun c => hx (by simp at c ⊢; omega)), fun k _ => by rw [g.2.1 63 (by decide)], fun x hx => g.2.2 x (fun c => hx (by rw [c]; decide))⟩
theorem SQ.F {σ σ' : aa_St} (h : SQ σ σ') : MF σ σ' := ⟨h.1, fun x hx => ⟨h.2.1 x (by simp; omega), h.2.2.2 x (by simp; omega)⟩⟩
theorem SQ.W {r : Nat → Nat} {dy : List aa_Shp} {σ σ' : aa_St} (h : SQ σ σ') (hW : aa_W r dy σ) : aa_W r dy σ' := hW.of2 h.1
section
variable {P P' : pl_T} {tx tx' : Nat → Nat} {n n' : Nat} {g g' : gm_T} {kp kp' : Nat → Option gm_T} {lk lk' tl tl' : Nat} {rw rw' : Nat → Int} {Q Q' : Nat} {r : Nat → Nat} {dy : List aa_Shp} {σ σ' : aa_St}
theorem MI.W (h : MI P tx n g kp lk tl rw Q r dy σ) : aa_W r dy σ := h.1
theorem MI.R (h : MI P tx n g kp lk tl rw Q r dy σ) : RLy r := h.2.1
theorem MI.M (h : MI P tx n g kp lk tl rw Q r dy σ) : MP P σ.1 := h.2.2.1
theorem MI.X (h : MI P tx n g kp lk tl rw Q r dy σ) : MTx tx n σ.1 := h.2.2.2.1
theorem MI.G (h : MI P tx n g kp lk tl rw Q r dy σ) : MGm P g σ.1 := h.2.2.2.2.1
theorem MI.K (h : MI P tx n g kp lk tl rw Q r dy σ) : MKp P kp σ.1 := h.2.2.2.2.2.1
theorem MI.L (h : MI P tx n g kp lk tl rw Q r dy σ) : ML3 lk σ.1 := h.2.2.2.2.2.2.1
theorem MI.T (h : MI P tx n g kp lk tl rw Q r dy σ) : MR tl rw σ := h.2.2.2.2.2.2.2.1
theorem MI.q (h : MI P tx n g kp lk tl rw Q r dy σ) : MMQ Q σ.1 := h.2.2.2.2.2.2.2.2
theorem MI.ok (h : MI P tx n g kp lk tl rw Q r dy σ) : pl_ok P := h.2.2.1.1
theorem MTx.fr {i i' : Nat → Nat → Int32} (h : MTx tx n i) (h1 : i' 63 17 = i 63 17) (h2 : i' 72 = i 72) : MTx tx n i' := ⟨by rw [h1]; exact h.1, h.2.1, fun p hp => by rw [h2]; exact h.2.2 p hp⟩
theorem MGm.fr {i i' : Nat → Nat → Int32} (h : MGm P g i) (h1 : ∀ k, k = 10 ∨ k = 11 ∨ k = 12 ∨ k = 13 → i' 63 k = i 63 k) (h2 : i' 70 = i 70) (h3 : i' 71 = i 71) : MGm P g i' := ⟨by rw [h1 10 (by decide)]; exact h.1, by rw [h1 11 (by decide)]; exact h.2.1, by rw [h1 12 (by decide)]; exact h.2.2.1, by rw [h1 13 (by decide)]; exact h.2.2.2.1, fun k hk => by rw [h2, h3]; exact h.2.2.2.2 k hk⟩
theorem MKp.fr {i i' : Nat → Nat → Int32} (h : MKp P kp i) (h1 : i' 83 = i 83) (h2 : i' 84 = i 84) (h3 : i' 85 = i 85) : MKp P kp i' := fun j hj => by
  obtain ⟨b, t, a1, a2, a3, a4, a5⟩ := h j hj
  refine ⟨b, t, by rw [h1]; exact a1, by rw [h2]; exact a2, a3, a4, fun g hg => ?_⟩
  have := a5 g hg
  unfold MKg at this ⊢
  rw [h3]
  exact this
theorem ML3.fr {i i' : Nat → Nat → Int32} (h : ML3 lk i) (h1 : i' 80 = i 80) : ML3 lk i' := ⟨h.1, fun x hx => by rw [h1]; exact h.2 x hx⟩
theorem MMQ.fr {i i' : Nat → Nat → Int32} (h : MMQ Q i) (h1 : i' 63 24 = i 63 24) (h2 : i' 74 = i 74) : MMQ Q i' := ⟨by rw [h1]; exact h.1, h.2.1, fun p hp => by rw [h2]; exact h.2.2 p hp⟩
theorem MR.fr (h : MR tl rw σ) (h1 : σ'.1 63 1 = σ.1 63 1) (h2 : σ'.2.1 64 = σ.2.1 64) : MR tl rw σ' := ⟨by rw [h1]; exact h.1, h.2.1, fun i hi => by rw [h2]; exact h.2.2 i hi⟩
theorem MP.fq (h : MP P σ.1) (hF : SQ σ σ') : MP P σ'.1 := h.fr (hF.2.2.1 3 (by decide)) (hF.2.2.1 8 (by decide)) (fun x hx => hF.2.1 x (by simp; omega))
theorem MI.sq (h : MI P tx n g kp lk tl rw Q r dy σ) (hF : SQ σ σ') (hQ : MMQ Q' σ'.1) : MI P tx n g kp lk tl rw Q' r dy σ' := by
  have q : ∀ x, x = 70 ∨ x = 71 ∨ x = 72 ∨ x = 80 ∨ x = 83 ∨ x = 84 ∨ x = 85 → σ'.1 x = σ.1 x := fun x hx => hF.2.1 x (by simp; omega)
  refine ⟨hF.W h.W, h.R, h.M.fq hF, h.X.fr (hF.2.2.1 17 (by decide)) (q 72 (by decide)), h.G.fr (fun k hk => hF.2.2.1 k (by simp; omega)) (q 70 (by decide)) (q 71 (by decide)), h.K.fr (q 83 (by decide)) (q 84 (by decide)) (q 85 (by decide)), h.L.fr (q 80 (by decide)), h.T.fr (hF.2.2.1 1 (by decide)) (hF.2.2.2 64 (by decide)), hQ⟩
theorem MI.thr (h : MI P tx n g kp lk tl rw Q r dy σ) (x : Int32) : MI P tx n g kp lk tl rw Q r dy (aa_sI σ 63 0 x) := h.sq (SQ.rf.f (by decide) _) (h.q.fr (sI_nk (by decide)) (sI_ne (by decide)))
/-- the row alone is new -/
theorem MI.row (h : MI P tx n g kp lk tl rw Q r dy σ) (h2 : σ'.2.2 = σ.2.2) (h1 : ∀ x, x ≠ 63 → σ'.1 x = σ.1 x) (h3 : ∀ k, k ≠ 1 → σ'.1 63 k = σ.1 63 k) (hT : MR tl' rw' σ') : MI P tx n g kp lk tl' rw' Q r dy σ' := by
  refine ⟨h.W.of2 h2, h.R, h.M.fr (h3 3 (by decide)) (h3 8 (by decide)) (fun x hx => h1 x (by omega)), h.X.fr (h3 17 (by decide)) (h1 72 (by decide)), h.G.fr (fun k hk => h3 k (by omega)) (h1 70 (by decide)) (h1 71 (by decide)), h.K.fr (h1 83 (by decide)) (h1 84 (by decide)) (h1 85 (by decide)), h.L.fr (h1 80 (by decide)), hT, h.q.fr (h3 24 (by decide)) (h1 74 (by decide))⟩
/-- entering a row from its start -/
theorem MI.row0 (h : MI P tx n g kp lk tl rw Q r dy σ) : MI P tx n g kp lk 0 rw' Q r dy (aa_sI σ 63 1 (nI 0)) := h.row rfl (fun x hx => sI_ne hx) (fun k hk => sI_nk hk) ⟨sI_eq, by omega, fun i hi => by omega⟩
theorem MI.row1 (h : MI P tx n g kp lk tl rw Q r dy σ) (ht : tl < 20) (z : Int) (he : ∀ i, i < tl → rw' i = rw i) (hz : rw' tl = z) : MI P tx n g kp lk (tl + 1) rw' Q r dy (aa_sI (aa_sL σ 64 tl (lZ z)) 63 1 (nI (tl + 1))) := by
  refine h.row rfl (fun x hx => sI_ne hx) (fun k hk => sI_nk hk) ⟨sI_eq, by omega, fun i hi => ?_⟩
  show (aa_sL σ 64 tl (lZ z)).2.1 64 i = _
  rw [sL_at]
  by_cases c : i = tl
  · rw [if_pos c, c, hz]
  · rw [if_neg c, h.T.2.2 i (by omega), he i (by omega)]
theorem MI.ent (h : MI P tx n g kp lk tl rw Q r dy σ) (ht : tl < 20) (x : Int64) : aa_SX mX12_enters 1 [.ref 63, .long x] σ none (aa_sI (aa_sL σ 64 tl x) 63 1 (nI (tl + 1))) := m_enters h.W h.T.1 ht x
theorem m_inB {x : Int32} {c : Nat} (hc : c < 2147483648) (hx : x < 0 ∨ nI c < x) : aa_SX mX12_in 1 [.long x.toInt64, .long (lN 0), .long (lN c)] σ (some (.int (nI false.toNat))) σ := by
  have h1 := Int32.le_toInt x
  have h2 := Int32.toInt_lt x
  have := m_in (σ := σ) (v := x.toInt) (lo := 0) (hi := c) (by omega) (by omega) (by omega)
  rw [i2lZ]
  rw [show decide ((0 : Int) ≤ x.toInt ∧ x.toInt ≤ c) = false from decide_eq_false (by
    rcases hx with q | q
    · rw [Int32.lt_iff_toInt_lt, Int32.toInt_zero] at q; omega
    · rw [Int32.lt_iff_toInt_lt, nI_toInt hc] at q; omega)] at this
  exact this
theorem dB_f {x : Int32} {c : Nat} (hc : c < 2147483648) (hx : x < 0 ∨ nI c < x) : ¬ (0 ≤ x.toInt ∧ x.toInt ≤ c) := by
  rcases hx with q | q
  · rw [Int32.lt_iff_toInt_lt, Int32.toInt_zero] at q; omega
  · rw [Int32.lt_iff_toInt_lt, nI_toInt hc] at q; omega
end
def MJ (P : pl_T) (tx : Nat → Nat) (n : Nat) (g : gm_T) (kp : Nat → Option gm_T) (lk tl : Nat) (rw : Nat → Int) (Q : Nat) (r : Nat → Nat) (dy : List aa_Shp) (σ σ' : aa_St) : Prop := (∃ Q', Q' ≤ Q + 2000 ∧ MI P tx n g kp lk tl rw Q' r dy σ') ∧ MF σ σ'
def GG (P : pl_T) (g : gm_T) : Prop := GV P g ∧ gen g ≤ 1 ∧ g.1 ≤ 18
