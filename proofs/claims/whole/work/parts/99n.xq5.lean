/-! THE REFERENCE, PUBLIC METHODS: what was taken; who wins -/
section
variable {P P' : pl_T} {tx tx' : Nat → Nat} {n n' : Nat} {g g' : gm_T} {kp kp' : Nat → Option gm_T} {lk lk' tl tl' : Nat} {rw rw' : Nat → Int} {Q Q' : Nat} {r : Nat → Nat} {dy : List aa_Shp} {σ σ' : aa_St}
theorem MI.fA {A : List Nat} (h : MI P tx n g kp lk tl rw Q r dy σ) (hA : ∀ x, x ∈ A → x ∈ [73, 76, 79, 81]) (hF : FrA A σ σ') : MI P tx n g kp lk tl rw Q r dy σ' ∧ SQ σ σ' := by
  have n63 : 63 ∉ A := fun c => absurd (hA 63 c) (by decide)
  have n74 : 74 ∉ A := fun c => absurd (hA 74 c) (by decide)
  have s : SQ σ σ' := ⟨by rw [hF.1], fun x hx => hF.2 x (fun c => hx (by have := hA x c; simp at this ⊢; omega)), fun k _ => by rw [hF.2 63 n63], fun x _ => by rw [hF.1]⟩
  exact ⟨h.sq s (h.q.fr (by rw [hF.2 63 n63]) (hF.2 74 n74)), s⟩
/-- telling one, two numbers -/
def t1S (σ : aa_St) (a : Int) : aa_St := aa_sI (aa_sL (aa_sI σ 63 1 (nI 0)) 64 0 (lZ a)) 63 1 (nI 1)
def t2S (σ : aa_St) (a b : Int) : aa_St := aa_sI (aa_sL (t1S σ a) 64 1 (lZ b)) 63 1 (nI 2)
def t3S (σ : aa_St) (a b c : Int) : aa_St := aa_sI (aa_sL (t2S σ a b) 64 2 (lZ c)) 63 1 (nI 3)
theorem MF.t1 (h : MF σ σ') (a : Int) : MF σ (t1S σ' a) := ((h.s (by decide) _ _).l (by decide) _ _).s (by decide) _ _
theorem MF.t2 (h : MF σ σ') (a b : Int) : MF σ (t2S σ' a b) := ((h.t1 a).l (by decide) _ _).s (by decide) _ _
theorem MF.t3 (h : MF σ σ') (a b c : Int) : MF σ (t3S σ' a b c) := ((h.t2 a b).l (by decide) _ _).s (by decide) _ _
theorem MI.t1 (h : MI P tx n g kp lk tl rw Q r dy σ) (a : Int) : MI P tx n g kp lk 1 (rw1 a) Q r dy (t1S σ a) := (h.row0 (rw' := rw1 a)).row1 (by decide) a (fun i hi => rfl) rfl
theorem MI.t2 (h : MI P tx n g kp lk tl rw Q r dy σ) (a b : Int) : MI P tx n g kp lk 2 (rw2 a b) Q r dy (t2S σ a b) := (h.t1 a).row1 (by decide) b (fun i hi => by rw [show i = 0 by omega]; rfl) rfl
theorem MI.t3 (h : MI P tx n g kp lk tl rw Q r dy σ) (a b c : Int) : MI P tx n g kp lk 3 (rw3 a b c) Q r dy (t3S σ a b c) := (h.t2 a b).row1 (by decide) c (fun i hi => by
  rcases (show i = 0 ∨ i = 1 by omega) with rfl | rfl <;> rfl) rfl
theorem MI.e0 (h : MI P tx n g kp lk tl rw Q r dy σ) (a : Int) : aa_SX mX12_enters 1 [.ref 63, .long (lZ a)] (aa_sI σ 63 1 (nI 0)) none (t1S σ a) := (h.row0 (rw' := rw)).ent (by decide) _
theorem MI.e1 (h : MI P tx n g kp lk tl rw Q r dy σ) (a b : Int) : aa_SX mX12_enters 1 [.ref 63, .long (lZ b)] (t1S σ a) none (t2S σ a b) := (h.t1 a).ent (by decide) _
theorem MI.e2 (h : MI P tx n g kp lk tl rw Q r dy σ) (a b c : Int) : aa_SX mX12_enters 1 [.ref 63, .long (lZ c)] (t2S σ a b) none (t3S σ a b c) := (h.t2 a b).ent (by decide) _
theorem t1_i {x : Nat} {a : Int} (hx : x ≠ 63) : (t1S σ a).1 x = σ.1 x := by unfold t1S; rw [sI_ne hx]; show (aa_sI σ 63 1 (nI 0)).1 x = _; rw [sI_ne hx]
theorem t1_k {k : Nat} {a : Int} (hk : k ≠ 1) : (t1S σ a).1 63 k = σ.1 63 k := by unfold t1S; rw [sI_nk hk]; show (aa_sI σ 63 1 (nI 0)).1 63 k = _; rw [sI_nk hk]
theorem t2_i {x : Nat} {a b : Int} (hx : x ≠ 63) : (t2S σ a b).1 x = σ.1 x := by unfold t2S; rw [sI_ne hx]; exact t1_i hx
theorem t2_k {k : Nat} {a b : Int} (hk : k ≠ 1) : (t2S σ a b).1 63 k = σ.1 63 k := by unfold t2S; rw [sI_nk hk]; exact t1_k hk
theorem gg_stp (ok : pl_ok P) (hG : GG P g) {k : Nat} (hk : k < g.1) : pl_sp P (pl_mo P (g.2.2.1 k)) = some (g.2.2.1 k) ∧ pl_mo P (g.2.2.1 k) < 28 ∧ dv P (cv P (g.2.1 k)) = g.2.1 k ∧ pl_nx P (g.2.1 k) (g.2.2.1 k) = g.2.1 (k + 1) := by
  obtain ⟨q1, q2⟩ := hG.1.2.2 k hk
  have jl := pl_lg_lt q1
  have := sp_mo ok jl
  exact ⟨this.1, this.2.1, dv_cv ok (hG.1.2.1 k), q2.symm⟩
end
