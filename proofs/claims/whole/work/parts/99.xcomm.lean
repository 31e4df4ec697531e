/-! THE REFERENCE: common divisor, wholes -/
def aa_le : Nat → Nat
  | 0 => 1
  | 1 => 1
  | 2 => 2
  | 3 => 6
  | 4 => 12
  | 5 => 60
  | _ => 60
def wm : Nat → Nat
  | 0 => 1
  | k + 1 => wm k * aa_le (k + 1)
section
variable {r : Nat → Nat} {dy : List aa_Shp} {σ : aa_St}
theorem m_common {a b : Nat} (ha : a < 9223372036854775808) (hb : b < 9223372036854775808) : aa_SX mX12_common 2 [.long (lN a), .long (lN b)] σ (some (.long (lN (Nat.gcd a b)))) σ := by
  have loop : ∀ f x y z, x < 9223372036854775808 → y < 9223372036854775808 → y < f → Nat.gcd x y = Nat.gcd a b → aa_V mX12_common 2 6 [some (.long (lN a)), none, some (.long (lN b)), none, some (.long (lN x)), none, some (.long (lN y)), none, z, none] [] σ (fun ra σ' => ra = some (.long (lN (Nat.gcd a b))) ∧ σ' = σ) := by
    intro f
    induction f with
    | zero => intro x y z hx hy hf; exact absurd hf (Nat.not_lt_zero _)
    | succ f ih =>
      intro x y z hx hy hf e
      refine aa_go (aa_lload6 iX12_common_6) (aa_go (aa_lconst iX12_common_8 kl_0) (aa_go (aa_lcmp iX12_common_9) ?_))
      refine aa_if_eqC iX12_common_10 (by omega) (by omega) (fun g2 => ?_) (fun g2 => ?_)
      · skip
        subst g2
        rw [← e, Nat.gcd_zero_right]
        refine aa_go (aa_lload4 iX12_common_31) ?_
        refine aa_lret iX12_common_33 rfl ?_
        exact ⟨rfl, rfl⟩
      · skip
        have hyp : 0 < y := by omega
        have rl : x % y < y := Nat.mod_lt _ hyp
        have e1 : Nat.gcd y (x % y) = Nat.gcd a b := by rw [← e, Nat.gcd_comm x y, Nat.gcd_rec y x, Nat.gcd_comm]
        refine aa_go (aa_lload4 iX12_common_13) (aa_go (aa_lload6 iX12_common_15) (aa_go (aa_lremN iX12_common_17 (by omega) (by omega) (by omega)) (aa_go (aa_lstore8 iX12_common_18 rfl (by decide)) (aa_go (aa_lload6 iX12_common_20) (aa_go (aa_lstore4 iX12_common_22 rfl (by decide)) (aa_go (aa_lload8 iX12_common_24) (aa_go (aa_lstore6 iX12_common_26 rfl (by decide)) ?_)))))))
        refine aa_go (aa_goto iX12_common_28) ?_
        exact ih y (x % y) _ hy (by omega) (by omega) e1
  have key : aa_V mX12_common 2 0 [some (.long (lN a)), none, some (.long (lN b)), none, none, none, none, none, none, none] [] σ (fun ra σ' => ra = some (.long (lN (Nat.gcd a b))) ∧ σ' = σ) := by
    refine aa_go (aa_lload0 iX12_common_0) (aa_go (aa_lstore4 iX12_common_1 rfl (by decide)) (aa_go (aa_lload2 iX12_common_3) (aa_go (aa_lstore6 iX12_common_4 rfl (by decide)) ?_)))
    exact loop (b + 1) a b none ha hb (by omega) rfl
  obtain ⟨ra, σ', ⟨rfl, rfl⟩, hS9⟩ := aa_S_of (avs := [.long (lN a), .long (lN b)]) (by decide) 6 [some (.long (lN a)), none, some (.long (lN b)), none, none, none, none, none, none, none] rfl rfl key
  exact hS9
end
