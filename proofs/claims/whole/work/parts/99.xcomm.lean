/-! THE REFERENCE: common divisor, wholes -/
def aa_le : Nat → Nat
  | 0 => 1
  | 1 => 1
  | 2 => 2
  | 3 => 6
  | 4 => 12
  | 5 => 60
  | _ => 60
def wm : Nat → Nat
  | 0 => 1
  | k + 1 => wm k * aa_le (k + 1)
section
variable {r : Nat → Nat} {dy : List aa_Shp} {σ : aa_St}
theorem m_common {a b : Nat} (ha : a < 9223372036854775808) (hb : b < 9223372036854775808) : aa_SX mX12_common 2 [.long (lN a), .long (lN b)] σ (some (.long (lN (Nat.gcd a b)))) σ := by
  have loop : ∀ f x y z, x < 9223372036854775808 → y < 9223372036854775808 → y < f → Nat.gcd x y = Nat.gcd a b → aa_V mX12_common 2 6 [some (.long (lN a)), none, some (.long (lN b)), none, some (.long (lN x)), none, some (.long (lN y)), none, z, none] [] σ (fun ra σ' => ra = some (.long (lN (Nat.gcd a b))) ∧ σ' = σ) := by
    intro f
    induction f with
    | zero => intro x y z hx hy hf; exact absurd hf (Nat.not_lt_zero _)
    | succ f ih =>
      intro x y z hx hy hf e
      refine aa_go (aa_lload6 iX12_common_6) (aa_go (aa_lconst iX12_common_8 kl_0) (aa_go (aa_lcmp iX12_common_9) ?_))
      refine aa_if_eqC iX12_common_10 (by omega) (by omega) (fun g2 => ?_) (fun g2 => ?_)
      · skip
        subst g2
        rw [← e, Nat.gcd_zero_right]
        refine aa_go (aa_lload4 iX12_common_31) ?_
        refine aa_lret iX12_common_33 rfl ?_
        exact ⟨rfl, rfl⟩
      · skip
        have hyp : 0 < y := by omega
        have rl : x % y < y := Nat.mod_lt _ hyp
        have e1 : Nat.gcd y (x % y) = Nat.gcd a b := by rw [← e, Nat.gcd_comm x y, Nat.gcd_rec y x, Nat.gcd_comm]
        refine aa_go (aa_lload4 iX12_common_13) (aa_go (aa_lload6 iX12_common_15) (aa_go (aa_lremN iX12_common_17 (by omega) (by omega) (by omega)) (aa_go (aa_lstore8 iX12_common_18 rfl (by decide)) (aa_go (aa_lload6 iX12_common_20) (aa_go (aa_lstore4 iX12_common_22 rfl (by decide)) (aa_go (aa_lload8 iX12_common_24) (aa_go (aa_lstore6 iX12_common_26 rfl (by decide)) ?_)))))))
        refine aa_go (aa_goto iX12_common_28) ?_
        exact ih y (x % y) _ hy (by omega) (by omega) e1
  have key : aa_V mX12_common 2 0 [some (.long (lN a)), none, some (.long (lN b)), none, none, none, none, none, none, none] [] σ (fun ra σ' => ra = some (.long (lN (Nat.gcd a b))) ∧ σ' = σ) := by
    refine aa_go (aa_lload0 iX12_common_0) (aa_go (aa_lstore4 iX12_common_1 rfl (by decide)) (aa_go (aa_lload2 iX12_common_3) (aa_go (aa_lstore6 iX12_common_4 rfl (by decide)) ?_)))
    exact loop (b + 1) a b none ha hb (by omega) rfl
  obtain ⟨ra, σ', ⟨rfl, rfl⟩, hS9⟩ := aa_S_of (avs := [.long (lN a), .long (lN b)]) (by decide) 6 [some (.long (lN a)), none, some (.long (lN b)), none, none, none, none, none, none, none] rfl rfl key
  exact hS9
theorem ls7_le {k : Nat} (hk : k ≤ 6) : aa_ls7 k = nI (aa_le k) := by
  rcases (show k = 0 ∨ k = 1 ∨ k = 2 ∨ k = 3 ∨ k = 4 ∨ k = 5 ∨ k = 6 by omega) with rfl | rfl | rfl | rfl | rfl | rfl | rfl <;> rfl
theorem aa_le_60 (k : Nat) : aa_le k ≤ 60 := by unfold aa_le; split <;> omega
theorem wm_s (k : Nat) : wm (k + 1) = wm k * aa_le (k + 1) := rfl
theorem m_wholeOfMean {k : Nat} (hk : k ≤ 6) : aa_SX mX12_wholeOfMean 1 [.int (nI k)] σ (some (.long (lN (wm k)))) σ := by
  have loop : ∀ f m, k + 1 - m < f → 1 ≤ m → m ≤ k + 1 → aa_V mX12_wholeOfMean 1 4 [some (.int (nI k)), some (.long (lN (wm (m - 1)))), none, some (.int (nI m))] [] σ (fun ra σ' => ra = some (.long (lN (wm k))) ∧ σ' = σ) := by
    intro f
    induction f with
    | zero => intro m g1; omega
    | succ f ih =>
      intro m g1 g2 g3
      refine aa_go (aa_iload3 iX12_wholeOfMean_4) (aa_go (aa_iload0 iX12_wholeOfMean_5) ?_)
      refine aa_ic_gtN iX12_wholeOfMean_6 (by omega) (by omega) (fun g4 => ?_) (fun g4 => ?_)
      · skip
        have e : m - 1 = k := by omega
        rw [e]
        refine aa_go (aa_lload1 iX12_wholeOfMean_24) ?_
        refine aa_lret iX12_wholeOfMean_25 rfl ?_
        exact ⟨rfl, rfl⟩
      · skip
        have l60 := aa_le_60 m
        have nxt := ih (m + 1) (by omega) (by omega) (by omega)
        rw [show m + 1 - 1 = (m - 1) + 1 by omega, wm_s, show m - 1 + 1 = m by omega] at nxt
        refine aa_go (aa_lload1 iX12_wholeOfMean_9) (aa_go (aa_gets iX12_wholeOfMean_10 fl_X12_268) (aa_go (aa_iload3 iX12_wholeOfMean_13) (aa_go (aa_salN iX12_wholeOfMean_14 (by omega)) ?_)))
        refine aa_go (aa_top (y := nI (aa_le m)) (ls7_le (by omega))) ?_
        refine aa_go (aa_i2lN iX12_wholeOfMean_15 (by omega)) (aa_go (aa_lmulN iX12_wholeOfMean_16 ) (aa_go (aa_lstore1 iX12_wholeOfMean_17 rfl (by decide)) (aa_go (aa_iincN3 (k := 1) iX12_wholeOfMean_18 rfl (by decide)) (aa_go (aa_goto iX12_wholeOfMean_21) ?_))))
        exact nxt
  have key : aa_V mX12_wholeOfMean 1 0 [some (.int (nI k)), none, none, none] [] σ (fun ra σ' => ra = some (.long (lN (wm k))) ∧ σ' = σ) := by
    refine aa_go (aa_lconst iX12_wholeOfMean_0 kl_1) (aa_go (aa_lstore1 iX12_wholeOfMean_1 rfl (by decide)) (aa_go (aa_iconst iX12_wholeOfMean_2 ki_1) (aa_go (aa_istore3 iX12_wholeOfMean_3 rfl (by decide)) ?_)))
    exact loop (k + 1) 1 (by omega) (by omega) (by omega)
  obtain ⟨ra, σ', ⟨rfl, rfl⟩, hS9⟩ := aa_S_of (avs := [.int (nI k)]) (by decide) 3 [some (.int (nI k)), none, none, none] rfl rfl key
  exact hS9
def wc : Nat → Nat
  | 0 => 1
  | k + 1 => wc k * (10 * aa_le (k + 1))
theorem wc_s (k : Nat) : wc (k + 1) = wc k * (10 * aa_le (k + 1)) := rfl
theorem m_whole {k : Nat} (hk : k ≤ 6) : aa_SX mX12_whole 1 [.int (nI k)] σ (some (.long (lN (wc k)))) σ := by
  have loop : ∀ f m, k + 1 - m < f → 1 ≤ m → m ≤ k + 1 → aa_V mX12_whole 1 4 [some (.int (nI k)), some (.long (lN (wc (m - 1)))), none, some (.int (nI m))] [] σ (fun ra σ' => ra = some (.long (lN (wc k))) ∧ σ' = σ) := by
    intro f
    induction f with
    | zero => intro m g1; omega
    | succ f ih =>
      intro m g1 g2 g3
      refine aa_go (aa_iload3 iX12_whole_4) (aa_go (aa_iload0 iX12_whole_5) ?_)
      refine aa_ic_gtN iX12_whole_6 (by omega) (by omega) (fun g4 => ?_) (fun g4 => ?_)
      · skip
        have e : m - 1 = k := by omega
        rw [e]
        refine aa_go (aa_lload1 iX12_whole_28) ?_
        refine aa_lret iX12_whole_29 rfl ?_
        exact ⟨rfl, rfl⟩
      · skip
        have l60 := aa_le_60 m
        have nxt := ih (m + 1) (by omega) (by omega) (by omega)
        rw [show m + 1 - 1 = (m - 1) + 1 by omega, wc_s, show m - 1 + 1 = m by omega] at nxt
        refine aa_go (aa_lload1 iX12_whole_9) (aa_go (aa_ldc2 iX12_whole_10 ld_X12_306) (aa_go (aa_gets iX12_whole_13 fl_X12_268) (aa_go (aa_iload3 iX12_whole_16) (aa_go (aa_salN iX12_whole_17 (by omega)) ?_))))
        refine aa_go (aa_top (y := nI (aa_le m)) (ls7_le (by omega))) ?_
        refine aa_go (aa_i2lN iX12_whole_18 (by omega)) (aa_go (aa_lmulN iX12_whole_19 ) (aa_go (aa_lmulN iX12_whole_20 ) (aa_go (aa_lstore1 iX12_whole_21 rfl (by decide)) (aa_go (aa_iincN3 (k := 1) iX12_whole_22 rfl (by decide)) (aa_go (aa_goto iX12_whole_25) ?_)))))
        exact nxt
  have key : aa_V mX12_whole 1 0 [some (.int (nI k)), none, none, none] [] σ (fun ra σ' => ra = some (.long (lN (wc k))) ∧ σ' = σ) := by
    refine aa_go (aa_lconst iX12_whole_0 kl_1) (aa_go (aa_lstore1 iX12_whole_1 rfl (by decide)) (aa_go (aa_iconst iX12_whole_2 ki_1) (aa_go (aa_istore3 iX12_whole_3 rfl (by decide)) ?_)))
    exact loop (k + 1) 1 (by omega) (by omega) (by omega)
  obtain ⟨ra, σ', ⟨rfl, rfl⟩, hS9⟩ := aa_S_of (avs := [.int (nI k)]) (by decide) 3 [some (.int (nI k)), none, none, none] rfl rfl key
  exact hS9
end
