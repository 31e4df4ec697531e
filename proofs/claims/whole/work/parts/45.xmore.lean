def mz (z : Int) : Nat := (1000 + z).toNat
def KWs (P : pl_T) (S s : Nat) (x : Int64) : Prop := ∃ v, x = lN v ∧ v >>> 32 ≤ S ∧ (v >>> 32 = S → ∀ h, h ≤ 1 → fd v (16 * h) 16 = 0 ∨ fd v (16 * h) 16 = mz (me P h s))
def KW (P : pl_T) (S : Nat) (f : Nat → Int64) : Prop := ∀ s, s < 2 ^ (pl_n P + pl_b P) → KWs P S s (f s)
theorem KW.set {P : pl_T} {S : Nat} {σ : aa_St} {q s : Nat} {x : Int64} (h : KW P S (σ.2.1 q)) (hx : KWs P S s x) : KW P S ((aa_sL σ q s x).2.1 q) := by
  intro t ht
  show KWs P S t (aa_u2 σ.2.1 q s x q t)
  rw [aa_u2_eq]
  show KWs P S t (if t = s then x else σ.2.1 q t)
  by_cases c : t = s
  · rw [if_pos c, c]; exact hx
  · rw [if_neg c]; exact h t ht
theorem shr_lt {v S : Nat} (h : v >>> 32 ≤ S) (hS : S < 2 ^ 30) : v < 9223372036854775808 := by
  rw [Nat.shiftRight_eq_div_pow] at h
  omega
theorem KWs_add {P : pl_T} {S s v h : Nat} (ok : pl_ok P) (hh : h ≤ 1) (hK : v >>> 32 = S → ∀ h, h ≤ 1 → fd v (16 * h) 16 = 0 ∨ fd v (16 * h) 16 = mz (me P h s)) {b : Nat} (hb : b = if v >>> 32 = S then v else S <<< 32) : KWs P S s (lN (b ||| mz (me P h s) <<< (16 * h))) := by
  have bm := me_le ok h s
  have c16 : mz (me P h s) < 2 ^ 16 := by
    rw [mz]; omega
  have b2 : b >>> 32 = S := by
    rw [hb]
    split
    · assumption
    · rw [Nat.shiftLeft_shiftRight]
  have hB : ∀ h, h ≤ 1 → fd b (16 * h) 16 = 0 ∨ fd b (16 * h) 16 = mz (me P h s) := by
    intro q hq
    rw [hb]
    by_cases c : v >>> 32 = S
    · rw [if_pos c]; exact hK c q hq
    · rw [if_neg c]
      left
      apply bb_ext
      intro i
      rw [fd_bit, Nat.testBit_shiftLeft, Nat.zero_testBit]
      by_cases hi : i < 16
      · simp [show ¬ 32 ≤ 16 * q + i by omega]
      · simp [hi]
  have e2 : (b ||| mz (me P h s) <<< (16 * h)) >>> 32 = S := by
    have h4 : (mz (me P h s) <<< (16 * h)) >>> 32 = 0 := by
      rw [Nat.shiftRight_eq_div_pow]
      exact Nat.div_eq_of_lt (shl_lt c16 (by omega))
    rw [Nat.shiftRight_or_distrib, b2, h4, Nat.or_zero]
  refine ⟨_, rfl, by omega, fun _ q hq => ?_⟩
  by_cases c : q = h
  · subst c
    right
    rw [fd_self c16]
    rcases hB q hq with e | e
    · rw [e, Nat.zero_or]
    · rw [e, Nat.or_self]
  · rw [fd_or c16 (by omega)]
    exact hB q hq
theorem and65535 (v q : Nat) : v >>> q &&& 65535 = fd v q 16 := Nat.and_two_pow_sub_one_eq_mod _ 16
section
variable {r : Nat → Nat} {dy : List aa_Shp} {P : pl_T} {hs : List Nat} {S : Nat}
theorem c_X10_cell {σ : aa_St} (hW : aa_W r dy σ) {N s v : Nat} (hs_r4 : σ.2.2.1[r 4]? = some (.inl (1, N))) (hN : N < 2147483648) (hs2 : s < N) (hS : σ.2.1 38 2 = lN S) (hS30 : S < 2 ^ 30) (hv : σ.2.1 (r 4) s = lN v) (hvS : v >>> 32 ≤ S) : aa_SX mX10_cell 2 [.ref 38, .int (nI s)] σ (some (.long (lN (if v >>> 32 = S then v else S <<< 32)))) σ := by
  have hv63 := shr_lt hvS hS30
  refine aa_E_of (by decide) 2 [some (.ref 38), some (.int (nI s)), none, none] rfl rfl ?_
  refine aa_go (aa_aload0 iX10_cell_0) (aa_go (aa_getR iX10_cell_1 fl_X10_12 (sh_38 hW) rfl) (aa_go (aa_iload1 iX10_cell_4) (aa_go (aa_cVl iX10_cell_5 (hv ▸ c_at39 hW hs_r4 hN hs2) (by decide) lc_X4_at lk_X10_34 (sh_39 hW) rfl rfl (Nat.le_of_ble_eq_true rfl)) (aa_go (aa_lstore2 iX10_cell_8 rfl (by decide)) (aa_go (aa_lload2 iX10_cell_9) (aa_go (aa_bipush iX10_cell_10 kb_32) (aa_go (aa_lushrN iX10_cell_12 (by omega) (by omega)) ?_)))))))
  refine aa_go (aa_aload0 iX10_cell_13) (aa_go (aa_getL iX10_cell_14 fl_X10_18 (sh_38 hW) rfl) ?_)
  refine aa_go (aa_topl (y := lN S) (hS)) ?_
  refine aa_go (aa_lcmp iX10_cell_17) ?_
  refine aa_if_neC iX10_cell_18 (by omega) (by omega) (fun h1 => ?_) (fun h1 => ?_)
  · skip
    refine aa_go (aa_aload0 iX10_cell_25) (aa_go (aa_getL iX10_cell_26 fl_X10_18 (sh_38 hW) rfl) ?_)
    refine aa_go (aa_topl (y := lN S) (hS)) ?_
    refine aa_go (aa_bipush iX10_cell_29 kb_32) (aa_go (aa_lshlN iX10_cell_31 (by omega)) ?_)
    refine aa_lret iX10_cell_32 rfl ?_
    exact ⟨by rw [if_neg h1], rfl⟩
  · skip
    refine aa_go (aa_lload2 iX10_cell_21) (aa_go (aa_goto iX10_cell_22) ?_)
    refine aa_lret iX10_cell_32 rfl ?_
    exact ⟨by rw [if_pos h1], rfl⟩
end
