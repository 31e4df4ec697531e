/-! THE REFERENCE: means, with the least denominators -/
def mpt (s : Nat) : Nat := wm (pl_cn s 32 - 1)
def mMS (P : pl_T) (s : Nat) (a : Int) (x : Nat × Int) : Int := a + ((pl_wo P (bd s (pl_nx P s x.1)) * mpt s : Nat) - x.2 * (mpt s / wm (pl_cn (pl_nx P s x.1) 32) : Nat))
def mMG (P : pl_T) (_ s : Nat) (l : List (Nat × Int)) : Int := if l.isEmpty then 0 else l.foldl (mMS P s) 0 * (aa_le (pl_cn s 32) / l.length : Nat)
def mM (P : pl_T) (h s : Nat) : Int := gv P (mMG P) (fun h => 1 - h) 0 h s
def mMA (P : pl_T) (h s : Nat) (l : List Nat) : Int := (l.map (fun j => (j, mM P (1 - h) (pl_nx P s j)))).foldl (mMS P s) 0
section
variable {P : pl_T}
theorem mMA_c (h s : Nat) (l : List Nat) (j : Nat) : mMA P h s (l ++ [j]) = mMA P h s l + ((pl_wo P (bd s (pl_nx P s j)) * mpt s : Nat) - mM P (1 - h) (pl_nx P s j) * (mpt s / wm (pl_cn (pl_nx P s j) 32) : Nat)) := by
  rw [mMA, List.map_append, List.foldl_append]; rfl
theorem mM_eq (ok : pl_ok P) (h s : Nat) : mM P h s = if pl_ML P h s = [] then 0 else mMA P h s (pl_ML P h s) * (aa_le (pl_cn s 32) / (pl_ML P h s).length : Nat) := by
  rw [mM, gv_eq ok, mMG, List.length_map]
  cases e : pl_ML P h s with
  | nil => rfl
  | cons a l => rfl
theorem wm_div : ∀ (k : Fin 7) (q : Fin 7), q.val ≤ k.val → wm k.val / wm q.val * (518400 / wm k.val) = 518400 / wm q.val := by decide
theorem wm_dv2 : ∀ k : Fin 7, wm k.val * (518400 / wm k.val) = 518400 := by decide
theorem wm_dv3 : ∀ (k c : Fin 7), 1 ≤ c.val → c.val ≤ k.val → 518400 / wm (k.val - 1) = aa_le k.val / c.val * (518400 / wm k.val) * c.val := by decide
theorem ml_lo (hb : pl_b P = 0) {h s j : Nat} (hj : j ∈ pl_ML P h s) : j < pl_n P ∧ s.testBit j = true := by
  rw [pl_ML, List.mem_filter, List.mem_range, hb] at hj
  have h1 : j < pl_n P := by omega
  have h2 := hj.2
  rw [pl_lg, if_pos h1, Bool.and_eq_true] at h2
  exact ⟨h1, h2.1⟩
theorem cn_nx {s j : Nat} (h14 : pl_n P ≤ 14) (hj : j < pl_n P) (hs : s.testBit j = true) : pl_cn (pl_nx P s j) 32 < pl_cn s 32 := by
  refine cn_lt 32 (fun i _ hi => ?_) ⟨j, by omega, hs, ?_⟩
  · rw [pl_nx, if_pos hj, bd_bit] at hi; simp at hi; exact hi.1
  · rw [pl_nx, if_pos hj, bd_bit, (cl_bit j j).mpr (Or.inr rfl)]; simp
theorem ml_len (ok : pl_ok P) (hb : pl_b P = 0) (h s : Nat) : (pl_ML P h s).length ≤ pl_cn s 32 := by
  rw [← cn_mv ok]
  refine cn_mono 32 (fun i _ hi => ?_)
  rw [pl_mv, bm_bit, Bool.and_eq_true] at hi
  have : i ∈ pl_ML P h s := by rw [pl_ML, List.mem_filter, List.mem_range]; exact ⟨by simpa using hi.1, hi.2⟩
  exact (ml_lo hb this).2
theorem mn_mM (ok : pl_ok P) (hb : pl_b P = 0) : ∀ f h s, pl_cn s 32 ≤ f → pl_cn s 32 ≤ 6 → mn P h s = mM P h s * (518400 / wm (pl_cn s 32) : Nat) := by
  intro f
  induction f with
  | zero =>
    intro h s h1 h2
    have hl := ml_len ok hb h s
    have e : pl_ML P h s = [] := List.eq_nil_of_length_eq_zero (by omega)
    rw [mn_eq ok, mM_eq ok, if_pos e, if_pos e, Int.zero_mul]
  | succ f ih =>
    intro h s h1 h2
    by_cases e : pl_ML P h s = []
    · rw [mn_eq ok, mM_eq ok, if_pos e, if_pos e, Int.zero_mul]
    · have hl := ml_len ok hb h s
      have l1 : 1 ≤ (pl_ML P h s).length := by
        cases q : pl_ML P h s with
        | nil => exact absurd q e
        | cons a l => simp
      have part : ∀ l : List Nat, (∀ j, j ∈ l → j ∈ pl_ML P h s) → mnA P h s l = mMA P h s l * (518400 / mpt s : Nat) := by
        intro l hl2
        obtain ⟨l', rfl⟩ : ∃ l', l = List.reverse l' := ⟨l.reverse, by simp⟩
        induction l' with
        | nil => show (0 : Int) = 0 * _; rw [Int.zero_mul]
        | cons j l' ihl =>
          rw [List.reverse_cons] at hl2 ⊢
          have hj := ml_lo hb (hl2 j (by simp))
          have cj := cn_nx ok.1 hj.1 hj.2
          rw [mnA_c, mMA_c, ihl (fun i hi => hl2 i (List.mem_append_left _ hi)), ih (1 - h) (pl_nx P s j) (by omega) (by omega), Int.add_mul, Int.sub_mul]
          have d1 : wm (pl_cn s 32 - 1) * (518400 / wm (pl_cn s 32 - 1)) = 518400 := wm_dv2 ⟨pl_cn s 32 - 1, by omega⟩
          have d2 : wm (pl_cn s 32 - 1) / wm (pl_cn (pl_nx P s j) 32) * (518400 / wm (pl_cn s 32 - 1)) = 518400 / wm (pl_cn (pl_nx P s j) 32) := wm_div ⟨pl_cn s 32 - 1, by omega⟩ ⟨pl_cn (pl_nx P s j) 32, by omega⟩ (by show pl_cn (pl_nx P s j) 32 ≤ pl_cn s 32 - 1; omega)
          rw [show mpt s = wm (pl_cn s 32 - 1) from rfl, Int.mul_assoc (mM P (1 - h) (pl_nx P s j)), ← Int.natCast_mul, ← Int.natCast_mul, Nat.mul_assoc, d1, d2]
      have d3 : 518400 / wm (pl_cn s 32 - 1) = aa_le (pl_cn s 32) / (pl_ML P h s).length * (518400 / wm (pl_cn s 32)) * (pl_ML P h s).length := wm_dv3 ⟨pl_cn s 32, by omega⟩ ⟨(pl_ML P h s).length, by omega⟩ l1 hl
      rw [mn_eq ok, mM_eq ok, if_neg e, if_neg e, part _ (fun j hj => hj), show mpt s = wm (pl_cn s 32 - 1) from rfl, d3, Int.natCast_mul, ← Int.mul_assoc, Int.mul_tdiv_cancel _ (by omega), Int.natCast_mul, Int.mul_assoc]
end
