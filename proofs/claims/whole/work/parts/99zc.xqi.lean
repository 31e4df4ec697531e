/-! THE REFERENCE, PUBLIC METHODS: lines -/
def wS (N G : Nat → Nat) : Nat → Nat
  | 0 => 0
  | k + 1 => wS N G k + N k * G k
theorem wS_cg {N N' G : Nat → Nat} : ∀ k, (∀ i, i < k → N' i = N i) → wS N' G k = wS N G k
  | 0, _ => rfl
  | k + 1, h => by rw [wS, wS, wS_cg k (fun i hi => h i (by omega)), h k (by omega)]
theorem wS_cg2 {N G G' : Nat → Nat} : ∀ k, (∀ i, i < k → G' i = G i) → wS N G' k = wS N G k
  | 0, _ => rfl
  | k + 1, h => by rw [wS, wS, wS_cg2 k (fun i hi => h i (by omega)), h k (by omega)]
theorem wS_up {N G : Nat → Nat} {j v : Nat} : ∀ k, j < k → wS (nup N j (N j + v)) G k = wS N G k + v * G j
  | 0, h => by omega
  | k + 1, h => by
    rw [wS, wS]
    by_cases c : j = k
    · subst c
      rw [wS_cg j (N := N) (fun i hi => nup_ne (by omega)), nup_eq, Nat.add_mul]; omega
    · rw [wS_up k (by omega), nup_ne (fun q => c q.symm)]; omega
theorem wS_0 (G : Nat → Nat) : ∀ k, wS (fun _ => 0) G k = 0
  | 0 => rfl
  | k + 1 => by rw [wS, wS_0 G k, Nat.zero_mul]
theorem wS_ge {N : Nat → Nat} : ∀ k i, i < k → N i ≤ wS N (fun _ => 1) k
  | 0, i, h => by omega
  | k + 1, i, h => by
    rw [wS, Nat.mul_one]
    by_cases c : i = k
    · rw [c]; omega
    · have := wS_ge (N := N) k i (by omega); omega
def LF (r0 : Nat → Nat) (dy : List aa_Shp) (σ0 : aa_St) (r : Nat → Nat) (σ : aa_St) : Prop := aa_W r dy σ ∧ RLy r ∧ (∀ q, q ≠ 7 → q ≠ 8 → r q = r0 q) ∧ σ.1 = σ0.1 ∧ (∀ x, x ≠ 77 → x ≠ 78 → σ.2.1 x = σ0.2.1 x) ∧ σ.2.2.2 = σ0.2.2.2 ∧ ∀ x : Nat, x ≠ 63 → σ.2.2.1[x]? = σ0.2.2.1[x]?
def LY (a : Nat) (L : Nat → Nat) (σ : aa_St) : Prop := ∀ k, k < 65536 → σ.2.1 a k = lN (L k)
section
variable {r0 r : Nat → Nat} {dy : List aa_Shp} {σ0 σ : aa_St}
theorem LF.r7 (h : LF r0 dy σ0 r σ) : σ.2.2.1[r 7]? = some (.inl (1, 65536)) := by
  rcases h.2.1 with q | q
  · rw [q.1]; exact sh_77 h.1
  · rw [q.1]; exact sh_78 h.1
theorem LF.r8 (h : LF r0 dy σ0 r σ) : σ.2.2.1[r 8]? = some (.inl (1, 65536)) := by
  rcases h.2.1 with q | q
  · rw [q.2]; exact sh_78 h.1
  · rw [q.2]; exact sh_77 h.1
theorem LF.ne (h : LF r0 dy σ0 r σ) : r 7 ≠ r 8 := by
  rcases h.2.1 with q | q <;> omega
theorem LF.in7 (h : LF r0 dy σ0 r σ) : r 7 = 77 ∨ r 7 = 78 := by rcases h.2.1 with q | q <;> omega
theorem LF.in8 (h : LF r0 dy σ0 r σ) : r 8 = 77 ∨ r 8 = 78 := by rcases h.2.1 with q | q <;> omega
theorem LF.put (h : LF r0 dy σ0 r σ) {a : Nat} (ha : a = 77 ∨ a = 78) (k : Nat) (x : Int64) : LF r0 dy σ0 r (aa_sL σ a k x) := ⟨h.1.sL _ _ _, h.2.1, h.2.2.1, h.2.2.2.1, fun y h1 h2 => by rw [sL_ne (by omega)]; exact h.2.2.2.2.1 y h1 h2, h.2.2.2.2.2.1, h.2.2.2.2.2.2⟩
theorem LY.put {a : Nat} {L : Nat → Nat} (h : LY a L σ) (k v : Nat) : LY a (nup L k v) (aa_sL σ a k (lN v)) := fun j hj => by
  rw [sL_at]
  by_cases c : j = k
  · rw [if_pos c, c, nup_eq]
  · rw [if_neg c, nup_ne c]; exact h j hj
theorem LY.ne {a b : Nat} {L : Nat → Nat} (h : LY a L σ) (hab : a ≠ b) (k : Nat) (x : Int64) : LY a L (aa_sL σ b k x) := fun j hj => by
  rw [sL_ne hab]; exact h j hj
def swR (r : Nat → Nat) : Nat → Nat := nup (nup r 7 (r 8)) 8 (r 7)
theorem swR_7 : swR r 7 = r 8 := by rw [swR, nup_ne (by decide), nup_eq]
theorem swR_8 : swR r 8 = r 7 := by rw [swR, nup_eq]
theorem swW1 (h : aa_W r dy σ) {x : aa_Shp} (hx : x = .inr (.inl (12, [.int 0, .int 0, .ref 64, .int 0, .ref 65, .ref 66, .ref 67, .ref 68, .int 0, .ref 69, .int 0, .int 0, .int 0, .int 0, .ref 70, .ref 71, .ref 72, .int 0, .int 0, .int 0, .int 0, .ref 73, .ref 74, .ref 75, .int 0, .int 0, .ref 76, .ref (r 8), .ref (r 8), .ref 79, .ref 80, .ref 81, .ref 82, .int 0, .int 0, .ref 83, .ref 84, .ref 85]))) : aa_W (nup r 7 (r 8)) dy (aa_sR σ 63 x) := by
  subst hx
  unfold aa_W at h ⊢
  unfold aa_sR
  rw [h, List.set_append_left _ _ (by rw [aa_SH_len]; decide)]
  rfl
theorem swW2 (h : aa_W (nup r 7 (r 8)) dy σ) {x : aa_Shp} (hx : x = .inr (.inl (12, [.int 0, .int 0, .ref 64, .int 0, .ref 65, .ref 66, .ref 67, .ref 68, .int 0, .ref 69, .int 0, .int 0, .int 0, .int 0, .ref 70, .ref 71, .ref 72, .int 0, .int 0, .int 0, .int 0, .ref 73, .ref 74, .ref 75, .int 0, .int 0, .ref 76, .ref (r 8), .ref (r 7), .ref 79, .ref 80, .ref 81, .ref 82, .int 0, .int 0, .ref 83, .ref 84, .ref 85]))) : aa_W (swR r) dy (aa_sR σ 63 x) := by
  subst hx
  unfold aa_W at h ⊢
  unfold aa_sR
  rw [h, List.set_append_left _ _ (by rw [aa_SH_len]; decide)]
  rfl
end
