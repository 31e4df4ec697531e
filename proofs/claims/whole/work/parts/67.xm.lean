/-! each solver's call, seen from the object -/
section
variable {A J : List Nat} {v W S R : Nat} {r r' : Nat → Nat} {dy dy' : List aa_Shp} {σ σ' : aa_St} {P : pl_T} {tx : Nat → Nat} {n : Nat} {g : gm_T} {kp : Nat → Option gm_T} {lk tl : Nat} {rw : Nat → Int} {N : Nat}
theorem GX.l38 (hG : GX A J v r dy σ r' dy' σ') (hQ : RQ r dy) (hJ : ∀ j, j ∈ J → j < 7) : σ'.2.1 38 = σ.2.1 38 := hG.2.2.2.2.2.2.2.1 38 (by omega) (fun j hj c => by have := hQ.lo (hJ j hj); omega)
theorem RQ.r3 (hQ : RQ r dy) {x : Nat} (h : 50 < x ∧ x < 87 ∨ x = 25 ∨ x = 24 ∨ x = 27 ∨ x = 30 ∨ x = 32 ∨ x = 33 ∨ x = 34 ∨ x = 35 ∨ x = 39 ∨ x = 47 ∨ x = 49 ∨ x = 41 ∨ x = 42 ∨ x = 43 ∨ x = 44) {q : Nat} (hq : q < 7) : r q ≠ x := by
  have := hQ.lo hq
  omega
theorem XM.m0 (h : XM P v W S R r σ) (hW : aa_W r dy σ) (hQ : RQ r dy) (hG : GX [25] [0] v r dy σ r' dy' σ') (hS : S0 P v r' σ') : XM P v W S R r' σ' := by
  obtain ⟨a0, a1, a2, a3, a4, a5, a6, a7, a8, a9⟩ := h
  exact ⟨hS, hG.memo hW hQ (by decide) (by decide) (by decide) (by decide) (by decide) a1, hG.memo hW hQ (by decide) (by decide) (by decide) (by decide) (by decide) a2, hG.k3 hW hQ (by decide) (by simp; exact hQ.r3 (by decide) (by decide)) a3, hG.memo hW hQ (by decide) (by decide) (by decide) (by decide) (by decide) a4, hG.memo hW hQ (by decide) (by decide) (by decide) (by decide) (by decide) a5, hG.k6 hW hQ (by decide) (by simp; exact hQ.r3 (by decide) (by decide)) (by decide) a6, by rw [hG.I (by decide) (by decide)]; exact a7, by rw [hG.l38 hQ (by decide)]; exact a8, a9⟩
theorem XM.m01 (h : XM P v W S R r σ) (hW : aa_W r dy σ) (hQ : RQ r dy) (hG : GX [24, 25, 27] [0, 1] v r dy σ r' dy' σ') (hS : S0 P v r' σ') (hS1 : S1 P v r' (W + 1) σ') (hw : σ'.1 24 3 = nI (W + 1)) : XM P v (W + 1) S R r' σ' := by
  obtain ⟨a0, a1, a2, a3, a4, a5, a6, a7, a8, a9⟩ := h
  exact ⟨hS, hS1, hG.memo hW hQ (by decide) (by decide) (by decide) (by decide) (by decide) a2, hG.k3 hW hQ (by decide) (by simp; exact ⟨hQ.r3 (by decide) (by decide), hQ.r3 (by decide) (by decide), hQ.r3 (by decide) (by decide)⟩) a3, hG.memo hW hQ (by decide) (by decide) (by decide) (by decide) (by decide) a4, hG.memo hW hQ (by decide) (by decide) (by decide) (by decide) (by decide) a5, hG.k6 hW hQ (by decide) (by simp; exact ⟨hQ.r3 (by decide) (by decide), hQ.r3 (by decide) (by decide), hQ.r3 (by decide) (by decide)⟩) (by decide) a6, hw, by rw [hG.l38 hQ (by decide)]; exact a8, a9⟩
theorem XM.m2 (h : XM P v W S R r σ) (hW : aa_W r dy σ) (hQ : RQ r dy) (hG : GX [30] [2] v r dy σ r' dy' σ') (hS : S2 P v r' σ') : XM P v W S R r' σ' := by
  obtain ⟨a0, a1, a2, a3, a4, a5, a6, a7, a8, a9⟩ := h
  exact ⟨hG.memo hW hQ (by decide) (by decide) (by decide) (by decide) (by decide) a0, hG.memo hW hQ (by decide) (by decide) (by decide) (by decide) (by decide) a1, hS, hG.k3 hW hQ (by decide) (by simp; exact hQ.r3 (by decide) (by decide)) a3, hG.memo hW hQ (by decide) (by decide) (by decide) (by decide) (by decide) a4, hG.memo hW hQ (by decide) (by decide) (by decide) (by decide) (by decide) a5, hG.k6 hW hQ (by decide) (by simp; exact hQ.r3 (by decide) (by decide)) (by decide) a6, by rw [hG.I (by decide) (by decide)]; exact a7, by rw [hG.l38 hQ (by decide)]; exact a8, a9⟩
theorem XM.mA (h : XM P v W S R r σ) (hW : aa_W r dy σ) (hQ : RQ r dy) (hG : GX A [] v r dy σ r' dy' σ') (hA : ∀ x, x ∈ A → x = 32 ∨ x = 33 ∨ x = 34 ∨ x = 35) : XM P v W S R r' σ' := by
  obtain ⟨a0, a1, a2, a3, a4, a5, a6, a7, a8, a9⟩ := h
  have n : ∀ x, x ≠ 32 ∧ x ≠ 33 ∧ x ≠ 34 ∧ x ≠ 35 → x ∉ A := fun x hx c => by have := hA x c; omega
  have n3 : r 3 ∉ A := fun c => by have := hA _ c; have := hQ.lo (show 3 < 7 by decide); omega
  have n6 : r 6 ∉ A := fun c => by have := hA _ c; have := hQ.lo (show 6 < 7 by decide); omega
  have e0 : ∀ i, i ∈ ([] : List Nat) → i < 7 := by decide
  exact ⟨hG.memo hW hQ (by decide) (n _ (by decide)) (by decide) (by decide) e0 a0, hG.memo hW hQ (by decide) (n _ (by decide)) (by decide) (by decide) e0 a1, hG.memo hW hQ (by decide) (n _ (by decide)) (by decide) (by decide) e0 a2, hG.k3 hW hQ (by decide) n3 a3, hG.memo hW hQ (by decide) (n _ (by decide)) (by decide) (by decide) e0 a4, hG.memo hW hQ (by decide) (n _ (by decide)) (by decide) (by decide) e0 a5, hG.k6 hW hQ (by decide) n6 ⟨n _ (by decide), n _ (by decide), n _ (by decide), n _ (by decide), n _ (by decide)⟩ a6, by rw [hG.I (by decide) (n _ (by decide))]; exact a7, by rw [hG.l38 hQ e0]; exact a8, a9⟩
theorem XM.m3 (h : XM P v W S R r σ) (hW : aa_W r dy σ) (hQ : RQ r dy) (hG : GX [r 3] [3] v r dy σ r' dy' σ') (hS : S3 r' σ') : XM P v W S R r' σ' := by
  obtain ⟨a0, a1, a2, a3, a4, a5, a6, a7, a8, a9⟩ := h
  have lo := hQ.lo (show 3 < 7 by decide)
  have n : ∀ x, x ≠ 26 ∧ x ≠ 28 ∧ x ≠ 31 ∧ x ≠ 37 ∧ x ≠ 40 ∧ x ≠ 48 ∧ x ≠ 50 ∧ x < 87 → x ∉ [r 3] := fun x hx c => by simp at c; omega
  exact ⟨hG.memo hW hQ (by decide) (n _ (by decide)) (by decide) (by decide) (by decide) a0, hG.memo hW hQ (by decide) (n _ (by decide)) (by decide) (by decide) (by decide) a1, hG.memo hW hQ (by decide) (n _ (by decide)) (by decide) (by decide) (by decide) a2, hS, hG.memo hW hQ (by decide) (n _ (by decide)) (by decide) (by decide) (by decide) a4, hG.memo hW hQ (by decide) (n _ (by decide)) (by decide) (by decide) (by decide) a5, hG.k6 hW hQ (by decide) (by simp; exact hQ.2.1 6 3 (by decide) (by decide) (by decide)) ⟨n _ (by decide), n _ (by decide), n _ (by decide), n _ (by decide), n _ (by decide)⟩ a6, by rw [hG.I (by decide) (n _ (by decide))]; exact a7, by rw [hG.l38 hQ (by decide)]; exact a8, a9⟩
theorem XM.m4 (h : XM P v W S R r σ) (hW : aa_W r dy σ) (hQ : RQ r dy) (hG : GX [39] [4] v r dy σ r' dy' σ') (hS : S4 P v r' S σ') : XM P v W S R r' σ' := by
  obtain ⟨a0, a1, a2, a3, a4, a5, a6, a7, a8, a9⟩ := h
  exact ⟨hG.memo hW hQ (by decide) (by decide) (by decide) (by decide) (by decide) a0, hG.memo hW hQ (by decide) (by decide) (by decide) (by decide) (by decide) a1, hG.memo hW hQ (by decide) (by decide) (by decide) (by decide) (by decide) a2, hG.k3 hW hQ (by decide) (by simp; exact hQ.r3 (by decide) (by decide)) a3, hS, hG.memo hW hQ (by decide) (by decide) (by decide) (by decide) (by decide) a5, hG.k6 hW hQ (by decide) (by simp; exact hQ.r3 (by decide) (by decide)) (by decide) a6, by rw [hG.I (by decide) (by decide)]; exact a7, by rw [hG.l38 hQ (by decide)]; exact a8, a9⟩
theorem XM.m5 (h : XM P v W S R r σ) (hW : aa_W r dy σ) (hQ : RQ r dy) (hG : GX [47] [5] v r dy σ r' dy' σ') (hS : S5 P v r' σ') : XM P v W S R r' σ' := by
  obtain ⟨a0, a1, a2, a3, a4, a5, a6, a7, a8, a9⟩ := h
  exact ⟨hG.memo hW hQ (by decide) (by decide) (by decide) (by decide) (by decide) a0, hG.memo hW hQ (by decide) (by decide) (by decide) (by decide) (by decide) a1, hG.memo hW hQ (by decide) (by decide) (by decide) (by decide) (by decide) a2, hG.k3 hW hQ (by decide) (by simp; exact hQ.r3 (by decide) (by decide)) a3, hG.memo hW hQ (by decide) (by decide) (by decide) (by decide) (by decide) a4, hS, hG.k6 hW hQ (by decide) (by simp; exact hQ.r3 (by decide) (by decide)) (by decide) a6, by rw [hG.I (by decide) (by decide)]; exact a7, by rw [hG.l38 hQ (by decide)]; exact a8, a9⟩
theorem XM.m6 {R' : Nat} (h : XM P v W S R r σ) (hW : aa_W r dy σ) (hQ : RQ r dy) (hG : GX [49, 51, 52, 53, 54, r 6] [6] v r dy σ r' dy' σ') (hS : S6 P v R' r' σ') : XM P v W S R' r' σ' := by
  obtain ⟨a0, a1, a2, a3, a4, a5, a6, a7, a8, a9⟩ := h
  have lo := hQ.lo (show 6 < 7 by decide)
  have n : ∀ x, x ≠ 26 ∧ x ≠ 28 ∧ x ≠ 31 ∧ x ≠ 37 ∧ x ≠ 40 ∧ x ≠ 48 ∧ x ≠ 50 ∧ x < 49 → x ∉ [49, 51, 52, 53, 54, r 6] := fun x hx c => by simp at c; omega
  have n3 : r 3 ∉ [49, 51, 52, 53, 54, r 6] := by
    have l3 := hQ.lo (show 3 < 7 by decide)
    have d := hQ.2.1 3 6 (by decide) (by decide) (by decide)
    intro c
    simp at c
    omega
  exact ⟨hG.memo hW hQ (by decide) (n _ (by decide)) (by decide) (by decide) (by decide) a0, hG.memo hW hQ (by decide) (n _ (by decide)) (by decide) (by decide) (by decide) a1, hG.memo hW hQ (by decide) (n _ (by decide)) (by decide) (by decide) (by decide) a2, hG.k3 hW hQ (by decide) n3 a3, hG.memo hW hQ (by decide) (n _ (by decide)) (by decide) (by decide) (by decide) a4, hG.memo hW hQ (by decide) (n _ (by decide)) (by decide) (by decide) (by decide) a5, hS, by rw [hG.I (by decide) (n _ (by decide))]; exact a7, by rw [hG.l38 hQ (by decide)]; exact a8, a9⟩
theorem notXT {x : Nat} (h : x ∉ [0, 1, 2, 20, 21, 23, 46, 57, 58, 59, 60, 61, 62]) : x ∉ XTc := h
theorem VB.mx {C j a : Nat} (h : VB v σ.1) (hM : MX C v j a r dy σ r' dy' σ') (ha : a ∈ [25, 27, 30, 39, 47]) : VB v σ'.1 := by
  have n49 : (49 : Nat) ≠ a := by rintro rfl; revert ha; decide
  refine ⟨fun x hx => ?_, by rw [hM.I (by decide) n49]; exact h.2⟩
  have x87 : x < 87 := by
    simp only [List.mem_cons, List.not_mem_nil, or_false] at hx
    omega
  by_cases c : x = a
  · subst c
    rcases hM.2.2.2.2.2.2.2.2 with ⟨-, e⟩ | ⟨-, -, -, e⟩
    · rw [e]; exact h.1 x hx
    · exact Or.inr ⟨v, Nat.le_refl _, e⟩
  · rw [hM.I x87 c]; exact h.1 x hx
theorem VB.gx (h : VB v σ.1) (hG : GX A J v r dy σ r' dy' σ') (hA : ∀ x, x ∈ [25, 27, 30, 39, 47, 49] → x ∉ A) : VB v σ'.1 := by
  refine h.fr (fun x hx => ?_) (by rw [hG.I (by decide) (hA 49 (by decide))])
  have x87 : x < 87 := by
    simp only [List.mem_cons, List.not_mem_nil, or_false] at hx
    omega
  rw [hG.I x87 (hA x (List.mem_append_left [49] hx))]
theorem XIv.vb (h : XIv P tx n g kp lk tl rw N v W S R r dy σ) : VB v σ.1 := h.2.2.2.2.2.2.2.2.2.2.2
theorem XIv.w (h : XIv P tx n g kp lk tl rw N v W S R r dy σ) : aa_W r dy σ := h.1
theorem XIv.M0 {C : Nat} (h : XIv P tx n g kp lk tl rw N v W S R r dy σ) (hM : MX C v 0 25 r dy σ r' dy' σ') (hC : C ≤ 65536) (hS : S0 P v r' σ') : XIv P tx n g kp lk tl rw N v W S R r' dy' σ' ∧ CF r σ r' σ' := by
  have hG := hM.GX (Or.inl rfl) (by decide) hC
  exact h.gx hG (by simp [XTc]) (by decide) (h.2.2.2.2.2.2.1.m0 h.1 h.2.1 hG hS) (Nat.le_refl _) h.2.2.2.2.2.2.2.2.1 h.2.2.2.2.2.2.2.2.2.1 h.2.2.2.2.2.2.2.2.2.2.1 (h.vb.mx hM (by decide))
theorem XIv.M2 {C : Nat} (h : XIv P tx n g kp lk tl rw N v W S R r dy σ) (hM : MX C v 2 30 r dy σ r' dy' σ') (hC : C ≤ 65536) (hS : S2 P v r' σ') : XIv P tx n g kp lk tl rw N v W S R r' dy' σ' ∧ CF r σ r' σ' := by
  have hG := hM.GX (Or.inr (Or.inr (Or.inl rfl))) (by decide) hC
  exact h.gx hG (by simp [XTc]) (by decide) (h.2.2.2.2.2.2.1.m2 h.1 h.2.1 hG hS) (Nat.le_refl _) h.2.2.2.2.2.2.2.2.1 h.2.2.2.2.2.2.2.2.2.1 h.2.2.2.2.2.2.2.2.2.2.1 (h.vb.mx hM (by decide))
theorem XIv.M4 {C : Nat} (h : XIv P tx n g kp lk tl rw N v W S R r dy σ) (hM : MX C v 4 39 r dy σ r' dy' σ') (hC : C ≤ 65536) (hS : S4 P v r' S σ') : XIv P tx n g kp lk tl rw N v W S R r' dy' σ' ∧ CF r σ r' σ' := by
  have hG := hM.GX (Or.inr (Or.inr (Or.inr (Or.inl rfl)))) (by decide) hC
  exact h.gx hG (by simp [XTc]) (by decide) (h.2.2.2.2.2.2.1.m4 h.1 h.2.1 hG hS) (Nat.le_refl _) h.2.2.2.2.2.2.2.2.1 h.2.2.2.2.2.2.2.2.2.1 h.2.2.2.2.2.2.2.2.2.2.1 (h.vb.mx hM (by decide))
theorem XIv.M5 {C : Nat} (h : XIv P tx n g kp lk tl rw N v W S R r dy σ) (hM : MX C v 5 47 r dy σ r' dy' σ') (hC : C ≤ 65536) (hS : S5 P v r' σ') : XIv P tx n g kp lk tl rw N v W S R r' dy' σ' ∧ CF r σ r' σ' := by
  have hG := hM.GX (Or.inr (Or.inr (Or.inr (Or.inr rfl)))) (by decide) hC
  exact h.gx hG (by simp [XTc]) (by decide) (h.2.2.2.2.2.2.1.m5 h.1 h.2.1 hG hS) (Nat.le_refl _) h.2.2.2.2.2.2.2.2.1 h.2.2.2.2.2.2.2.2.2.1 h.2.2.2.2.2.2.2.2.2.2.1 (h.vb.mx hM (by decide))
theorem XIv.M3 (h : XIv P tx n g kp lk tl rw N v W S R r dy σ) (hG : GX [r 3] [3] v r dy σ r' dy' σ') (hS : S3 r' σ') : XIv P tx n g kp lk tl rw N v W S R r' dy' σ' ∧ CF r σ r' σ' := by
  have lo := h.2.1.lo (show 3 < 7 by decide)
  exact h.gx hG (fun x hx => by simp at hx; subst hx; refine ⟨?_, by omega, by omega⟩; simp [XTc]; omega) (by decide) (h.2.2.2.2.2.2.1.m3 h.1 h.2.1 hG hS) (Nat.le_refl _) h.2.2.2.2.2.2.2.2.1 h.2.2.2.2.2.2.2.2.2.1 h.2.2.2.2.2.2.2.2.2.2.1 (h.vb.gx hG (fun x hx => by simp at hx ⊢; omega))
theorem XIv.MA (h : XIv P tx n g kp lk tl rw N v W S R r dy σ) (hF : FrA [32, 33, 34, 35] σ σ') : XIv P tx n g kp lk tl rw N v W S R r dy σ' ∧ CF r σ r σ' := by
  have hG := GX.A (v := v) h.1 hF (by decide)
  exact h.gx hG (by simp [XTc]) (by simp) (h.2.2.2.2.2.2.1.mA h.1 h.2.1 hG (by simp)) (Nat.le_refl _) h.2.2.2.2.2.2.2.2.1 h.2.2.2.2.2.2.2.2.2.1 h.2.2.2.2.2.2.2.2.2.2.1 (h.vb.gx hG (by decide))
theorem XIv.M01 (h : XIv P tx n g kp lk tl rw N v W S R r dy σ) (hG : GX [24, 25, 27] [0, 1] v r dy σ r' dy' σ') (hS : R0 P v r' σ') (hS1 : R1 P v r' (W + 1) σ') (hw : σ'.1 24 3 = nI (W + 1)) : XIv P tx n g kp lk tl rw (N + 1) v (W + 1) S R r' dy' σ' ∧ CF r σ r' σ' := by
  have b := h.2.2.2.2.2.2.2.2
  have hv : VB v σ'.1 := by
    refine ⟨fun x hx => ?_, by rw [hG.I (by decide) (by decide)]; exact h.vb.2⟩
    simp only [List.mem_cons, List.not_mem_nil, or_false] at hx
    rcases hx with rfl | rfl | rfl | rfl | rfl
    · exact Or.inr ⟨v, Nat.le_refl _, hS.1⟩
    · exact Or.inr ⟨v, Nat.le_refl _, hS1.1⟩
    · rw [hG.I (by decide) (by decide)]; exact h.vb.1 30 (by decide)
    · rw [hG.I (by decide) (by decide)]; exact h.vb.1 39 (by decide)
    · rw [hG.I (by decide) (by decide)]; exact h.vb.1 47 (by decide)
  exact h.gx hG (by simp [XTc]) (by decide) (h.2.2.2.2.2.2.1.m01 h.1 h.2.1 hG (fun _ => hS) (fun _ => hS1) hw) (by omega) (by omega) (by omega) (by omega) hv
theorem XIv.M6 {R' : Nat} (h : XIv P tx n g kp lk tl rw N v W S R r dy σ) (hG : GX [49, 51, 52, 53, 54, r 6] [6] v r dy σ r' dy' σ') (hS : S6 P v R' r' σ') (h4 : σ'.1 49 4 = nI v) (hR : R' ≤ R + 1) : XIv P tx n g kp lk tl rw (N + 1) v W S R' r' dy' σ' ∧ CF r σ r' σ' := by
  have lo := h.2.1.lo (show 6 < 7 by decide)
  have b := h.2.2.2.2.2.2.2.2
  have hv : VB v σ'.1 := by
    refine ⟨fun x hx => ?_, Or.inr ⟨v, Nat.le_refl _, h4⟩⟩
    have x50 : x < 48 ∧ x ≠ 26 ∧ x ≠ 28 ∧ x ≠ 31 ∧ x ≠ 37 ∧ x ≠ 40 := by
      simp only [List.mem_cons, List.not_mem_nil, or_false] at hx
      omega
    rw [hG.I (by omega) (by simp; omega)]
    exact h.vb.1 x hx
  exact h.gx hG (fun x hx => by simp at hx; refine ⟨?_, by omega, by omega⟩; simp [XTc]; omega) (by decide) (h.2.2.2.2.2.2.1.m6 h.1 h.2.1 hG hS) (by omega) (by omega) (by omega) (by omega) hv
theorem XIv.up {N' : Nat} (h : XIv P tx n g kp lk tl rw N v W S R r dy σ) (hN : N ≤ N') : XIv P tx n g kp lk tl rw N' v W S R r dy σ := by
  obtain ⟨a1, a2, a3, a4, a5, a6, a7, ⟨a8, a9⟩, b1, b2, b3, b4⟩ := h
  exact ⟨a1, a2, a3, a4, a5, a6, a7, ⟨by omega, by omega⟩, by omega, by omega, by omega, b4⟩
/-- the row of numbers, and longs of the few things: no memo hangs on them -/
theorem XM.fr (h : XM P v W S R r σ) (hQ : RQ r dy) (e2 : σ'.2.2 = σ.2.2) (hi : ∀ x, x ≠ 0 → x ≠ 41 → x ≠ 42 → x ≠ 43 → x ≠ 44 → σ'.1 x = σ.1 x) (hl : ∀ x, x ≠ 45 → x ≠ 56 → σ'.2.1 x = σ.2.1 x) : XM P v W S R r σ' := by
  obtain ⟨a0, a1, a2, a3, a4, a5, ⟨a6, a6'⟩, a7, a8, a9⟩ := h
  have q : ∀ x, x ≠ 0 ∧ x ≠ 41 ∧ x ≠ 42 ∧ x ≠ 43 ∧ x ≠ 44 → σ'.1 x = σ.1 x := fun x hx => hi x hx.1 hx.2.1 hx.2.2.1 hx.2.2.2.1 hx.2.2.2.2
  have qr : ∀ j, j < 7 → σ'.1 (r j) = σ.1 (r j) := fun j hj => q _ (by have := hQ.lo hj; omega)
  have lr : ∀ j, j < 7 → σ'.2.1 (r j) = σ.2.1 (r j) := fun j hj => hl _ (by have := hQ.lo hj; omega) (by have := hQ.lo hj; omega)
  refine ⟨?_, ?_, ?_, ?_, ?_, ?_, ⟨?_, ?_⟩, ?_, ?_, a9⟩
  · unfold S0 R0; rw [q 25 (by decide), e2, lr 0 (by decide)]; exact a0
  · unfold S1 R1; rw [q 27 (by decide), e2, lr 1 (by decide)]; exact a1
  · unfold S2 R2; rw [q 30 (by decide), e2, lr 2 (by decide)]; exact a2
  · unfold S3 R3; rw [e2, qr 3 (by decide)]; exact a3
  · unfold S4 R4; rw [q 39 (by decide), e2, lr 4 (by decide)]; exact a4
  · unfold S5 R5; rw [q 47 (by decide), e2, lr 5 (by decide)]; exact a5
  · rw [q 49 (by decide)]; exact a6
  · rw [e2, qr 6 (by decide), q 49 (by decide)]
    rcases a6' with a | ⟨a, b, c, d⟩
    · exact Or.inl a
    · refine Or.inr ⟨a, b, c, fun T e x1 x2 x3 x4 x5 x6 => ?_⟩
      obtain ⟨y1, y2⟩ := d T e x1 x2 x3 x4 x5 x6
      exact ⟨y1.fr (by rw [q 51 (by decide)]) (q 52 (by decide)) (q 53 (by decide)) (q 54 (by decide)), y2⟩
  · rw [q 24 (by decide)]; exact a7
  · rw [hl 38 (by decide) (by decide)]; exact a8
theorem BD.fr (h : BD P v N r σ) (e2 : σ'.2.2 = σ.2.2) (hi : ∀ x, x = 25 ∨ x = 27 ∨ x = 30 ∨ x = 39 ∨ x = 47 → σ'.1 x 1 = σ.1 x 1) : BD P v N r σ' := by
  have e9 : cc v σ'.1 = cc v σ.1 := by rw [cc, cc, hi 25 (by decide), hi 27 (by decide), hi 30 (by decide), hi 39 (by decide), hi 47 (by decide)]
  unfold BD ph pn
  rw [e9, e2]
  exact h
def FrN (σ σ' : aa_St) : Prop := (∀ x, x ≠ 0 → σ'.1 x = σ.1 x) ∧ (∀ x, x ≠ 56 → σ'.2.1 x = σ.2.1 x) ∧ σ'.2.2 = σ.2.2
theorem FrN.rf : FrN σ σ := ⟨fun _ _ => rfl, fun _ _ => rfl, rfl⟩
theorem FrN.tr {σ1 σ2 : aa_St} (h : FrN σ σ1) (g : FrN σ1 σ2) : FrN σ σ2 := ⟨fun x hx => (g.1 x hx).trans (h.1 x hx), fun x hx => (g.2.1 x hx).trans (h.2.1 x hx), g.2.2.trans h.2.2⟩
theorem FrN.s (h : FrN σ σ') (k : Nat) (x : Int32) : FrN σ (aa_sI σ' 0 k x) := ⟨fun a ha => (aa_u2_ne ha).trans (h.1 a ha), h.2.1, h.2.2⟩
theorem FrN.l (h : FrN σ σ') (k : Nat) (x : Int64) : FrN σ (aa_sL σ' 56 k x) := ⟨h.1, fun a ha => (aa_u2_ne ha).trans (h.2.1 a ha), h.2.2⟩
theorem XIv.num {tl' : Nat} {rw' : Nat → Int} (h : XIv P tx n g kp lk tl rw N v W S R r dy σ) (hF : FrN σ σ') (hN : NB tl' rw' σ') : XIv P tx n g kp lk tl' rw' N v W S R r dy σ' ∧ CF r σ r σ' := by
  obtain ⟨a1, a2, a3, a4, a5, ⟨t1, ⟨t2, t2'⟩, t3, t4, t5⟩, a7, a8, w1, w2, w3, w4⟩ := h
  have q : ∀ x, x ≠ 0 → σ'.1 x = σ.1 x := hF.1
  refine ⟨⟨a1.of2 hF.2.2, a2, a3.fr ⟨by rw [q 7 (by decide)], by rw [q 7 (by decide)], by rw [q 7 (by decide)]⟩ (fun x h1 h2 => q x (by omega)), by rw [q 7 (by decide)]; exact a4, a5, ⟨⟨by rw [q 1 (by decide)]; exact t1.1, t1.2.1, fun p hp => by rw [q 2 (by decide)]; exact t1.2.2 p hp⟩, ⟨?_, t2'⟩, fun j hj => ?_, ⟨by rw [q 46 (by decide)]; exact t4.1, t4.2⟩, hN⟩, a7.fr a2 hF.2.2 (fun x h0 _ _ _ _ => q x h0) (fun x _ h => hF.2.1 x h), a8.fr hF.2.2 (fun x hx => by rw [q x (by omega)]), w1, w2, w3, w4.fr (fun x hx => by rw [q x (by simp at hx; omega)]) (by rw [q 49 (by decide)])⟩, ⟨fun x h1 h2 => ⟨q x (by omega), hF.2.1 x (by omega)⟩, rfl, rfl⟩⟩
  · unfold XGg XG; rw [q 20 (by decide), q 21 (by decide)]; exact t2
  · obtain ⟨c1, c2⟩ := t3 j hj
    refine ⟨by rw [q 23 (by decide)]; exact c1, fun g' hg' => ?_⟩
    obtain ⟨f1, f2⟩ := c2 g' hg'
    refine ⟨?_, f2⟩
    unfold XGg XG; rw [q (57 + 2 * j) (by omega), q (57 + 2 * j + 1) (by omega)]; exact f1
theorem XIv.few (h : XIv P tx n g kp lk tl rw N v W S R r dy σ) (hF : FrW [41, 42, 43, 44] 45 σ σ') : XIv P tx n g kp lk tl rw N v W S R r dy σ' ∧ CF r σ r σ' := by
  obtain ⟨a1, a2, a3, a4, a5, a6, a7, a8, w1, w2, w3, w4⟩ := h
  have q : ∀ x, x ≠ 41 ∧ x ≠ 42 ∧ x ≠ 43 ∧ x ≠ 44 → σ'.1 x = σ.1 x := fun x hx => hF.1 x (by simp; omega)
  refine ⟨⟨a1.of2 hF.2.2, a2, a3.fr ⟨by rw [q 7 (by decide)], by rw [q 7 (by decide)], by rw [q 7 (by decide)]⟩ (fun x h1 h2 => q x (by omega)), by rw [q 7 (by decide)]; exact a4, a5, a6.fr (fun x hx => q x ?_) (hF.2.1 56 (by decide)), a7.fr a2 hF.2.2 (fun x _ h1 h2 h3 h4 => q x ⟨h1, h2, h3, h4⟩) (fun x h _ => hF.2.1 x h), a8.fr hF.2.2 (fun x hx => by rw [q x (by omega)]), w1, w2, w3, w4.fr (fun x hx => by rw [q x (by simp at hx; omega)]) (by rw [q 49 (by decide)])⟩, ⟨fun x h1 h2 => ⟨q x (by omega), hF.2.1 x (by omega)⟩, rfl, rfl⟩⟩
  simp only [XTc, List.mem_cons, List.not_mem_nil, or_false] at hx
  omega
end
