/-! THE WALL: four rows of stones -/
def wr (s t : Nat) : Nat := s / 8 ^ t % 8
theorem wr_sh (s t : Nat) : s >>> (3 * t) &&& 7 = wr s t := by
  rw [wr, Nat.shiftRight_eq_div_pow, Nat.pow_mul]
  exact Nat.and_two_pow_sub_one_eq_mod _ 3
theorem wr_le (s t : Nat) : wr s t ≤ 7 := by
  have := Nat.mod_lt (s / 8 ^ t) (by decide : 8 > 0)
  rw [wr]; omega
def we (f : Nat → Nat) : Nat := f 0 + 8 * f 1 + 64 * f 2 + 512 * f 3
theorem four {t : Nat} (h : t < 4) : t = 0 ∨ t = 1 ∨ t = 2 ∨ t = 3 := by omega
theorem we_ch {f g : Nat → Nat} {j : Nat} (hj : j < 4) (h : ∀ t, t < 4 → t ≠ j → g t = f t) (hle : g j ≤ f j) : we g + (f j - g j) * 8 ^ j = we f := by
  have h0 := h 0 (by decide)
  have h1 := h 1 (by decide)
  have h2 := h 2 (by decide)
  have h3 := h 3 (by decide)
  unfold we
  rcases four hj with rfl | rfl | rfl | rfl
  · rw [h1 (by decide), h2 (by decide), h3 (by decide)]; omega
  · rw [h0 (by decide), h2 (by decide), h3 (by decide)]; omega
  · rw [h0 (by decide), h1 (by decide), h3 (by decide)]; omega
  · rw [h0 (by decide), h1 (by decide), h2 (by decide)]; omega
theorem we_lt {f : Nat → Nat} (h : ∀ t, t < 4 → f t ≤ 7) : we f < 4096 := by
  have h0 := h 0 (by decide)
  have h1 := h 1 (by decide)
  have h2 := h 2 (by decide)
  have h3 := h 3 (by decide)
  unfold we
  omega
theorem wr_we {f : Nat → Nat} (h : ∀ t, t < 4 → f t ≤ 7) {t : Nat} (ht : t < 4) : wr (we f) t = f t := by
  have h0 := h 0 (by decide)
  have h1 := h 1 (by decide)
  have h2 := h 2 (by decide)
  have h3 := h 3 (by decide)
  unfold wr we
  rcases four ht with rfl | rfl | rfl | rfl <;> omega
theorem we_wr {s : Nat} (h : s < 4096) : we (wr s) = s := by
  unfold we wr
  omega
def wcf (s i c j t : Nat) : Nat := if i ≤ t ∧ t < j then min (wr s t) c else wr s t
theorem wcf_le (s i c j t : Nat) : wcf s i c j t ≤ wr s t := by
  unfold wcf
  split <;> omega
theorem wcf_7 (s i c j t : Nat) : wcf s i c j t ≤ 7 := Nat.le_trans (wcf_le s i c j t) (wr_le s t)
def cut (s i c : Nat) : Nat := we (wcf s i c 4)
theorem cut_lt (s i c : Nat) : cut s i c < 4096 := we_lt (fun t _ => wcf_7 s i c 4 t)
theorem wck_step (s i c : Nat) {j : Nat} (hj : j < 4) (hij : i ≤ j) : we (wcf s i c (j + 1)) + (wr s j - min (wr s j) c) * 8 ^ j = we (wcf s i c j) := by
  have e1 : wcf s i c (j + 1) j = min (wr s j) c := by unfold wcf; rw [if_pos (by omega)]
  have e2 : wcf s i c j j = wr s j := by unfold wcf; rw [if_neg (by omega)]
  have := we_ch (f := wcf s i c j) (g := wcf s i c (j + 1)) hj (fun t _ hne => by
    unfold wcf
    by_cases c1 : i ≤ t ∧ t < j
    · rw [if_pos c1, if_pos (by omega)]
    · rw [if_neg c1, if_neg (by omega)]) (by rw [e1, e2]; omega)
  rw [e1, e2] at this
  exact this
def ws (s : Nat) : Nat := wr s 0 + wr s 1 + wr s 2 + wr s 3
theorem ws_le (s : Nat) : ws s ≤ 28 := by
  have h0 := wr_le s 0
  have h1 := wr_le s 1
  have h2 := wr_le s 2
  have h3 := wr_le s 3
  rw [ws]; omega
theorem ws_cut {s i c : Nat} (hi : i < 4) (hc : c < wr s i) : ws (cut s i c) < ws s := by
  have e : ∀ t, t < 4 → wr (cut s i c) t = wcf s i c 4 t := fun t ht => wr_we (fun t _ => wcf_7 s i c 4 t) ht
  have h : wcf s i c 4 i < wr s i := by unfold wcf; rw [if_pos (by omega)]; omega
  have h0 := wcf_le s i c 4 0
  have h1 := wcf_le s i c 4 1
  have h2 := wcf_le s i c 4 2
  have h3 := wcf_le s i c 4 3
  rw [ws, ws, e 0 (by decide), e 1 (by decide), e 2 (by decide), e 3 (by decide)]
  rcases four hi with rfl | rfl | rfl | rfl <;> omega
/-- all stones of the rows below i, and c of row i -/
def wp (s i c : Nat) : List (Nat × Nat) := ((List.range i).flatMap (fun t => (List.range (wr s t)).map (fun c => (t, c)))) ++ (List.range c).map (fun c => (i, c))
theorem wp_c (s i c : Nat) : wp s i (c + 1) = wp s i c ++ [(i, c)] := by
  rw [wp, wp, List.range_succ, List.map_append, List.append_assoc]; rfl
theorem wp_i (s i : Nat) : wp s (i + 1) 0 = wp s i (wr s i) := by
  rw [wp, wp, List.range_succ, List.flatMap_append]; simp
theorem wp_mem {s i c : Nat} (hc : c ≤ wr s i) {x : Nat × Nat} (h : x ∈ wp s i c) : x.1 ≤ i ∧ x.2 < wr s x.1 := by
  rw [wp, List.mem_append, List.mem_flatMap] at h
  rcases h with ⟨t, ht, h⟩ | h
  · obtain ⟨q, hq, rfl⟩ := List.mem_map.mp h
    rw [List.mem_range] at ht hq
    exact ⟨by show t ≤ i; omega, hq⟩
  · obtain ⟨q, hq, rfl⟩ := List.mem_map.mp h
    rw [List.mem_range] at hq
    exact ⟨Nat.le_refl _, by show q < wr s i; omega⟩
def wml (s : Nat) : List (Nat × Nat) := wp s 4 0
theorem wml_mem {s : Nat} {x : Nat × Nat} (h : x ∈ wml s) : x.1 < 4 ∧ x.2 < wr s x.1 := by
  have e : wml s = wp s 3 (wr s 3) := wp_i s 3
  rw [e] at h
  have := wp_mem (Nat.le_refl _) h
  exact ⟨by omega, this.2⟩
def wvf : Nat → Nat → Bool
  | 0, s => decide (s = 0)
  | f + 1, s => decide (s = 0) || (wml s).any (fun x => !wvf f (cut s x.1 x.2))
def wv (s : Nat) : Bool := wvf (ws s) s
theorem wml_0 {s : Nat} (h : ws s = 0) : wml s = [] := by
  rw [List.eq_nil_iff_forall_not_mem]
  intro x hx
  have h1 := wml_mem hx
  have h2 := ws_cut h1.1 h1.2
  omega
theorem wvf_eq : ∀ f g s, ws s ≤ f → ws s ≤ g → wvf f s = wvf g s := by
  intro f
  induction f with
  | zero =>
    intro g s h1 h2
    cases g with
    | zero => rfl
    | succ g => rw [wvf, wvf, wml_0 (by omega)]; simp
  | succ f ih =>
    intro g s h1 h2
    cases g with
    | zero => rw [wvf, wvf, wml_0 (by omega)]; simp
    | succ g =>
      rw [wvf, wvf]
      congr 1
      rw [Bool.eq_iff_iff, List.any_eq_true, List.any_eq_true]
      constructor
      · rintro ⟨x, hx, h⟩
        have h3 := wml_mem hx
        have h4 := ws_cut h3.1 h3.2
        exact ⟨x, hx, by rw [ih g _ (by omega) (by omega)] at h; exact h⟩
      · rintro ⟨x, hx, h⟩
        have h3 := wml_mem hx
        have h4 := ws_cut h3.1 h3.2
        exact ⟨x, hx, by rw [ih g _ (by omega) (by omega)]; exact h⟩
def wst (s : Nat) : Option (Nat × Nat) := (wml s).find? (fun x => !wv (cut s x.1 x.2))
theorem wv_eq (s : Nat) : wv s = (decide (s = 0) || (wst s).isSome) := by
  rw [wv, wvf_eq (ws s) (ws s + 1) s (Nat.le_refl _) (by omega), wvf, wst]
  congr 1
  rw [Bool.eq_iff_iff, List.any_eq_true, List.find?_isSome]
  constructor
  · rintro ⟨x, hx, h⟩
    have h3 := wml_mem hx
    have h4 := ws_cut h3.1 h3.2
    exact ⟨x, hx, by rw [wv, wvf_eq (ws (cut s x.1 x.2)) (ws s) _ (Nat.le_refl _) (by omega)]; exact h⟩
  · rintro ⟨x, hx, h⟩
    have h3 := wml_mem hx
    have h4 := ws_cut h3.1 h3.2
    exact ⟨x, hx, by rw [wv, wvf_eq (ws (cut s x.1 x.2)) (ws s) _ (Nat.le_refl _) (by omega)] at h; exact h⟩
def oS : Option (Nat × Nat) → Int32
  | none => -1
  | some x => nI (x.1 * 7 + x.2)
theorem w_sub : ∀ (c w : Fin 8) (j : Fin 4), c < w → (nI c.val - nI w.val) <<< (nI (3 * j.val) &&& 31) = - nI ((w.val - c.val) * 8 ^ j.val) := by decide
section
variable {r : Nat → Nat} {dy : List aa_Shp} {σ : aa_St}
theorem c_X8_without {s i c : Nat} (hs : s < 4096) (hi : i < 4) (hc : c ≤ 7) : aa_SX mX8_without 1 [.int (nI s), .int (nI i), .int (nI c)] σ (some (.int (nI (cut s i c)))) σ := by
  have loop : ∀ f j y5, 4 - j < f → i ≤ j → j ≤ 4 → aa_V mX8_without 1 5 [some (.int (nI s)), some (.int (nI i)), some (.int (nI c)), some (.int (nI (we (wcf s i c j)))), some (.int (nI j)), y5] [] σ (fun ra σ' => ra = some (.int (nI (cut s i c))) ∧ σ' = σ) := by
    intro f
    induction f with
    | zero => intro j y5 g1; omega
    | succ f ih =>
      intro j y5 g1 g2 g3
      refine aa_go (aa_iload4 iX8_without_5) (aa_go (aa_iconst iX8_without_7 ki_4) ?_)
      refine aa_ic_geN iX8_without_8 (by omega) (by omega) (fun g4 => ?_) (fun g4 => ?_)
      · skip
        have e : j = 4 := by omega
        subst e
        refine aa_go (aa_iload3 iX8_without_46) ?_
        refine aa_iret iX8_without_47 rfl ?_
        exact ⟨rfl, rfl⟩
      · skip
        have wl := wr_le s j
        have st := wck_step s i c g4 g2
        refine aa_go (aa_iload0 iX8_without_11) (aa_go (aa_iconst iX8_without_12 ki_3) (aa_go (aa_iload4 iX8_without_13) (aa_go (aa_imulN iX8_without_15 ) (aa_go (aa_ishrN iX8_without_16 (by omega) (by omega)) (aa_go (aa_bipush iX8_without_17 kb_7) (aa_go (aa_iandN iX8_without_19 ) ?_))))))
        refine aa_go (aa_top (y := nI (wr s j)) (by rw [show 3 * j = 3 * j from rfl, wr_sh])) ?_
        refine aa_go (aa_istore5 iX8_without_20 rfl (by decide)) (aa_go (aa_iload5 iX8_without_22) (aa_go (aa_iload2 iX8_without_24) ?_))
        refine aa_ic_leN iX8_without_25 (by omega) (by omega) (fun g5 => ?_) (fun g5 => ?_)
        · skip
          rw [Nat.min_eq_left g5, Nat.sub_self, Nat.zero_mul, Nat.add_zero] at st
          refine aa_go (aa_iincN4 (k := 1) iX8_without_40 rfl (by decide)) (aa_go (aa_goto iX8_without_43) ?_)
          rw [← st]
          exact ih (j + 1) _ (by omega) (by omega) (by omega)
        · skip
          rw [Nat.min_eq_right (by omega)] at st
          have e8 : (nI c - nI (wr s j)) <<< (nI (3 * j) &&& 31) = - nI ((wr s j - c) * 8 ^ j) := w_sub ⟨c, by omega⟩ ⟨wr s j, by omega⟩ ⟨j, g4⟩ g5
          generalize (wr s j - c) * 8 ^ j = D at st e8
          have e7 : nI (we (wcf s i c j)) + - nI D = nI (we (wcf s i c (j + 1))) := by
            rw [← Int32.sub_eq_add_neg, nI_sub (by omega)]
            congr 1
            omega
          refine aa_go (aa_iload3 iX8_without_28) (aa_go (aa_iload2 iX8_without_29) (aa_go (aa_iload5 iX8_without_30) (aa_go (aa_isub iX8_without_32 ) (aa_go (aa_iconst iX8_without_33 ki_3) (aa_go (aa_iload4 iX8_without_34) (aa_go (aa_imulN iX8_without_36 ) (aa_go (aa_ishl iX8_without_37) ?_)))))))
          refine aa_go (aa_iadd iX8_without_38) ?_
          refine aa_go (aa_top (y := nI (we (wcf s i c (j + 1)))) (by rw [e8, e7])) ?_
          refine aa_go (aa_istore3 iX8_without_39 rfl (by decide)) (aa_go (aa_iincN4 (k := 1) iX8_without_40 rfl (by decide)) (aa_go (aa_goto iX8_without_43) ?_))
          exact ih (j + 1) _ (by omega) (by omega) (by omega)
  have e0 : we (wcf s i c i) = s := by
    have : wcf s i c i = wr s := by
      funext t
      unfold wcf
      rw [if_neg (by omega)]
    rw [this, we_wr hs]
  have key : aa_V mX8_without 1 0 [some (.int (nI s)), some (.int (nI i)), some (.int (nI c)), none, none, none] [] σ (fun ra σ' => ra = some (.int (nI (cut s i c))) ∧ σ' = σ) := by
    refine aa_go (aa_iload0 iX8_without_0) (aa_go (aa_istore3 iX8_without_1 rfl (by decide)) (aa_go (aa_iload1 iX8_without_2) (aa_go (aa_istore4 iX8_without_3 rfl (by decide)) ?_)))
    have := loop 5 i none (by omega) (Nat.le_refl _) (by omega)
    rw [e0] at this
    exact this
  obtain ⟨ra, σ', ⟨rfl, rfl⟩, hS9⟩ := aa_S_of (avs := [.int (nI s), .int (nI i), .int (nI c)]) (by decide) 3 [some (.int (nI s)), some (.int (nI i)), some (.int (nI c)), none, none, none] rfl rfl key
  exact hS9
end
