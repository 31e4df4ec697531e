/-! other worths: what does not hang on them -/
def wP (P : pl_T) (w : Nat → Nat) : pl_T := (P.1, P.2.1, w, P.2.2.2)
theorem gs_w {α : Type} (P : pl_T) (w : Nat → Nat) (G : Nat → Nat → List (Nat × α) → α) (nh : Nat → Nat) (d : α) : ∀ f h s, gs (wP P w) G nh d f h s = gs P G nh d f h s := by
  intro f
  induction f with
  | zero => intro h s; rfl
  | succ f ih =>
    intro h s
    rw [gs, gs]
    show G h s ((pl_ML P h s).map _) = _
    congr 1
    apply List.map_congr_left
    intro j _
    show (j, gs (wP P w) G nh d f (nh h) (pl_nx P s j)) = _
    rw [ih]
theorem gv_w {α : Type} (P : pl_T) (w : Nat → Nat) (G : Nat → Nat → List (Nat × α) → α) (nh : Nat → Nat) (d : α) (h s : Nat) : gv (wP P w) G nh d h s = gv P G nh d h s := gs_w P w G nh d _ h s
section
variable (P : pl_T) (w : Nat → Nat)
theorem wi_w (e h s : Nat) : wi (wP P w) e h s = wi P e h s := gv_w P w _ _ _ h s
theorem so_w (e h s : Nat) : so (wP P w) e h s = so P e h s := gv_w P w _ _ _ h s
theorem vl_w (s : Nat) : vl (wP P w) s = vl P s := gv_w P w _ _ _ 3 s
theorem kp_w (lk h s : Nat) : kp (wP P w) lk h s = kp P lk h s := gv_w P w _ _ _ h s
theorem es_w (h k s : Nat) : es (wP P w) h k s = es P h k s := gv_w P w _ _ _ h s
theorem czf_w (e : Nat) : ∀ f, czf (wP P w) e f = czf P e f := by
  intro f
  induction f with
  | zero => rfl
  | succ f ih => rw [czf, czf, ih]; rfl
theorem cz_w (e h s a b : Nat) : cz (wP P w) e h s a b = cz P e h s a b := by
  rw [cz, cz, czf_w]; rfl
theorem cc1_w (T e h p x y : Nat) : cc1 (wP P w) T e h p x y = cc1 P T e h p x y := cz_w P w e h _ _ _
theorem KI_w {f : Nat → Int64} (h : KI P f) : KI (wP P w) f := by
  intro s hs
  obtain ⟨v, a, b, c⟩ := h s hs
  exact ⟨v, a, b, fun h' e' x1 x2 => by rw [wi_w, so_w]; exact c h' e' x1 x2⟩
theorem KV_w {f : Nat → Int64} (h : KV P f) : KV (wP P w) f := by
  intro s hs
  have := h s hs
  unfold KVs at this ⊢
  rw [vl_w]; exact this
theorem KK_w {f : Nat → Int64} (h : KK P f) : KK (wP P w) f := by
  intro s hs
  obtain ⟨v, a, b, c, d⟩ := h s hs
  exact ⟨v, a, b, fun lk h' x1 x2 => by rw [kp_w]; exact c lk h' x1 x2, fun h' k' x1 x2 x3 => by rw [es_w]; exact d h' k' x1 x2 x3⟩
theorem KZ_w {T e R : Nat} {f : Nat → Int32} (h : KZ P T e R f) : KZ (wP P w) T e R f := by
  intro p x y h1 h2 h3
  obtain ⟨v, a, b, c⟩ := h p x y h1 h2 h3
  exact ⟨v, a, b, fun q h' hh => by rw [cc1_w]; exact c q h' hh⟩
theorem KW_w {S : Nat} {f : Nat → Int64} (h : KW P S f) : KW (wP P w) (S + 1) f := by
  intro s hs
  obtain ⟨v, a, b, -⟩ := h s hs
  exact ⟨v, a, by omega, fun q => by omega⟩
theorem GV_w {g : gm_T} (h : GV P g) : GV (wP P w) g := h
theorem it_w (t : Nat) : ∀ k s, pl_it (wP P w) t k s = pl_it P t k s := by
  intro k
  induction k with
  | zero => intro s; rfl
  | succ k ih => intro s; rw [pl_it, pl_it, ih]; rfl
theorem hp_w (t i : Nat) : pl_hp (wP P w) t i = pl_hp P t i := it_w P w t _ _
theorem hsP_w : hsP (wP P w) = hsP P := by
  have : ∀ k, pl_hl (wP P w) k = pl_hl P k := by
    intro k
    induction k with
    | zero => rfl
    | succ k ih => rw [pl_hl, pl_hl, ih, hp_w]
  show (pl_hl (wP P w) (pl_n P)).1 = _
  rw [this]; rfl
end
