/-! THE REFERENCE: chances, with the least denominators -/
def cpt (s : Nat) : Nat := wc (pl_cn s 32 - 1)
def cvl (P : pl_T) (s j x : Nat) : Nat := cpt s - x * (cpt s / wc (pl_cn (pl_nx P s j) 32))
def cMS (P : pl_T) (s : Nat) (a : Nat × Nat) (x : Nat × Nat) : Nat × Nat := (a.1 + cvl P s x.1 x.2, max a.2 (cvl P s x.1 x.2))
def cMR (c k m : Nat) (a : Nat × Nat) : Nat := (10 - c) * a.2 * aa_le k + c * a.1 * (aa_le k / m)
def cMG (P : pl_T) (c e : Nat) (_ s : Nat) (l : List (Nat × Nat)) : Nat := if l.isEmpty then e * wc (pl_cn s 32) else cMR c (pl_cn s 32) l.length (l.foldl (cMS P s) (0, 0))
def cM (P : pl_T) (c e h s : Nat) : Nat := gv P (cMG P c e) (fun h => 1 - h) 0 h s
def cMA (P : pl_T) (c e h s : Nat) (l : List Nat) : Nat × Nat := (l.map (fun j => (j, cM P c e (1 - h) (pl_nx P s j)))).foldl (cMS P s) (0, 0)
theorem cM_wd : ∀ k : Fin 7, wc k.val * (CH / wc k.val) = CH := by decide +kernel
theorem cM_wp : ∀ k : Fin 7, 0 < wc k.val ∧ wc k.val ≤ CH := by decide +kernel
theorem cM_wq : ∀ (k q : Fin 7), q.val ≤ k.val → wc k.val / wc q.val * (CH / wc k.val) = CH / wc q.val := by decide +kernel
theorem cM_wq2 : ∀ (k q : Fin 7), q.val ≤ k.val → wc q.val * (wc k.val / wc q.val) = wc k.val := by decide +kernel
theorem cM_w1 : ∀ k : Fin 7, 1 ≤ k.val → CH / wc (k.val - 1) = 10 * aa_le k.val * (CH / wc k.val) ∧ wc k.val = 10 * (wc (k.val - 1) * aa_le k.val) := by decide +kernel
theorem cM_le : ∀ (k m : Fin 7), 1 ≤ m.val → m.val ≤ k.val → aa_le k.val = m.val * (aa_le k.val / m.val) := by decide +kernel
section
variable {P : pl_T}
theorem cMA_c (c e h s : Nat) (l : List Nat) (j : Nat) : cMA P c e h s (l ++ [j]) = cMS P s (cMA P c e h s l) (j, cM P c e (1 - h) (pl_nx P s j)) := by
  rw [cMA, List.map_append, List.foldl_append]; rfl
theorem cM_eq (ok : pl_ok P) (c e h s : Nat) : cM P c e h s = if pl_ML P h s = [] then e * wc (pl_cn s 32) else cMR c (pl_cn s 32) (pl_ML P h s).length (cMA P c e h s (pl_ML P h s)) := by
  rw [cM, gv_eq ok, cMG, List.length_map]
  cases q : pl_ML P h s with
  | nil => rfl
  | cons a l => rfl
theorem cvl_le (s j x : Nat) : cvl P s j x ≤ cpt s := Nat.sub_le _ _
theorem cMA_le (c e h s : Nat) (l' : List Nat) : (cMA P c e h s l'.reverse).1 ≤ l'.length * cpt s ∧ (cMA P c e h s l'.reverse).2 ≤ cpt s := by
  induction l' with
  | nil => exact ⟨Nat.zero_le _, Nat.zero_le _⟩
  | cons j l' ih =>
    rw [List.reverse_cons, cMA_c, List.length_cons, Nat.add_mul, Nat.one_mul]
    have := cvl_le (P := P) s j (cM P c e (1 - h) (pl_nx P s j))
    exact ⟨Nat.add_le_add ih.1 this, Nat.max_le.mpr ⟨ih.2, this⟩⟩
theorem cMA_le2 (c e h s : Nat) (l : List Nat) : (cMA P c e h s l).1 ≤ l.length * cpt s ∧ (cMA P c e h s l).2 ≤ cpt s := by
  have := cMA_le (P := P) c e h s l.reverse
  rw [List.reverse_reverse, List.length_reverse] at this
  exact this
theorem cM_bd (ok : pl_ok P) (hb : pl_b P = 0) {c e : Nat} (hc : c ≤ 10) (he : e ≤ 1) (h s : Nat) (h6 : pl_cn s 32 ≤ 6) : cM P c e h s ≤ wc (pl_cn s 32) := by
  rw [cM_eq ok]
  split
  · calc e * wc (pl_cn s 32) ≤ 1 * wc (pl_cn s 32) := Nat.mul_le_mul_right _ he
      _ = _ := Nat.one_mul _
  · rename_i q
    have l1 : 1 ≤ (pl_ML P h s).length := List.length_pos_iff.mpr q
    have l2 := ml_len ok hb h s
    have b := cMA_le2 (P := P) c e h s (pl_ML P h s)
    have w1 := (cM_w1 ⟨pl_cn s 32, by omega⟩ (by show 1 ≤ pl_cn s 32; omega)).2
    have w2 := cM_le ⟨pl_cn s 32, by omega⟩ ⟨(pl_ML P h s).length, by omega⟩ l1 l2
    replace w1 : wc (pl_cn s 32) = 10 * (cpt s * aa_le (pl_cn s 32)) := w1
    replace w2 : aa_le (pl_cn s 32) = (pl_ML P h s).length * (aa_le (pl_cn s 32) / (pl_ML P h s).length) := w2
    rw [w1, cMR]
    generalize hL : aa_le (pl_cn s 32) = L at *
    generalize hq : L / (pl_ML P h s).length = qq at *
    generalize hm : (pl_ML P h s).length = m at *
    have e1 : (10 - c) * (cMA P c e h s (pl_ML P h s)).2 * L ≤ (10 - c) * (cpt s * L) := by
      rw [Nat.mul_assoc]
      exact Nat.mul_le_mul_left _ (Nat.mul_le_mul_right _ b.2)
    have e2 : c * (cMA P c e h s (pl_ML P h s)).1 * qq ≤ c * (cpt s * L) := by
      rw [Nat.mul_assoc]
      refine Nat.mul_le_mul_left _ ?_
      calc (cMA P c e h s (pl_ML P h s)).1 * qq ≤ m * cpt s * qq := Nat.mul_le_mul_right _ b.1
        _ = cpt s * (m * qq) := by rw [Nat.mul_comm m, Nat.mul_assoc]
        _ = cpt s * L := by rw [← w2]
    have e3 : (10 - c) * (cpt s * L) + c * (cpt s * L) = 10 * (cpt s * L) := by rw [← Nat.add_mul, show 10 - c + c = 10 by omega]
    omega
theorem max_mul (a b d : Nat) : max (a * d) (b * d) = max a b * d := by
  rcases Nat.le_total a b with q | q
  · rw [Nat.max_eq_right q, Nat.max_eq_right (Nat.mul_le_mul_right d q)]
  · rw [Nat.max_eq_left q, Nat.max_eq_left (Nat.mul_le_mul_right d q)]
theorem ch_fin1 {c m S B q D : Nat} (hm : 0 < m) : ((10 - c) * m * (B * (10 * (m * q) * D)) + c * (S * (10 * (m * q) * D))) / (10 * m) = ((10 - c) * B * (m * q) + c * S * q) * D := by
  generalize 10 - c = d
  have : d * m * (B * (10 * (m * q) * D)) + c * (S * (10 * (m * q) * D)) = 10 * m * ((d * B * (m * q) + c * S * q) * D) := by
    simp only [Nat.mul_add, Nat.add_mul, Nat.mul_assoc, Nat.mul_comm, Nat.mul_left_comm]
  rw [this, Nat.mul_div_cancel_left _ (by omega)]
theorem ch_fin2 {c m S B q D C : Nat} (hc : c ≤ 10) (hm : 0 < m) (h1 : S * (10 * (m * q) * D) ≤ m * C) (h2 : B * (10 * (m * q) * D) ≤ C) : ((10 - c) * m * (C - B * (10 * (m * q) * D)) + c * (m * C - S * (10 * (m * q) * D))) / (10 * m) = C - ((10 - c) * B * (m * q) + c * S * q) * D := by
  have e0 : (10 - c) * m * (B * (10 * (m * q) * D)) + c * (S * (10 * (m * q) * D)) = 10 * m * (((10 - c) * B * (m * q) + c * S * q) * D) := by
    generalize 10 - c = d
    simp only [Nat.mul_add, Nat.add_mul, Nat.mul_assoc, Nat.mul_comm, Nat.mul_left_comm]
  have e1 : (10 - c) * m * (C - B * (10 * (m * q) * D)) + (10 - c) * m * (B * (10 * (m * q) * D)) = (10 - c) * m * C := by
    rw [← Nat.mul_add, Nat.sub_add_cancel h2]
  have e2 : c * (m * C - S * (10 * (m * q) * D)) + c * (S * (10 * (m * q) * D)) = c * (m * C) := by
    rw [← Nat.mul_add, Nat.sub_add_cancel h1]
  have e3 : (10 - c) * m * C + c * (m * C) = 10 * m * C := by
    rw [Nat.mul_assoc, ← Nat.add_mul, show 10 - c + c = 10 by omega, Nat.mul_assoc]
  have e4 : (10 - c) * m * (C - B * (10 * (m * q) * D)) + c * (m * C - S * (10 * (m * q) * D)) = 10 * m * (C - ((10 - c) * B * (m * q) + c * S * q) * D) := by
    have e5 := Nat.mul_sub (10 * m) C (((10 - c) * B * (m * q) + c * S * q) * D)
    rw [e5, ← e0, ← e3]; omega
  rw [e4, Nat.mul_div_cancel_left _ (by omega)]
theorem ch_cM (ok : pl_ok P) (hb : pl_b P = 0) {cl c e : Nat} (hcl : cl ≤ 1) (hc : c ≤ 10) (he : e ≤ 1) : ∀ f h s, pl_cn s 32 ≤ f → pl_cn s 32 ≤ 6 → h ≤ 1 → ch P cl c e h s = if cl = h then cM P c e h s * (CH / wc (pl_cn s 32)) else CH - cM P c e h s * (CH / wc (pl_cn s 32)) := by
  have base : ∀ h s, pl_cn s 32 ≤ 6 → pl_ML P h s = [] → ch P cl c e h s = if cl = h then cM P c e h s * (CH / wc (pl_cn s 32)) else CH - cM P c e h s * (CH / wc (pl_cn s 32)) := by
    intro h s h6 hn
    have wd : wc (pl_cn s 32) * (CH / wc (pl_cn s 32)) = CH := cM_wd ⟨pl_cn s 32, by omega⟩
    rw [ch_eq ok, cM_eq ok, if_pos hn, if_pos hn, chE, Nat.mul_assoc, wd]
    rcases (show e = 0 ∨ e = 1 by omega) with rfl | rfl
    · by_cases c1 : cl = h
      · rw [if_pos c1, decide_eq_true c1, if_neg (by decide), Nat.zero_mul]
      · rw [if_neg c1, decide_eq_false c1, if_pos (by decide), Nat.zero_mul, Nat.sub_zero]
    · by_cases c1 : cl = h
      · rw [if_pos c1, decide_eq_true c1, if_pos (by decide), Nat.one_mul]
      · rw [if_neg c1, decide_eq_false c1, if_neg (by decide), Nat.one_mul, Nat.sub_self]
  intro f
  induction f with
  | zero =>
    intro h s h1 h2 h3
    have hl := ml_len ok hb h s
    exact base h s h2 (List.eq_nil_of_length_eq_zero (by omega))
  | succ f ih =>
    intro h s h1 h2 h3
    by_cases hn : pl_ML P h s = []
    · exact base h s h2 hn
    · have hl := ml_len ok hb h s
      have l1 : 1 ≤ (pl_ML P h s).length := List.length_pos_iff.mpr hn
      have kd : cpt s * (CH / cpt s) = CH := cM_wd ⟨pl_cn s 32 - 1, by omega⟩
      -- one move
      have one : ∀ j, j ∈ pl_ML P h s → cvl P s j (cM P c e (1 - h) (pl_nx P s j)) * (CH / cpt s) = CH - cM P c e (1 - h) (pl_nx P s j) * (CH / wc (pl_cn (pl_nx P s j) 32)) ∧ cM P c e (1 - h) (pl_nx P s j) * (CH / wc (pl_cn (pl_nx P s j) 32)) ≤ CH := by
        intro j hj
        have hj2 := ml_lo hb hj
        have cj := cn_nx ok.1 hj2.1 hj2.2
        have q1 : cpt s / wc (pl_cn (pl_nx P s j) 32) * (CH / cpt s) = CH / wc (pl_cn (pl_nx P s j) 32) := cM_wq ⟨pl_cn s 32 - 1, by omega⟩ ⟨pl_cn (pl_nx P s j) 32, by omega⟩ (by show pl_cn (pl_nx P s j) 32 ≤ pl_cn s 32 - 1; omega)
        have q2 : wc (pl_cn (pl_nx P s j) 32) * (CH / wc (pl_cn (pl_nx P s j) 32)) = CH := cM_wd ⟨pl_cn (pl_nx P s j) 32, by omega⟩
        have q3 := cM_bd ok hb (c := c) (e := e) hc he (1 - h) (pl_nx P s j) (by omega)
        constructor
        · rw [cvl, Nat.sub_mul, kd, Nat.mul_assoc, q1]
        · calc _ ≤ wc (pl_cn (pl_nx P s j) 32) * (CH / wc (pl_cn (pl_nx P s j) 32)) := Nat.mul_le_mul_right _ q3
            _ = CH := q2
      have part : ∀ l' : List Nat, (∀ j, j ∈ l' → j ∈ pl_ML P h s) → (chA P cl c e h s l'.reverse = if cl = h then ((cMA P c e h s l'.reverse).1 * (CH / cpt s), (cMA P c e h s l'.reverse).2 * (CH / cpt s)) else (l'.length * CH - (cMA P c e h s l'.reverse).1 * (CH / cpt s), CH - (cMA P c e h s l'.reverse).2 * (CH / cpt s))) ∧ (cMA P c e h s l'.reverse).1 * (CH / cpt s) ≤ l'.length * CH ∧ (cMA P c e h s l'.reverse).2 * (CH / cpt s) ≤ CH := by
        intro l'
        induction l' with
        | nil =>
          intro _
          refine ⟨?_, by show 0 * _ ≤ _; rw [Nat.zero_mul]; exact Nat.zero_le _, by show 0 * _ ≤ _; rw [Nat.zero_mul]; exact Nat.zero_le _⟩
          show ch0 cl h = if cl = h then (0 * _, 0 * _) else (0 * CH - 0 * _, CH - 0 * _)
          rw [ch0, Nat.zero_mul, Nat.zero_mul, Nat.sub_zero]
          split <;> rfl
        | cons j l' ihl =>
          intro hl2
          obtain ⟨i1, i2, i3⟩ := ihl (fun i hi => hl2 i (List.mem_cons_of_mem _ hi))
          obtain ⟨o1, o2⟩ := one j (hl2 j List.mem_cons_self)
          have hj2 := ml_lo hb (hl2 j List.mem_cons_self)
          have cj := cn_nx ok.1 hj2.1 hj2.2
          have hI := ih (1 - h) (pl_nx P s j) (by omega) (by omega) (by omega)
          rw [List.reverse_cons, chA_c, cMA_c, i1, List.length_cons, Nat.add_mul, Nat.one_mul]
          show chS cl h _ _ = (if cl = h then (((cMA P c e h s l'.reverse).1 + cvl P s j (cM P c e (1 - h) (pl_nx P s j))) * (CH / cpt s), max (cMA P c e h s l'.reverse).2 (cvl P s j (cM P c e (1 - h) (pl_nx P s j))) * (CH / cpt s)) else _) ∧ ((cMA P c e h s l'.reverse).1 + cvl P s j (cM P c e (1 - h) (pl_nx P s j))) * (CH / cpt s) ≤ _ ∧ max (cMA P c e h s l'.reverse).2 (cvl P s j (cM P c e (1 - h) (pl_nx P s j))) * (CH / cpt s) ≤ _
          rw [Nat.add_mul, ← max_mul]
          refine ⟨?_, by rw [o1]; omega, by rw [o1]; exact Nat.max_le.mpr ⟨i3, by omega⟩⟩
          by_cases cc : cl = h
          · rw [if_pos cc, if_pos cc, chS, if_pos cc, hI, if_neg (by omega), ← o1]
          · rw [if_neg cc, if_neg cc, chS, if_neg cc, hI, if_pos (by omega)]
            show (_, _) = (l'.length * CH + CH - ((cMA P c e h s l'.reverse).1 + cvl P s j (cM P c e (1 - h) (pl_nx P s j))) * (CH / cpt s), CH - max (cMA P c e h s l'.reverse).2 (cvl P s j (cM P c e (1 - h) (pl_nx P s j))) * (CH / cpt s))
            rw [Nat.add_mul, ← max_mul, o1]
            refine Prod.ext ?_ ?_
            · show l'.length * CH - _ + _ = _; omega
            · show min (CH - _) _ = CH - max _ _; omega
      obtain ⟨p1, p2, p3⟩ := part (pl_ML P h s).reverse (fun j hj => List.mem_reverse.mp hj)
      rw [List.reverse_reverse, List.length_reverse] at p1
      rw [List.reverse_reverse, List.length_reverse] at p2
      rw [List.reverse_reverse] at p3
      have w1 : CH / cpt s = 10 * aa_le (pl_cn s 32) * (CH / wc (pl_cn s 32)) := (cM_w1 ⟨pl_cn s 32, by omega⟩ (by show 1 ≤ pl_cn s 32; omega)).1
      have w2 : aa_le (pl_cn s 32) = (pl_ML P h s).length * (aa_le (pl_cn s 32) / (pl_ML P h s).length) := cM_le ⟨pl_cn s 32, by omega⟩ ⟨(pl_ML P h s).length, by omega⟩ l1 hl
      rw [ch_eq ok, cM_eq ok, if_neg hn, if_neg hn, p1, cMR]
      generalize hq : aa_le (pl_cn s 32) / (pl_ML P h s).length = qq at *
      rw [w2] at w1
      rw [w1] at p2 p3 ⊢
      rw [w2]
      by_cases cc : cl = h
      · rw [if_pos cc, if_pos cc, chR]
        exact ch_fin1 (by omega)
      · rw [if_neg cc, if_neg cc, chR]
        exact ch_fin2 hc (by omega) p2 p3
end
