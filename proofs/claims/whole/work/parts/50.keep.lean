/-! PARROTS: whose a parrot becomes -/
def kpS (lk h : Nat) (a : Nat × Nat) (x : Nat × Nat) : Nat × Nat := if a.1 < lkd lk h x.2 then (lkd lk h x.2, x.2) else a
def kpG (lk : Nat) (h _ : Nat) (l : List (Nat × Nat)) : Nat := if l.isEmpty then nx3 (nx3 h) else (l.foldl (kpS lk h) (0, h)).2
def kp (P : pl_T) (lk h s : Nat) : Nat := gv P (kpG lk) nx3 0 h s
def kpA (P : pl_T) (lk h s k : Nat) : Nat × Nat := ((mlk P h s k).map (fun j => (j, kp P lk (nx3 h) (pl_nx P s j)))).foldl (kpS lk h) (0, h)
section
variable {P : pl_T} {lk : Nat}
theorem kpA_t {h s k : Nat} (hl : pl_lg P h s k = true) : kpA P lk h s (k + 1) = kpS lk h (kpA P lk h s k) (k, kp P lk (nx3 h) (pl_nx P s k)) := by
  rw [kpA, mlk_t hl, List.map_append, List.foldl_append]; rfl
theorem kpA_f {h s k : Nat} (hl : pl_lg P h s k = false) : kpA P lk h s (k + 1) = kpA P lk h s k := by
  rw [kpA, mlk_f hl]; rfl
theorem kp_eq (ok : pl_ok P) (h s : Nat) : kp P lk h s = if pl_mv P h s = 0 then nx3 (nx3 h) else (kpA P lk h s (pl_n P + pl_b P)).2 := by
  rw [kp, gv_eq ok, kpG]
  by_cases c : pl_mv P h s = 0
  · rw [if_pos c, mv_0.mp c]; rfl
  · rw [if_neg c]
    have : ((pl_ML P h s).map (fun j => (j, gv P (kpG lk) nx3 0 (nx3 h) (pl_nx P s j)))).isEmpty = false := by
      cases e : pl_ML P h s with
      | nil => exact absurd (mv_0.mpr e) c
      | cons a l => rfl
    rw [this]; rfl
theorem lkd_le (lk h k : Nat) : lkd lk h k ≤ 2 := by
  unfold lkd
  split
  · omega
  · split <;> omega
theorem kp_le (ok : pl_ok P) : ∀ m h s, pl_mu P s ≤ m → h ≤ 2 → kp P lk h s ≤ 2 := by
  intro m
  induction m using Nat.strongRecOn with
  | ind m ih =>
    intro h s hm hh
    rw [kp_eq ok]
    split
    · exact nx3_le (nx3_le hh)
    · have inv : ∀ k, k ≤ pl_n P + pl_b P → (kpA P lk h s k).2 ≤ 2 := by
        intro k
        induction k with
        | zero => intro _; exact hh
        | succ k ihk =>
          intro hk
          have i1 := ihk (by omega)
          cases hl : pl_lg P h s k with
          | false => rw [kpA_f hl]; exact i1
          | true =>
            have mu := pl_mu_lt ok hl
            have := ih (pl_mu P (pl_nx P s k)) (by omega) (nx3 h) (pl_nx P s k) (Nat.le_refl _) (nx3_le hh)
            rw [kpA_t hl, kpS]
            split
            · exact this
            · exact i1
      exact inv _ (Nat.le_refl _)
theorem kp_2 (ok : pl_ok P) {h : Nat} (hh : h ≤ 2) (s : Nat) : kp P lk h s ≤ 2 := kp_le ok _ h s (Nat.le_refl _) hh
theorem kpA_le (ok : pl_ok P) {h : Nat} (hh : h ≤ 2) (s : Nat) : ∀ k, (kpA P lk h s k).1 ≤ 2 ∧ (kpA P lk h s k).2 ≤ 2
  | 0 => ⟨by show 0 ≤ 2; omega, hh⟩
  | k + 1 => by
    have ih := kpA_le ok hh s k
    cases hl : pl_lg P h s k with
    | false => rw [kpA_f hl]; exact ih
    | true =>
      rw [kpA_t hl, kpS]
      split
      · exact ⟨lkd_le _ _ _, kp_2 ok (nx3_le hh) _⟩
      · exact ih
/-- whoever likes one best looks no further -/
theorem kpA_stop {h s k : Nat} (h2 : 2 ≤ (kpA P lk h s k).1) : ∀ d, kpA P lk h s (k + d) = kpA P lk h s k
  | 0 => rfl
  | d + 1 => by
    have ih := kpA_stop h2 d
    rw [show k + (d + 1) = k + d + 1 by omega]
    cases hl : pl_lg P h s (k + d) with
    | false => rw [kpA_f hl, ih]
    | true =>
      rw [kpA_t hl, ih, kpS, if_neg]
      have := lkd_le lk h (kp P lk (nx3 h) (pl_nx P s (k + d)))
      show ¬ (kpA P lk h s k).1 < lkd lk h (kp P lk (nx3 h) (pl_nx P s (k + d)))
      omega
end
/-- whether h, who plays against k alone, gets away -/
def esG (_ _ : Nat) (l : List (Nat × Bool)) : Bool := if l.isEmpty then true else l.any (fun x => !x.2)
def es (P : pl_T) (h k s : Nat) : Bool := gv P esG (fun x => h + k - x) false h s
theorem es_eq {P : pl_T} (ok : pl_ok P) (h k s : Nat) : es P h k s = if pl_mv P h s = 0 then true else (pl_ML P h s).any (fun j => !es P k h (pl_nx P s j)) := by
  rw [es, gv_eq ok, esG, Nat.add_sub_cancel_left]
  by_cases c : pl_mv P h s = 0
  · rw [if_pos c, mv_0.mp c]; rfl
  · rw [if_neg c]
    have : ((pl_ML P h s).map (fun j => (j, gv P esG (fun x => h + k - x) false k (pl_nx P s j)))).isEmpty = false := by
      cases e : pl_ML P h s with
      | nil => exact absurd (mv_0.mpr e) c
      | cons a l => rfl
    rw [this, List.any_map, Nat.add_comm h k]; rfl
