/-! THE WORDS OF THE THROWS, AT THE LAW'S ENTRY AND EVER AFTER -/
def ee_look (q : Nat × Nat) : Option Cond := match q.1 with
  | 0 => ee_at2[q.2]?
  | 1 => tables_1_1[q.2]?
  | 6 => tables_1_6[q.2]?
  | _ => none
theorem ee_look_in {q : Nat × Nat} {w : Cond} (h : ee_look q = some w) : w ∈ lw_tbl ∨ (q.1 = 0 ∧ ee_at2[q.2]? = some w) := by
  obtain ⟨k, i⟩ := q
  unfold ee_look at h
  match k, h with
  | 0, h => exact Or.inr ⟨rfl, h⟩
  | 1, h => exact Or.inl (aa_t1 i h)
  | 2, h => cases h
  | 3, h => cases h
  | 4, h => cases h
  | 5, h => cases h
  | 6, h => exact Or.inl (aa_t6 i h)
  | k + 7, h => cases h
def ee_sp : Cond → Bool
  | .stringRef .. => true
  | .castable .. => true
  | .declares .. => true
  | .laysStatic .. => true
  | w => goodWord w
theorem ee_sp_of {w : Cond} (h : ee_sp w = true) : (∃ o i t, w = .stringRef o i t) ∨ (∃ a b, w = .castable a b) ∨ (∃ x, w = .declares x) ∨ (∃ C n d, w = .laysStatic C n d) ∨ goodWord w = true := by
  by_cases hg : goodWord w = true
  · exact Or.inr (Or.inr (Or.inr (Or.inr hg)))
  · cases w <;> first
      | exact Or.inl ⟨_, _, _, rfl⟩
      | exact Or.inr (Or.inl ⟨_, _, rfl⟩)
      | exact Or.inr (Or.inr (Or.inl ⟨_, rfl⟩))
      | exact Or.inr (Or.inr (Or.inr (Or.inl ⟨_, _, _, rfl⟩)))
      | exact absurd h hg
def ee_ix (k : Nat) : List (Nat × Nat) := [(6, 17), (6, 18), (1, 18), (6, k), (6, 57), (6, 19), (1, 15), (6, 39), (6, 48), (6, 50), (6, 53), (6, 55), (6, 40), (6, 41), (1, 27), (1, 28), (6, 42), (6, 47), (6, 51), (6, 71), (6, 29), (6, 72), (6, 31), (6, 73), (6, 33), (6, 43), (6, 44), (6, 45), (6, 46), (6, 35), (6, 67), (6, 68), (6, 70), (6, 35), (6, 58), (6, 59), (6, 60), (6, 61), (6, 21), (6, 61), (6, 62), (6, 63), (6, 64), (6, 23), (6, 64), (6, 65), (6, 66), (6, 67), (6, 25), (6, 26), (6, 27), (6, 28), (6, 30), (6, 32), (6, 34), (0, 6), (0, 7), (6, 38), (6, 37), (6, 36)]
theorem ee_ix1 : ee_w1.map some = (ee_ix 56).map ee_look := by rfl
theorem ee_ix2 : ee_w2.map some = (ee_ix 100).map ee_look := by rfl
theorem ee_all1 : (ee_ix 56).all (fun q => q.1 == 0 || (ee_look q).all ee_sp) = true := by decide +kernel
theorem ee_all2 : (ee_ix 100).all (fun q => q.1 == 0 || (ee_look q).all ee_sp) = true := by decide +kernel
theorem ee_z1 : ∀ q ∈ ee_ix 56, q.1 = 0 → q.2 = 6 ∨ q.2 = 7 := by decide
theorem ee_z2 : ∀ q ∈ ee_ix 100, q.1 = 0 → q.2 = 6 ∨ q.2 = 7 := by decide
section
variable {s : State} {args : Array Value}
/-- a word of the tables holds wherever the tables are warmer and the old cells as they were -/
theorem st_word {U : State} (hts : ∀ w ∈ lw_tbl, w.before args s = true) (hW : s.WarmedH U.vm) (hq : ∀ q, q < s.heap.size → U.heap[q]? = s.heap[q]?) {w : Cond} (hw : w ∈ lw_tbl) (hk : ee_sp w = true) (args' : Array Value) : w.before args' U = true := by
  have h0 := hts w hw
  rcases ee_sp_of hk with ⟨o, i, t, rfl⟩ | ⟨a, b, rfl⟩ | ⟨x, rfl⟩ | ⟨C, n, d, rfl⟩ | hg
  · have h2 := Cond.stringRef_warmed hW h0
    simp only [Cond.before, Cond.holds, Cond.value] at h2 ⊢
    exact h2
  · exact (va_Nw.warmC hW (va_Nw.of rfl h0)).use rfl
  · exact (va_Nw.warmD hW (va_Nw.of rfl h0)).use rfl
  · exact st_lays hW hq h0 args'
  · exact word_at hW (good_of_word hg) h0
theorem st_ws {ws : List Cond} {ix : List (Nat × Nat)} (hx : ws.map some = ix.map ee_look) (ha : ix.all (fun q => q.1 == 0 || (ee_look q).all ee_sp) = true) (hz : ∀ q ∈ ix, q.1 = 0 → q.2 = 6 ∨ q.2 = 7) {U : State} (hts : ∀ w ∈ lw_tbl, w.before args s = true) (hn : (Jvm.Cond.and given_1 narrow_1).before args s = true) (hW : s.WarmedH U.vm) (hq : ∀ q, q < s.heap.size → U.heap[q]? = s.heap[q]?) (args' : Array Value) : ∀ w ∈ ws, w.before args' U = true := by
  intro w hw
  have hs := flat_of_before _ hn
  have h1 : some w ∈ ix.map ee_look := by rw [← hx]; exact List.mem_map_of_mem hw
  obtain ⟨q, q1, q2⟩ := List.mem_map.mp h1
  have hk := List.all_eq_true.mp ha q q1
  by_cases h0 : q.1 = 0
  · have h3 : ee_at2[q.2]? = some w := by
      obtain ⟨k, i⟩ := q
      cases h0
      exact q2
    rcases hz q q1 h0 with e | e
    · rw [e] at h3
      cases h3
      exact st_isr hW hq (hts _ (aa_t6 44 rfl)) (hs _ (by decide +kernel)) args'
    · rw [e] at h3
      cases h3
      exact st_isr hW hq (hts _ (aa_t6 46 rfl)) (hs _ (by decide +kernel)) args'
  · rcases ee_look_in q2 with h2 | ⟨h2, -⟩
    · rw [q2] at hk
      exact st_word hts hW hq h2 (by simpa [h0] using hk) args'
    · exact absurd h2 h0
theorem st_EK (hts : ∀ w ∈ lw_tbl, w.before args s = true) (hn : (Jvm.Cond.and given_1 narrow_1).before args s = true) : ee_K s.heap.size s := fun U hW hq args' =>
  ⟨st_ws ee_ix1 ee_all1 ee_z1 hts hn hW hq args', st_ws ee_ix2 ee_all2 ee_z2 hts hn hW hq args'⟩
end
