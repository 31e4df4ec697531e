/-! HEAPS SIDE BY SIDE: the value of all is the values joined -/
def xs (l : List Nat) (f : Nat → Nat) : Nat := (l.map f).foldl (fun a b => a ^^^ b) 0
theorem xs_fold (l : List Nat) : ∀ a, l.foldl (fun a b => a ^^^ b) a = a ^^^ l.foldl (fun a b => a ^^^ b) 0 := by
  induction l with
  | nil => intro a; simp
  | cons x t ih =>
    intro a
    rw [List.foldl_cons, List.foldl_cons, ih (a ^^^ x), ih (0 ^^^ x), Nat.zero_xor, Nat.xor_assoc]
theorem xs_c (a : Nat) (t : List Nat) (f : Nat → Nat) : xs (a :: t) f = f a ^^^ xs t f := by
  rw [xs, List.map_cons, List.foldl_cons, xs_fold, Nat.zero_xor]; rfl
theorem xs_congr {l : List Nat} {f g : Nat → Nat} (h : ∀ x, x ∈ l → g x = f x) : xs l g = xs l f := by
  rw [xs, xs, List.map_congr_left h]
theorem xs_ch {q : Nat} {f g : Nat → Nat} : ∀ l : List Nat, l.Nodup → q ∈ l → (∀ x, x ∈ l → x ≠ q → g x = f x) → xs l g = xs l f ^^^ (f q ^^^ g q) := by
  intro l
  induction l with
  | nil => intro _ h; simp at h
  | cons a t ih =>
    intro hn hq h
    rw [List.nodup_cons] at hn
    rw [xs_c, xs_c]
    by_cases c : q = a
    · subst c
      have e : xs t g = xs t f := xs_congr (fun x hx => h x (List.mem_cons_of_mem _ hx) (fun e => hn.1 (e ▸ hx)))
      rw [e]
      apply Nat.eq_of_testBit_eq
      intro i
      simp only [Nat.testBit_xor]
      cases (g q).testBit i <;> cases (f q).testBit i <;> cases (xs t f).testBit i <;> rfl
    · have hq' : q ∈ t := by
        rcases List.mem_cons.mp hq with e | e
        · exact absurd e c
        · exact e
      rw [ih hn.2 hq' (fun x hx => h x (List.mem_cons_of_mem _ hx)), h a List.mem_cons_self (fun e => c e.symm), Nat.xor_assoc]
theorem xs_bit {d : Nat} {f : Nat → Nat} : ∀ l : List Nat, (xs l f).testBit d = true → ∃ q, q ∈ l ∧ (f q).testBit d = true := by
  intro l
  induction l with
  | nil => intro h; simp [xs] at h
  | cons a t ih =>
    intro h
    rw [xs_c, Nat.testBit_xor] at h
    cases c : (f a).testBit d with
    | true => exact ⟨a, List.mem_cons_self, c⟩
    | false =>
      rw [c] at h
      obtain ⟨q, h1, h2⟩ := ih (by simpa using h)
      exact ⟨q, List.mem_cons_of_mem _ h1, h2⟩
theorem bb_lt_bit {x y : Nat} (i : Nat) (hx : x.testBit i = false) (hy : y.testBit i = true) (h : ∀ j, i < j → x.testBit j = y.testBit j) : x < y := by
  have e : x >>> (i + 1) = y >>> (i + 1) := by
    apply bb_ext
    intro j
    rw [Nat.testBit_shiftRight, Nat.testBit_shiftRight, h _ (by omega)]
  rw [Nat.shiftRight_eq_div_pow, Nat.shiftRight_eq_div_pow] at e
  have h1 : x % 2 ^ (i + 1) < 2 ^ i := by
    apply bb_lt
    intro j hj
    rw [Nat.testBit_mod_two_pow]
    by_cases c : j = i
    · rw [c, hx]; simp
    · simp [show ¬ j < i + 1 by omega]
  have h2 : 2 ^ i ≤ y % 2 ^ (i + 1) := by
    apply Classical.byContradiction
    intro c
    have := bb_hi (k := i) (a := y % 2 ^ (i + 1)) (by omega) (Nat.le_refl i)
    rw [Nat.testBit_mod_two_pow, hy] at this
    simp at this
  have d1 := Nat.div_add_mod x (2 ^ (i + 1))
  have d2 := Nat.div_add_mod y (2 ^ (i + 1))
  rw [e] at d1
  omega
theorem top5 : ∀ D : Fin 32, D.val ≠ 0 → ∃ d : Fin 5, D.val.testBit d.val = true ∧ ∀ j : Fin 5, d < j → D.val.testBit j.val = false := by decide
theorem xs_lt {l : List Nat} {f : Nat → Nat} {y : Nat} (h32 : xs l f < 32) (hy : y < xs l f) : ∃ q, q ∈ l ∧ f q ^^^ (xs l f ^^^ y) < f q := by
  have hD : xs l f ^^^ y < 32 := Nat.xor_lt_two_pow (n := 5) h32 (by omega)
  have h0 : xs l f ^^^ y ≠ 0 := fun e => by
    have : xs l f = y := by
      apply Nat.eq_of_testBit_eq
      intro i
      have e2 := congrArg (fun z => z.testBit i) e
      simp only [Nat.testBit_xor, Nat.zero_testBit] at e2
      cases h1 : (xs l f).testBit i <;> cases h2 : y.testBit i <;> rw [h1, h2] at e2 <;> first | rfl | exact absurd e2 (by decide)
    omega
  obtain ⟨d, h1, h2⟩ := top5 ⟨xs l f ^^^ y, hD⟩ h0
  have h3 : ∀ j, d.val < j → (xs l f ^^^ y).testBit j = false := by
    intro j hj
    by_cases c : j < 5
    · exact h2 ⟨j, c⟩ hj
    · exact bb_hi (k := 5) hD (by omega)
  have hX : (xs l f).testBit d.val = true := by
    cases c : (xs l f).testBit d.val with
    | true => rfl
    | false =>
      simp only [Nat.testBit_xor] at h1
      rw [c] at h1
      have : xs l f < y := bb_lt_bit d.val c (by simpa using h1) (fun j hj => by
        have := h3 j hj
        rw [Nat.testBit_xor] at this
        cases a1 : (xs l f).testBit j <;> cases a2 : y.testBit j <;> rw [a1, a2] at this <;> first | rfl | exact absurd this (by decide))
      omega
  obtain ⟨q, hq, hb⟩ := xs_bit l hX
  refine ⟨q, hq, bb_lt_bit d.val ?_ hb (fun j hj => ?_)⟩
  · rw [Nat.testBit_xor, hb]
    simp only at h1
    rw [h1]; rfl
  · rw [Nat.testBit_xor, h3 j hj]; simp
theorem vx_xs (P : pl_T) (hs : List Nat) (s : Nat) : vx P hs s = xs hs (fun q => vl P (hst P s q)) := by
  rw [vx, vxk, List.take_length]; rfl
/-- heaps: they share nothing, and whatever touches one of them is in it -/
def HP (P : pl_T) (hs : List Nat) : Prop := hs.Nodup ∧ (∀ q, q ∈ hs → q < 2 ^ pl_n P ∧ ∀ i j, i < pl_n P → j < pl_n P → (pl_u P i).testBit j = true → q.testBit i = q.testBit j) ∧ (∀ i, i < pl_n P → ∃ q, q ∈ hs ∧ q.testBit i = true) ∧ ∀ q q', q ∈ hs → q' ∈ hs → q ≠ q' → ∀ i, q.testBit i = true → q'.testBit i = false
section
variable {P : pl_T} {hs : List Nat}
def jh (P : pl_T) (q j : Nat) : Bool := if j < pl_n P then q.testBit j else q.testBit (pl_k P (j - pl_n P))
theorem hst_bit {s q : Nat} (hq : q < 2 ^ pl_n P) (hs2 : s < 2 ^ (pl_n P + pl_b P)) (i : Nat) : (hst P s q).testBit i = if i < pl_n P then s.testBit i && q.testBit i else if i < pl_n P + pl_b P then s.testBit i || !q.testBit (pl_k P (i - pl_n P)) else false := by
  rw [hst, Nat.testBit_or, bd_bit, Nat.testBit_and, pl_hm, Nat.testBit_or, bm_bit, Nat.testBit_shiftLeft, Nat.testBit_two_pow_sub_one]
  by_cases c : i < pl_n P
  · simp [c, show ¬ pl_n P ≤ i by omega]
  · rw [if_neg c, bb_hi hq (by omega)]
    by_cases c2 : i < pl_n P + pl_b P
    · rw [if_pos c2]
      simp only [c2, show pl_n P ≤ i by omega, show i - pl_n P < pl_b P by omega, ge_iff_le, decide_true, Bool.true_and, Bool.false_or]
      cases s.testBit i <;> cases q.testBit (pl_k P (i - pl_n P)) <;> rfl
    · rw [if_neg c2, bb_hi hs2 (by omega)]
      simp [show ¬ i - pl_n P < pl_b P by omega]
theorem cl_q {q : Nat} (ok : pl_ok P) (hc : ∀ i j, i < pl_n P → j < pl_n P → (pl_u P i).testBit j = true → q.testBit i = q.testBit j) {j i : Nat} (hj : j < pl_n P) (h : (pl_cl P j).testBit i = true) : q.testBit i = q.testBit j := by
  rw [pl_cl, Nat.testBit_or, bb_tp, pl_ab, bm_bit] at h
  have key : ∀ i, i < pl_n P → pl_A (pl_u P) j i = true → q.testBit i = q.testBit j := by
    intro i
    induction i using Nat.strongRecOn with
    | ind i ih =>
      intro hi hA
      obtain ⟨k, hk, hu, hk2⟩ := (pl_A_iff _ _ _).mp hA
      rw [hc i k hi (by omega) hu]
      rcases hk2 with rfl | hk2
      · rfl
      · exact ih k hk (by omega) hk2
  by_cases c : j = i
  · rw [c]
  · simp [c] at h
    exact key i h.1 h.2
theorem lg_hst (ok : pl_ok P) {s q j : Nat} (hq : q < 2 ^ pl_n P) (hc : ∀ i j, i < pl_n P → j < pl_n P → (pl_u P i).testBit j = true → q.testBit i = q.testBit j) (hs2 : s < 2 ^ (pl_n P + pl_b P)) (hj : j < pl_n P + pl_b P) : pl_lg P 3 (hst P s q) j = (pl_lg P 3 s j && jh P q j) := by
  rw [pl_lg, pl_lg, jh]
  by_cases c : j < pl_n P
  · rw [if_pos c, if_pos c, if_pos c, hst_bit hq hs2, if_pos c]; simp
  · rw [if_neg c, if_neg c, if_neg c]
    have hk := ok.2.2.2.2.1 (j - pl_n P) (by omega)
    have hu := (ok.2.2.1 _ hk).2.2.2
    rw [hst_bit hq hs2, hst_bit hq hs2, if_pos hk, if_neg c, if_pos hj]
    cases e : q.testBit (pl_k P (j - pl_n P)) with
    | false => simp
    | true =>
      have e2 : (bd (pl_u P (pl_k P (j - pl_n P))) (hst P s q) = 0) = (bd (pl_u P (pl_k P (j - pl_n P))) s = 0) := by
        have e3 : bd (pl_u P (pl_k P (j - pl_n P))) (hst P s q) = bd (pl_u P (pl_k P (j - pl_n P))) s := by
          apply bb_ext
          intro i
          rw [bd_bit, bd_bit, hst_bit hq hs2]
          cases f : (pl_u P (pl_k P (j - pl_n P))).testBit i with
          | false => rfl
          | true =>
            have hi : i < pl_k P (j - pl_n P) := by
              apply Classical.byContradiction
              intro g
              rw [bb_hi hu (by omega)] at f
              exact absurd f (by decide)
            rw [if_pos (by omega), ← hc _ i hk (by omega) f, e]; simp
        rw [e3]
      simp only [e2]; simp
theorem nx_hst (ok : pl_ok P) {s q j : Nat} (hq : q < 2 ^ pl_n P) (hs2 : s < 2 ^ (pl_n P + pl_b P)) (hj : j < pl_n P + pl_b P) (hh : jh P q j = true) : hst P (pl_nx P s j) q = pl_nx P (hst P s q) j := by
  have hn2 := pl_nx_lt ok hs2 hj
  apply bb_ext
  intro i
  rw [hst_bit hq hn2, pl_nx, pl_nx]
  rw [jh] at hh
  by_cases c : j < pl_n P
  · rw [if_pos c, if_pos c, bd_bit, bd_bit, hst_bit hq hs2]
    have hc : pl_cl P j < 2 ^ pl_n P := bb_or (pl_ab_lt P j) (bb_p2 c)
    by_cases c1 : i < pl_n P
    · rw [if_pos c1, if_pos c1]
      cases s.testBit i <;> cases q.testBit i <;> simp
    · rw [if_neg c1, if_neg c1, bb_hi hc (by omega)]
      by_cases c2 : i < pl_n P + pl_b P
      · rw [if_pos c2, if_pos c2]; simp
      · rw [if_neg c2, if_neg c2]; simp
  · rw [if_neg c] at hh
    have hk := ok.2.2.2.2.1 (j - pl_n P) (by omega)
    rw [if_neg c, if_neg c, Nat.testBit_or, Nat.testBit_or, hst_bit hq hs2, pl_st, Nat.testBit_or, bb_tp, bb_tp]
    by_cases c1 : i < pl_n P
    · rw [if_pos c1, if_pos c1]
      simp only [show ¬ j = i by omega, decide_false, Bool.or_false]
      by_cases c3 : pl_k P (j - pl_n P) = i
      · rw [← c3, hh]; simp
      · simp [c3]
    · rw [if_neg c1, if_neg c1]
      simp only [show ¬ pl_k P (j - pl_n P) = i by omega, decide_false, Bool.false_or]
      by_cases c2 : i < pl_n P + pl_b P
      · rw [if_pos c2, if_pos c2]
        cases s.testBit i <;> cases (decide (j = i)) <;> simp
      · rw [if_neg c2, if_neg c2]
        simp [show ¬ j = i by omega]
theorem nx_hst0 (ok : pl_ok P) {s q j : Nat} (hq : q < 2 ^ pl_n P) (hc : ∀ i j, i < pl_n P → j < pl_n P → (pl_u P i).testBit j = true → q.testBit i = q.testBit j) (hs2 : s < 2 ^ (pl_n P + pl_b P)) (hj : j < pl_n P + pl_b P) (hh : jh P q j = false) : hst P (pl_nx P s j) q = hst P s q := by
  have hn2 := pl_nx_lt ok hs2 hj
  apply bb_ext
  intro i
  rw [hst_bit hq hn2, hst_bit hq hs2, pl_nx]
  rw [jh] at hh
  by_cases c : j < pl_n P
  · rw [if_pos c] at hh
    rw [if_pos c, bd_bit]
    have hcl : pl_cl P j < 2 ^ pl_n P := bb_or (pl_ab_lt P j) (bb_p2 c)
    by_cases c1 : i < pl_n P
    · rw [if_pos c1, if_pos c1]
      cases e : (pl_cl P j).testBit i with
      | false => simp
      | true => rw [cl_q ok hc c e, hh]; simp
    · rw [if_neg c1, if_neg c1, bb_hi hcl (by omega)]; simp
  · rw [if_neg c] at hh
    have hk := ok.2.2.2.2.1 (j - pl_n P) (by omega)
    rw [if_neg c, Nat.testBit_or, pl_st, Nat.testBit_or, bb_tp, bb_tp]
    by_cases c1 : i < pl_n P
    · rw [if_pos c1, if_pos c1]
      simp only [show ¬ j = i by omega, decide_false, Bool.or_false]
      by_cases c3 : pl_k P (j - pl_n P) = i
      · rw [← c3, hh]; simp
      · simp [c3]
    · rw [if_neg c1, if_neg c1]
      simp only [show ¬ pl_k P (j - pl_n P) = i by omega, decide_false, Bool.false_or]
      by_cases c2 : i < pl_n P + pl_b P
      · rw [if_pos c2, if_pos c2]
        by_cases c3 : j = i
        · rw [← c3, hh]; simp
        · simp [c3]
      · rw [if_neg c2, if_neg c2]
theorem vl_mem (ok : pl_ok P) {s j : Nat} (hl : pl_lg P 3 s j = true) : vl P (pl_nx P s j) ≠ vl P s := by
  intro e
  have h := (lz_spec (vlb P s (pl_n P + pl_b P))).1
  rw [← vl_eq ok, vlb, orB_bit] at h
  simp only [Nat.zero_testBit, Bool.false_or, decide_eq_false_iff_not] at h
  exact h (List.mem_map.mpr ⟨j, pl_ML_mem.mpr hl, e⟩)
theorem vl_get (ok : pl_ok P) {s y : Nat} (hy : y < vl P s) : ∃ j, pl_lg P 3 s j = true ∧ vl P (pl_nx P s j) = y := by
  have h := (lz_spec (vlb P s (pl_n P + pl_b P))).2 y (by rw [← vl_eq ok]; exact hy)
  rw [vlb, orB_bit] at h
  simp only [Nat.zero_testBit, Bool.false_or, decide_eq_true_eq] at h
  obtain ⟨j, hj, e⟩ := List.mem_map.mp h
  exact ⟨j, pl_ML_mem.mp hj, e⟩
theorem sg (ok : pl_ok P) (hH : HP P hs) : ∀ m s, pl_mu P s ≤ m → s < 2 ^ (pl_n P + pl_b P) → vx P hs s = vl P s := by
  obtain ⟨hnd, hq, hcov, hdis⟩ := hH
  intro m
  induction m using Nat.strongRecOn with
  | ind m ih =>
    intro s hm hs2
    have h32 : xs hs (fun q => vl P (hst P s q)) < 32 := by
      rw [← vx_xs]; exact vxk_lt ok hs s _
    -- a step changes one heap's value only
    have step : ∀ j q, j < pl_n P + pl_b P → pl_lg P 3 s j = true → q ∈ hs → jh P q j = true → vl P (pl_nx P s j) = xs hs (fun q => vl P (hst P s q)) ^^^ (vl P (hst P s q) ^^^ vl P (pl_nx P (hst P s q) j)) := by
      intro j q hj hl hqm hh
      have mu := pl_mu_lt ok hl
      rw [← ih (pl_mu P (pl_nx P s j)) (by omega) (pl_nx P s j) (Nat.le_refl _) (pl_nx_lt ok hs2 hj), vx_xs]
      have e := xs_ch (q := q) (f := fun q => vl P (hst P s q)) (g := fun q => vl P (hst P (pl_nx P s j) q)) hs hnd hqm (fun x hx hxq => by
        show vl P (hst P (pl_nx P s j) x) = vl P (hst P s x)
        rw [nx_hst0 ok (hq x hx).1 (hq x hx).2 hs2 hj]
        rw [jh] at hh ⊢
        split
        · rename_i c
          rw [if_pos c] at hh
          exact hdis q x hqm hx (fun e => hxq e.symm) j hh
        · rename_i c
          rw [if_neg c] at hh
          exact hdis q x hqm hx (fun e => hxq e.symm) _ hh)
      rw [e]
      show _ = _ ^^^ (_ ^^^ vl P (pl_nx P (hst P s q) j))
      rw [← nx_hst ok (hq q hqm).1 hs2 hj hh]
    rw [vl_eq ok, vx_xs]
    symm
    apply lz_eq
    · rw [vlb, orB_bit]
      simp only [Nat.zero_testBit, Bool.false_or, decide_eq_false_iff_not]
      intro h
      obtain ⟨j, hj, e⟩ := List.mem_map.mp h
      have hl := pl_ML_mem.mp hj
      have hjl := pl_lg_lt hl
      have : ∃ q, q ∈ hs ∧ jh P q j = true := by
        unfold jh
        by_cases c : j < pl_n P
        · simp only [if_pos c]; exact hcov j c
        · simp only [if_neg c]; exact hcov _ (ok.2.2.2.2.1 (j - pl_n P) (by omega))
      obtain ⟨q, hqm, hh⟩ := this
      rw [step j q hjl hl hqm hh] at e
      have hl2 : pl_lg P 3 (hst P s q) j = true := by rw [lg_hst ok (hq q hqm).1 (hq q hqm).2 hs2 hjl, hl, hh]; rfl
      refine vl_mem ok hl2 ?_
      apply Nat.eq_of_testBit_eq
      intro i
      have e2 := congrArg (fun z => z.testBit i) e
      simp only [Nat.testBit_xor] at e2
      generalize (xs hs (fun q => vl P (hst P s q))).testBit i = a1 at e2
      generalize (vl P (hst P s q)).testBit i = a2 at e2 ⊢
      generalize (vl P (pl_nx P (hst P s q) j)).testBit i = a3 at e2 ⊢
      cases a1 <;> cases a2 <;> cases a3 <;> first | rfl | exact absurd e2 (by decide)
    · intro y hy
      obtain ⟨q, hqm, hlt⟩ := xs_lt h32 hy
      obtain ⟨j, hl2, e⟩ := vl_get ok hlt
      have hjl := pl_lg_lt hl2
      rw [lg_hst ok (hq q hqm).1 (hq q hqm).2 hs2 hjl, Bool.and_eq_true] at hl2
      rw [vlb, orB_bit]
      simp only [Nat.zero_testBit, Bool.false_or, decide_eq_true_eq]
      refine List.mem_map.mpr ⟨j, pl_ML_mem.mpr hl2.1, ?_⟩
      rw [step j q hjl hl2.1 hqm hl2.2, e]
      apply Nat.eq_of_testBit_eq
      intro i
      simp only [Nat.testBit_xor]
      generalize (xs hs (fun q => vl P (hst P s q))).testBit i = a1
      generalize (vl P (hst P s q)).testBit i = a2
      cases a1 <;> cases a2 <;> cases y.testBit i <;> rfl
end
