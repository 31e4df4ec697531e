/-! THE REFERENCE: changes, as the class has them -/
theorem rfirst {α : Type} {G : Nat → Option α} {b : α} : ∀ {K : Nat}, (List.range K).findSome? G = some b ↔ ∃ k, k < K ∧ G k = some b ∧ ∀ j, j < k → G j = none
  | 0 => by
    constructor
    · intro h; simp at h
    · rintro ⟨k, h, -⟩; omega
  | K + 1 => by
    have ih := rfirst (G := G) (b := b) (K := K)
    constructor
    · intro h
      cases q : (List.range K).findSome? G with
      | none =>
        rw [rsome_n q] at h
        refine ⟨K, by omega, h, fun j hj => ?_⟩
        rw [List.findSome?_eq_none_iff] at q
        exact q j (List.mem_range.mpr hj)
      | some b' =>
        rw [rsome_d (Nat.le_succ K) q] at h
        cases h
        obtain ⟨k, h1, h2, h3⟩ := ih.mp q
        exact ⟨k, by omega, h2, h3⟩
    · rintro ⟨k, h1, h2, h3⟩
      by_cases c : k = K
      · subst c
        have q : (List.range k).findSome? G = none := by
          rw [List.findSome?_eq_none_iff]
          intro j hj
          exact h3 j (List.mem_range.mp hj)
        rw [rsome_n q]; exact h2
      · exact rsome_d (Nat.le_succ K) (ih.mpr ⟨k, by omega, h2, h3⟩)
/-- only what a rising numbering names counts -/
theorem rs_img {α : Type} {F : Nat → Option α} {f : Nat → Nat} {K N : Nat} (hm : ∀ i j, i < j → j < K → f i < f j) (hN : ∀ i, i < K → f i < N) (hF : ∀ c, c < N → (∀ i, i < K → f i ≠ c) → F c = none) : (List.range N).findSome? F = (List.range K).findSome? (fun k => F (f k)) := by
  cases h : (List.range K).findSome? (fun k => F (f k)) with
  | none =>
    rw [List.findSome?_eq_none_iff] at h ⊢
    intro c hc
    rw [List.mem_range] at hc
    by_cases q : ∃ i, i < K ∧ f i = c
    · obtain ⟨i, h1, rfl⟩ := q
      exact h i (List.mem_range.mpr h1)
    · exact hF c hc (fun i hi e => q ⟨i, hi, e⟩)
  | some b =>
    obtain ⟨k, h1, h2, h3⟩ := rfirst.mp h
    refine rfirst.mpr ⟨f k, hN k h1, h2, fun c hc => ?_⟩
    by_cases q : ∃ i, i < K ∧ f i = c
    · obtain ⟨i, hi, rfl⟩ := q
      refine h3 i ?_
      rcases Nat.lt_trichotomy i k with x | x | x
      · exact x
      · subst x; omega
      · have := hm k i x hi; omega
    · exact hF c (by have := hN k h1; omega) (fun i hi e => q ⟨i, hi, e⟩)
theorem find_some {p : Nat → Bool} : ∀ l : List Nat, l.find? p = l.findSome? (fun x => if p x then some x else none)
  | [] => rfl
  | x :: l => by
    rw [List.find?_cons, List.findSome?_cons, find_some l]
    cases p x <;> rfl
theorem fS_map {α β : Type} (h : α → β) (G : Nat → Option α) : ∀ l : List Nat, (l.findSome? G).map h = l.findSome? (fun x => (G x).map h)
  | [] => rfl
  | x :: l => by
    rw [List.findSome?_cons, List.findSome?_cons]
    cases G x with
    | none => exact fS_map h G l
    | some y => rfl
theorem rf_img {p : Nat → Bool} {f : Nat → Nat} {K N : Nat} (hm : ∀ i j, i < j → j < K → f i < f j) (hN : ∀ i, i < K → f i < N) (hF : ∀ c, c < N → (∀ i, i < K → f i ≠ c) → p c = false) : (List.range N).find? p = ((List.range K).find? (fun k => p (f k))).map f := by
  rw [find_some, find_some, fS_map, rs_img hm hN (fun c hc h => by rw [hF c hc h]; rfl)]
  congr 1
  funext k
  cases p (f k) <;> rfl
section
variable {P : pl_T} {T e w : Nat}
theorem tnC_zz (h8 : pl_cn T 14 ≤ 8) (hT : T < 2 ^ 14) {p x y : Nat} (hx : vd T x) (hy : vd T y) : tnC P T e w p x y = (zz P e w (ex T p) (lf (ex T p) (mp T x)) (lf (ex T p) (mp T y)) != zz P e w T 15 15) := by
  rw [tnC, ccB, cc1, mp_min h8 (vd_lfC hx) (vd_lfC hy), mp_max h8 (vd_lfC hx) (vd_lfC hy), mp_lfC h8 hx, mp_lfC h8 hy, cc1, mp_9, ex_all hT, zz, zz, Nat.min_self, Nat.max_self]
theorem nm_ok (h8 : pl_cn T 14 ≤ 8) (hT : T < 2 ^ pl_n P) {c : Nat} (hc : c < kdC T) (p : Nat) : isC (nmC T c) ∧ mp T (lyC T c) = lay (nmC T c) ∧ ex T (pbC P T p c) = rmv P (nmC T c) (ex T p) ∧ stC T p c = lgC P (ex T p) (nmC T c) := by
  rw [kdC] at hc
  by_cases c1 : c < pl_cn T 14
  · have f1 := fk_mem c1
    have f2 := fk_n hT c1
    have l20 : fk T c < 20 := by omega
    refine ⟨?_, ?_, ?_, ?_⟩
    · rw [nmC, if_pos c1]; exact Or.inl f1.1
    · rw [lyC, if_pos c1, nmC, if_pos c1, lay, if_pos l20]; rfl
    · rw [pbC, if_pos c1, nmC, if_pos c1, rmv, if_pos l20]; exact fb_ex hT c1
    · rw [stC, if_pos c1, decide_eq_false (by omega), Bool.false_or, nmC, if_pos c1, lgC_rm l20, decide_eq_true f2, Bool.true_and, ex_fk c1]
  · by_cases c2 : c < 2 * pl_cn T 14
    · have c3 : c - pl_cn T 14 < pl_cn T 14 := by omega
      have f1 := fk_mem c3
      have f2 := fk_n hT c3
      have l20 : ¬ 20 + fk T (c - pl_cn T 14) < 20 := by omega
      refine ⟨?_, ?_, ?_, ?_⟩
      · rw [nmC, if_neg c1, if_pos c2]; exact Or.inr (by omega)
      · rw [lyC, if_neg c1, if_pos c2, nmC, if_neg c1, if_pos c2, lay, if_neg l20, mp_k h8 c3, Nat.add_sub_cancel_left]
      · rw [pbC, if_neg c1, nmC, if_neg c1, if_pos c2, rmv, if_neg l20]
      · rw [stC, if_neg c1, decide_eq_false (by omega), Bool.false_or, nmC, if_neg c1, if_pos c2, lgC, if_neg l20, Nat.add_sub_cancel_left, decide_eq_false (by omega), Bool.false_or, decide_eq_true f2, Bool.true_and, ex_fk c3]
    · refine ⟨?_, ?_, ?_, ?_⟩
      · rw [nmC, if_neg c1, if_neg c2]; exact Or.inr (by omega)
      · rw [lyC, if_neg c1, if_neg c2, nmC, if_neg c1, if_neg c2]; rfl
      · rw [pbC, if_neg c1, nmC, if_neg c1, if_neg c2]; rfl
      · rw [stC, decide_eq_true (by omega), Bool.true_or, nmC, if_neg c1, if_neg c2]; rfl
theorem al_ex (hT : T < 2 ^ 14) : ex T (alC T) = T := ex_all hT
theorem lg_al (h8 : pl_cn T 14 ≤ 8) (hT : T < 2 ^ pl_n P) (h14 : pl_n P ≤ 14) {c : Nat} (hc : c < kdC T) : lgC P T (nmC T c) = true := by
  have hT4 : T < 2 ^ 14 := Nat.lt_of_lt_of_le hT (Nat.pow_le_pow_right (by decide) h14)
  have := (nm_ok h8 hT hc (alC T)).2.2.2
  rw [al_ex hT4] at this
  rw [← this, stC, alC, Nat.testBit_two_pow_sub_one]
  rw [kdC] at hc
  by_cases c1 : c < pl_cn T 14
  · rw [if_pos c1, decide_eq_true c1]; simp
  · rw [if_neg c1]
    by_cases c2 : 2 * pl_cn T 14 ≤ c
    · simp [c2]
    · simp; omega
def was0 (P : pl_T) (e w T : Nat) : Bool := zz P e w T 15 15
theorem t1C_tb (h8 : pl_cn T 14 ≤ 8) (hT : T < 2 ^ pl_n P) (h14 : pl_n P ≤ 14) {c : Nat} (hc : c < kdC T) : t1C P T e w c = tb1 P e w T (nmC T c) (was0 P e w T) := by
  have hT4 : T < 2 ^ 14 := Nat.lt_of_lt_of_le hT (Nat.pow_le_pow_right (by decide) h14)
  obtain ⟨n1, n2, n3, n4⟩ := nm_ok (P := P) h8 hT hc (alC T)
  rw [al_ex hT4] at n3
  rw [t1C, tnC_zz h8 hT4 vd9 (vd_ly T c), n3, n2, mp_9, lf_15, tb1, lg_al h8 hT h14 hc, Bool.true_and, Z1, was0]
theorem t2C_tb (h8 : pl_cn T 14 ≤ 8) (hT : T < 2 ^ pl_n P) (h14 : pl_n P ≤ 14) {c d : Nat} (hc : c < kdC T) (hd : d < kdC T) : t2C P T e w (pbC P T (alC T) c) (lyC T c) d = tb2 P e w T (nmC T c) (nmC T d) (was0 P e w T) := by
  have hT4 : T < 2 ^ 14 := Nat.lt_of_lt_of_le hT (Nat.pow_le_pow_right (by decide) h14)
  obtain ⟨n1, n2, n3, n4⟩ := nm_ok (P := P) h8 hT hc (alC T)
  rw [al_ex hT4] at n3
  obtain ⟨k1, k2, k3, k4⟩ := nm_ok (P := P) h8 hT hd (pbC P T (alC T) c)
  rw [n3] at k3 k4
  rw [t2C, k4, tnC_zz h8 hT4 (vd_ly T c) (vd_ly T d), k3, n2, k2, tb2, lg_al h8 hT h14 hc, Bool.true_and, Z2, was0]
theorem nm_mono {c d : Nat} (h : c < d) (hd : d < kdC T) : nmC T c < nmC T d := by
  rw [kdC] at hd
  by_cases d1 : d < pl_cn T 14
  · rw [nmC, if_pos (by omega), nmC, if_pos d1]; exact fk_lt d1 h
  · by_cases d2 : d < 2 * pl_cn T 14
    · have f2 := (fk_mem (T := T) (k := d - pl_cn T 14) (by omega)).1
      rw [nmC, nmC, if_neg d1, if_pos d2]
      by_cases c1 : c < pl_cn T 14
      · rw [if_pos c1]; have := (fk_mem c1).1; omega
      · rw [if_neg c1, if_pos (by omega)]
        have := fk_lt (T := T) (j := c - pl_cn T 14) (k := d - pl_cn T 14) (by omega) (by omega)
        omega
    · rw [nmC, nmC, if_neg d1, if_neg d2]
      by_cases c1 : c < pl_cn T 14
      · rw [if_pos c1]; have := (fk_mem c1).1; omega
      · rw [if_neg c1, if_pos (by omega)]
        have := (fk_mem (T := T) (k := c - pl_cn T 14) (by omega)).1
        omega
theorem nm_sur (h14 : pl_n P ≤ 14) {x : Nat} (hx : lgC P T x = true) (hc : isC x) : ∃ c, c < kdC T ∧ nmC T c = x := by
  by_cases c20 : x < 20
  · rw [lgC_rm c20, Bool.and_eq_true, decide_eq_true_eq] at hx
    have l := cn_lt14 (T := T) (j := 14) (show x < 14 by omega) hx.2
    refine ⟨pl_cn T x, by rw [kdC]; omega, ?_⟩
    rw [nmC, if_pos l]; exact fk_cn (by omega) hx.2
  · rcases lgC_ly (by omega) hx with q | q
    · exact ⟨2 * pl_cn T 14, by rw [kdC]; omega, by rw [nmC, if_neg (by omega), if_neg (by omega)]; exact q.symm⟩
    · have l := cn_lt14 (T := T) (j := 14) (show x - 20 < 14 by omega) q.2
      refine ⟨pl_cn T 14 + pl_cn T (x - 20), by rw [kdC]; omega, ?_⟩
      rw [nmC, if_neg (by omega), if_pos (by omega), Nat.add_sub_cancel_left, fk_cn (by omega) q.2]; omega
theorem rmv_sub {c x : Nat} (hl : lgC P T c = true) (hc : isC c) (h : lgC P (rmv P c T) x = true) : lgC P T x = true := by
  by_cases c20 : c < 20
  · rw [lgC_rm c20, Bool.and_eq_true, decide_eq_true_eq] at hl
    rw [rmv, if_pos c20, pl_nx, if_pos hl.1] at h
    rw [lgC, Bool.or_eq_true, Bool.and_eq_true] at h ⊢
    rcases h with q | q
    · exact Or.inl q
    · refine Or.inr ⟨q.1, ?_⟩
      have := q.2
      rw [bd_bit, Bool.and_eq_true] at this
      exact this.1
  · rw [rmv, if_neg c20] at h; exact h
/-- as the reference looks for them -/
def M1 (P : pl_T) (e w T x : Nat) : Bool := decide (isC x) && tb1 P e w T x (was0 P e w T)
def M2 (P : pl_T) (e w T x y : Nat) : Bool := decide (isC y) && tb2 P e w T x y (was0 P e w T)
def M2o (P : pl_T) (e w T x : Nat) : Option (Nat × Nat) := if isC x then ((List.range 35).find? (M2 P e w T x)).map (fun y => (x, y)) else none
theorem M1_fw (h8 : pl_cn T 14 ≤ 8) (hT : T < 2 ^ pl_n P) (h14 : pl_n P ≤ 14) : (List.range 35).find? (M1 P e w T) = (fw1 P T e w).map (nmC T) := by
  have hm : ∀ i j, i < j → j < kdC T → nmC T i < nmC T j := fun i j h1 h2 => nm_mono h1 h2
  have hN : ∀ i, i < kdC T → nmC T i < 35 := fun i _ => by have := nmC_le T i; omega
  rw [rf_img hm hN, fw1]
  · congr 1
    rw [find_some, find_some]
    have : ∀ l : List Nat, (∀ x, x ∈ l → x < kdC T) → l.findSome? (fun x => if M1 P e w T (nmC T x) then some x else none) = l.findSome? (fun x => if t1C P T e w x then some x else none) := by
      intro l
      induction l with
      | nil => intro _; rfl
      | cons x l ih =>
        intro h
        have hx := h x List.mem_cons_self
        rw [List.findSome?_cons, List.findSome?_cons, ih (fun y hy => h y (List.mem_cons_of_mem _ hy)), M1, t1C_tb h8 hT h14 hx, decide_eq_true (nm_ok (P := P) h8 hT hx 0).1, Bool.true_and]
    exact this _ (fun x hx => List.mem_range.mp hx)
  · intro c hc h
    rw [M1]
    by_cases q : isC c
    · rw [decide_eq_true q, Bool.true_and, tb1]
      cases q2 : lgC P T c with
      | false => rfl
      | true =>
        obtain ⟨i, h1, h2⟩ := nm_sur h14 q2 q
        exact absurd h2 (h i h1)
    · rw [decide_eq_false q, Bool.false_and]
theorem M2_fw (h8 : pl_cn T 14 ≤ 8) (hT : T < 2 ^ pl_n P) (h14 : pl_n P ≤ 14) : (List.range 35).findSome? (M2o P e w T) = (fw2 P T e w).map (fun y => (nmC T y.1, nmC T y.2)) := by
  have hm : ∀ i j, i < j → j < kdC T → nmC T i < nmC T j := fun i j h1 h2 => nm_mono h1 h2
  have hN : ∀ i, i < kdC T → nmC T i < 35 := fun i _ => by have := nmC_le T i; omega
  have in2 : ∀ c, c < kdC T → (List.range 35).find? (M2 P e w T (nmC T c)) = (fwc P T e w (pbC P T (alC T) c) (lyC T c)).map (nmC T) := by
    intro c hc
    rw [rf_img hm hN, fwc]
    · congr 1
      rw [find_some, find_some]
      have : ∀ l : List Nat, (∀ x, x ∈ l → x < kdC T) → l.findSome? (fun x => if M2 P e w T (nmC T c) (nmC T x) then some x else none) = l.findSome? (fun x => if t2C P T e w (pbC P T (alC T) c) (lyC T c) x then some x else none) := by
        intro l
        induction l with
        | nil => intro _; rfl
        | cons x l ih =>
          intro h
          have hx := h x List.mem_cons_self
          rw [List.findSome?_cons, List.findSome?_cons, ih (fun y hy => h y (List.mem_cons_of_mem _ hy)), M2, t2C_tb h8 hT h14 hc hx, decide_eq_true (nm_ok (P := P) h8 hT hx 0).1, Bool.true_and]
      exact this _ (fun x hx => List.mem_range.mp hx)
    · intro d hd h
      rw [M2]
      by_cases q : isC d
      · rw [decide_eq_true q, Bool.true_and, tb2]
        have lc := lg_al h8 hT h14 hc
        cases q2 : lgC P (rmv P (nmC T c) T) d with
        | false => rw [lc]; rfl
        | true =>
          obtain ⟨i, h1, h2⟩ := nm_sur h14 (rmv_sub lc (nm_ok (P := P) h8 hT hc 0).1 q2) q
          exact absurd h2 (h i h1)
      · rw [decide_eq_false q, Bool.false_and]
  rw [rs_img hm hN, fw2, fS_map]
  · have : ∀ l : List Nat, (∀ x, x ∈ l → x < kdC T) → l.findSome? (fun k => M2o P e w T (nmC T k)) = l.findSome? (fun x => (fwd P T e w x).map (fun y => (nmC T y.1, nmC T y.2))) := by
      intro l
      induction l with
      | nil => intro _; rfl
      | cons x l ih =>
        intro h
        have hx := h x List.mem_cons_self
        rw [List.findSome?_cons, List.findSome?_cons, ih (fun y hy => h y (List.mem_cons_of_mem _ hy)), M2o, if_pos (nm_ok (P := P) h8 hT hx 0).1, in2 x hx, fwd]
        cases fwc P T e w (pbC P T (alC T) x) (lyC T x) <;> rfl
    exact this _ (fun x hx => List.mem_range.mp hx)
  · intro c hc h
    rw [M2o]
    by_cases q : isC c
    · rw [if_pos q]
      cases q2 : lgC P T c with
      | true =>
        obtain ⟨i, h1, h2⟩ := nm_sur h14 q2 q
        exact absurd h2 (h i h1)
      | false =>
        have : (List.range 35).find? (M2 P e w T c) = none := by
          rw [List.find?_eq_none]
          intro y _
          rw [M2, tb2, q2]; simp
        rw [this]; rfl
    · rw [if_neg q]
/-- the bits of all that turn it -/
theorem tbC_bit (x : Nat) : ∀ k, (tbC P T e w k).testBit x = (List.range k).any (fun c => t1C P T e w c && (nmC T c == x))
  | 0 => by rw [tbC, Nat.zero_testBit]; rfl
  | k + 1 => by
    rw [List.range_succ, List.any_append, ← tbC_bit x k, tbC]
    cases q : t1C P T e w k with
    | false => simp [q]
    | true =>
      rw [if_pos rfl, Nat.testBit_or, Nat.one_shiftLeft, bb_tp]
      simp [q]
      rw [Bool.eq_iff_iff]; simp
theorem tb_M1 (h8 : pl_cn T 14 ≤ 8) (hT : T < 2 ^ pl_n P) (h14 : pl_n P ≤ 14) (x : Nat) : (tbC P T e w (kdC T)).testBit x = M1 P e w T x := by
  rw [tbC_bit, Bool.eq_iff_iff, List.any_eq_true]
  constructor
  · rintro ⟨c, h1, h2⟩
    rw [List.mem_range] at h1
    rw [Bool.and_eq_true, beq_iff_eq] at h2
    have := t1C_tb (e := e) (w := w) h8 hT h14 h1
    rw [M1, ← h2.2, ← this, h2.1, decide_eq_true (nm_ok (P := P) h8 hT h1 0).1]; rfl
  · intro h
    rw [M1, Bool.and_eq_true, decide_eq_true_eq] at h
    have h2 := h.2
    rw [tb1, Bool.and_eq_true] at h2
    obtain ⟨c, c1, c2⟩ := nm_sur h14 h2.1 h.1
    refine ⟨c, List.mem_range.mpr c1, ?_⟩
    rw [t1C_tb h8 hT h14 c1, c2, h.2]; simp
end
theorem cn_cut (a k : Nat) : ∀ j, pl_cn a (k + j) = pl_cn a k + pl_cn (a >>> k) j
  | 0 => rfl
  | j + 1 => by
    rw [← Nat.add_assoc, pl_cn, cn_cut a k j, pl_cn, Nat.testBit_shiftRight]; omega
