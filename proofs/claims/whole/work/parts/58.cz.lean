/-! CHANGES: a pile with at most two things more. 14: one lies on none; 15: nothing was laid -/
def la (a : Nat) : Nat := if a = 15 then 0 else 1
def lf (s a : Nat) : Nat := if a < 14 ∧ s.testBit a = false then 15 else a
def cB (P : pl_T) (e : Nat) (R : Nat → Nat → Nat → Nat → Bool) (h s a b : Nat) : Bool :=
  if pl_ML P h s = [] ∧ a = 15 then e == 1
  else (decide (a ≠ 15) && !R (1 - h) s b 15) || (decide (b ≠ 15) && decide (b ≠ a) && !R (1 - h) s a 15) ||
    (pl_ML P h s).any (fun j => !R (1 - h) (pl_nx P s j) (min (lf (pl_nx P s j) a) (lf (pl_nx P s j) b)) (max (lf (pl_nx P s j) a) (lf (pl_nx P s j) b)))
def czf (P : pl_T) (e : Nat) : Nat → Nat → Nat → Nat → Nat → Bool
  | 0 => cB P e (fun _ _ _ _ => false)
  | f + 1 => cB P e (czf P e f)
def cm (P : pl_T) (s a b : Nat) : Nat := pl_mu P s + la a + la b
def cz (P : pl_T) (e h s a b : Nat) : Bool := czf P e (cm P s a b) h s a b
theorem la_le (a : Nat) : la a ≤ 1 := by unfold la; split <;> omega
theorem la_15 : la 15 = 0 := rfl
theorem la_ne {a : Nat} (h : a ≠ 15) : la a = 1 := if_neg h
theorem la_lf (s a : Nat) : la (lf s a) ≤ la a := by
  unfold lf
  split
  · rw [la_15]; omega
  · exact Nat.le_refl _
theorem cB_congr {P : pl_T} (ok : pl_ok P) {e : Nat} {R R' : Nat → Nat → Nat → Nat → Bool} {h s a b : Nat} (hab : a ≤ b) (hb : b ≤ 15) (hR : ∀ h' s' a' b', cm P s' a' b' < cm P s a b → a' ≤ b' → b' ≤ 15 → R h' s' a' b' = R' h' s' a' b') : cB P e R h s a b = cB P e R' h s a b := by
  unfold cB
  by_cases c : pl_ML P h s = [] ∧ a = 15
  · rw [if_pos c, if_pos c]
  · rw [if_neg c, if_neg c]
    congr 1
    · congr 1
      · by_cases ca : a = 15
        · simp [ca]
        · rw [hR (1 - h) s b 15 (by rw [cm, cm, la_15, la_ne ca]; omega) hb (Nat.le_refl _)]
      · by_cases cb : b = 15
        · simp [cb]
        · rw [hR (1 - h) s a 15 (by rw [cm, cm, la_15, la_ne cb]; omega) (by omega) (Nat.le_refl _)]
    · rw [Bool.eq_iff_iff, List.any_eq_true, List.any_eq_true]
      have key : ∀ j, j ∈ pl_ML P h s → R (1 - h) (pl_nx P s j) (min (lf (pl_nx P s j) a) (lf (pl_nx P s j) b)) (max (lf (pl_nx P s j) a) (lf (pl_nx P s j) b)) = R' (1 - h) (pl_nx P s j) (min (lf (pl_nx P s j) a) (lf (pl_nx P s j) b)) (max (lf (pl_nx P s j) a) (lf (pl_nx P s j) b)) := by
        intro j hj
        have mu := pl_mu_lt ok (pl_ML_mem.mp hj)
        have l1 := la_lf (pl_nx P s j) a
        have l2 := la_lf (pl_nx P s j) b
        have u1 : lf (pl_nx P s j) a ≤ 15 := by unfold lf; split <;> omega
        have u2 : lf (pl_nx P s j) b ≤ 15 := by unfold lf; split <;> omega
        refine hR _ _ _ _ ?_ (by omega) (by omega)
        rw [cm, cm]
        rcases Nat.le_total (lf (pl_nx P s j) a) (lf (pl_nx P s j) b) with q | q
        · rw [Nat.min_eq_left q, Nat.max_eq_right q]; omega
        · rw [Nat.min_eq_right q, Nat.max_eq_left q]; omega
      constructor
      · rintro ⟨j, hj, q⟩
        exact ⟨j, hj, by rw [← key j hj]; exact q⟩
      · rintro ⟨j, hj, q⟩
        exact ⟨j, hj, by rw [key j hj]; exact q⟩
theorem czf_eq {P : pl_T} (ok : pl_ok P) {e : Nat} : ∀ f g h s a b, cm P s a b ≤ f → cm P s a b ≤ g → a ≤ b → b ≤ 15 → czf P e f h s a b = czf P e g h s a b := by
  intro f
  induction f with
  | zero =>
    intro g h s a b h1 h2 hab hb
    cases g with
    | zero => rfl
    | succ g => exact cB_congr ok hab hb (fun h' s' a' b' q _ _ => by omega)
  | succ f ih =>
    intro g h s a b h1 h2 hab hb
    cases g with
    | zero => exact cB_congr ok hab hb (fun h' s' a' b' q _ _ => by omega)
    | succ g => exact cB_congr ok hab hb (fun h' s' a' b' q q1 q2 => ih g h' s' a' b' (by omega) (by omega) q1 q2)
theorem cz_eq {P : pl_T} (ok : pl_ok P) (e h : Nat) {s a b : Nat} (hab : a ≤ b) (hb : b ≤ 15) : cz P e h s a b = cB P e (cz P e) h s a b := by
  rw [cz, czf_eq ok (cm P s a b) (cm P s a b + 1) h s a b (Nat.le_refl _) (by omega) hab hb]
  exact cB_congr ok hab hb (fun h' s' a' b' q q1 q2 => by rw [cz]; exact czf_eq ok _ _ _ _ _ _ (by omega) (Nat.le_refl _) q1 q2)
/-- places to lay on, by the new numbers: 8 on none, 9 nothing -/
def mp (T x : Nat) : Nat := if x = 9 then 15 else if x = 8 then 14 else fk T x
def vd (T x : Nat) : Prop := x < pl_cn T 14 ∨ x = 8 ∨ x = 9
def lfC (p x : Nat) : Nat := if x < 8 ∧ p.testBit x = false then 9 else x
section
variable {T : Nat}
theorem mp_9 : mp T 9 = 15 := rfl
theorem mp_8 : mp T 8 = 14 := rfl
theorem mp_k {x : Nat} (h8 : pl_cn T 14 ≤ 8) (hx : x < pl_cn T 14) : mp T x = fk T x := by rw [mp, if_neg (by omega), if_neg (by omega)]
theorem vd_le {x : Nat} (h8 : pl_cn T 14 ≤ 8) (h : vd T x) : x ≤ 9 := by
  rcases h with h | h | h <;> omega
theorem mp_lt {x y : Nat} (h8 : pl_cn T 14 ≤ 8) (hx : vd T x) (hy : vd T y) (h : x < y) : mp T x < mp T y := by
  rcases hy with hy | hy | hy
  · have hx' : x < pl_cn T 14 := by omega
    rw [mp_k h8 hx', mp_k h8 hy]; exact fk_lt hy h
  · subst hy
    rcases hx with hx | hx | hx
    · rw [mp_k h8 hx, mp_8]; exact (fk_mem hx).1
    · omega
    · omega
  · subst hy
    rcases hx with hx | hx | hx
    · rw [mp_k h8 hx, mp_9]; have := (fk_mem hx).1; omega
    · subst hx; rw [mp_8, mp_9]; omega
    · omega
theorem mp_le15 {x : Nat} (h8 : pl_cn T 14 ≤ 8) (hx : vd T x) : mp T x ≤ 15 := by
  rcases hx with hx | hx | hx
  · rw [mp_k h8 hx]; have := (fk_mem hx).1; omega
  · subst hx; rw [mp_8]; omega
  · subst hx; rw [mp_9]; omega
theorem mp_mono {x y : Nat} (h8 : pl_cn T 14 ≤ 8) (hx : vd T x) (hy : vd T y) (h : x ≤ y) : mp T x ≤ mp T y := by
  rcases Nat.lt_or_ge x y with c | c
  · exact Nat.le_of_lt (mp_lt h8 hx hy c)
  · rw [show x = y by omega]; exact Nat.le_refl _
theorem mp_inj {x y : Nat} (h8 : pl_cn T 14 ≤ 8) (hx : vd T x) (hy : vd T y) : mp T x = mp T y ↔ x = y := by
  refine ⟨fun q => ?_, fun q => by rw [q]⟩
  rcases Nat.lt_trichotomy x y with c | c | c
  · have := mp_lt h8 hx hy c; omega
  · exact c
  · have := mp_lt h8 hy hx c; omega
theorem mp_15 {x : Nat} (h8 : pl_cn T 14 ≤ 8) (hx : vd T x) : mp T x = 15 ↔ x = 9 := mp_inj h8 hx (Or.inr (Or.inr rfl))
theorem vd_lfC {p x : Nat} (hx : vd T x) : vd T (lfC p x) := by
  unfold lfC
  split
  · exact Or.inr (Or.inr rfl)
  · exact hx
theorem mp_lfC {p x : Nat} (h8 : pl_cn T 14 ≤ 8) (hx : vd T x) : mp T (lfC p x) = lf (ex T p) (mp T x) := by
  rcases hx with hx | hx | hx
  · have f14 := (fk_mem hx).1
    rw [mp_k h8 hx, lf, ex_fk hx, lfC]
    by_cases c : p.testBit x = false
    · rw [if_pos ⟨by omega, c⟩, if_pos ⟨f14, c⟩]; rfl
    · rw [if_neg (fun q => c q.2), if_neg (fun q => c q.2), mp_k h8 hx]
  · subst hx
    rw [lfC, if_neg (by omega), mp_8, lf, if_neg (by omega)]
  · subst hx
    rw [lfC, if_neg (by omega), mp_9, lf, if_neg (by omega)]
theorem vd_min {x y : Nat} (hx : vd T x) (hy : vd T y) : vd T (min x y) := by
  rcases Nat.le_total x y with c | c
  · rw [Nat.min_eq_left c]; exact hx
  · rw [Nat.min_eq_right c]; exact hy
theorem vd_max {x y : Nat} (hx : vd T x) (hy : vd T y) : vd T (max x y) := by
  rcases Nat.le_total x y with c | c
  · rw [Nat.max_eq_right c]; exact hy
  · rw [Nat.max_eq_left c]; exact hx
theorem mp_min {x y : Nat} (h8 : pl_cn T 14 ≤ 8) (hx : vd T x) (hy : vd T y) : mp T (min x y) = min (mp T x) (mp T y) := by
  rcases Nat.le_total x y with c | c
  · rw [Nat.min_eq_left c, Nat.min_eq_left (mp_mono h8 hx hy c)]
  · rw [Nat.min_eq_right c, Nat.min_eq_right (mp_mono h8 hy hx c)]
theorem mp_max {x y : Nat} (h8 : pl_cn T 14 ≤ 8) (hx : vd T x) (hy : vd T y) : mp T (max x y) = max (mp T x) (mp T y) := by
  rcases Nat.le_total x y with c | c
  · rw [Nat.max_eq_right c, Nat.max_eq_right (mp_mono h8 hx hy c)]
  · rw [Nat.max_eq_left c, Nat.max_eq_left (mp_mono h8 hy hx c)]
end
/-- by the new numbers -/
def cc1 (P : pl_T) (T e h p x y : Nat) : Bool := cz P e h (ex T p) (mp T x) (mp T y)
def ccM (P : pl_T) (T p x y : Nat) : Nat := cm P (ex T p) (mp T x) (mp T y)
def ccL (P : pl_T) (T e h p x y : Nat) : Bool := (decide (x ≠ 9) && !cc1 P T e (1 - h) p y 9) || (decide (y ≠ 9) && decide (y ≠ x) && !cc1 P T e (1 - h) p x 9)
def ccB (P : pl_T) (T e h p x y : Nat) : Bool := cc1 P T e h p (min (lfC p x) (lfC p y)) (max (lfC p x) (lfC p y))
def ccT (P : pl_T) (T e h p x y k : Nat) : Bool := ((List.range k).filter (fun i => (ft P T p h).testBit i)).any (fun i => !ccB P T e (1 - h) (fb P T p i) x y)
section
variable {P : pl_T} {T e : Nat}
theorem ccT_t {h p x y k : Nat} (hl : (ft P T p h).testBit k = true) : ccT P T e h p x y (k + 1) = (ccT P T e h p x y k || !ccB P T e (1 - h) (fb P T p k) x y) := by
  rw [ccT, List.range_succ, List.filter_append, List.any_append]; simp [ccT, hl]
theorem ccT_f {h p x y k : Nat} (hl : (ft P T p h).testBit k = false) : ccT P T e h p x y (k + 1) = ccT P T e h p x y k := by
  rw [ccT, List.range_succ, List.filter_append, List.any_append]; simp [ccT, hl]
theorem ccT_mono {h p x y k k' : Nat} (hk : k ≤ k') (h1 : ccT P T e h p x y k = true) : ccT P T e h p x y k' = true := by
  induction k' with
  | zero => rw [show k = 0 by omega] at h1; exact h1
  | succ q ih =>
    by_cases e1 : k = q + 1
    · rw [← e1]; exact h1
    · have ih := ih (by omega)
      cases hl : (ft P T p h).testBit q with
      | true => rw [ccT_t hl, ih]; rfl
      | false => rw [ccT_f hl]; exact ih
theorem cc1_eq (ok : pl_ok P) (hb0 : pl_b P = 0) (hT : T < 2 ^ pl_n P) (h8 : pl_cn T 14 ≤ 8) {h p x y : Nat} (hx : vd T x) (hy : vd T y) (hxy : x ≤ y) : cc1 P T e h p x y = if ft P T p h = 0 ∧ x = 9 then e == 1 else ccL P T e h p x y || ccT P T e h p x y (pl_cn T 14) := by
  rw [cc1, cz_eq ok e h (mp_mono h8 hx hy hxy) (mp_le15 h8 hy), cB]
  have c0 := ft_0 (p := p) (h := h) hT ok.1 hb0
  have c1 := mp_15 h8 hx
  have c2 := mp_15 h8 hy
  have c3 := mp_inj h8 hy hx
  have e1 : (pl_ML P h (ex T p) = [] ∧ mp T x = 15) = (ft P T p h = 0 ∧ x = 9) := by rw [c0, c1]
  by_cases c : ft P T p h = 0 ∧ x = 9
  · rw [if_pos c, if_pos (by rw [e1]; exact c)]
  · rw [if_neg c, if_neg (by rw [e1]; exact c)]
    congr 1
    · rw [ccL, cc1, cc1, mp_9]
      have d1 : decide (mp T x ≠ 15) = decide (x ≠ 9) := by rw [decide_eq_decide, ne_eq, ne_eq, c1]
      have d2 : decide (mp T y ≠ 15) = decide (y ≠ 9) := by rw [decide_eq_decide, ne_eq, ne_eq, c2]
      have d3 : decide (mp T y ≠ mp T x) = decide (y ≠ x) := by rw [decide_eq_decide, ne_eq, ne_eq, c3]
      rw [d1, d2, d3]
    · rw [← ftl_all hT ok.1 hb0, ftl, List.any_map, ccT]
      rw [Bool.eq_iff_iff, List.any_eq_true, List.any_eq_true]
      have key : ∀ i, i ∈ (List.range (pl_cn T 14)).filter (fun i => (ft P T p h).testBit i) → ccB P T e (1 - h) (fb P T p i) x y = cz P e (1 - h) (pl_nx P (ex T p) (fk T i)) (min (lf (pl_nx P (ex T p) (fk T i)) (mp T x)) (lf (pl_nx P (ex T p) (fk T i)) (mp T y))) (max (lf (pl_nx P (ex T p) (fk T i)) (mp T x)) (lf (pl_nx P (ex T p) (fk T i)) (mp T y))) := by
        intro i hi
        rw [List.mem_filter, List.mem_range] at hi
        rw [ccB, cc1, fb_ex hT hi.1, mp_min h8 (vd_lfC hx) (vd_lfC hy), mp_max h8 (vd_lfC hx) (vd_lfC hy), mp_lfC h8 hx, mp_lfC h8 hy, fb_ex hT hi.1]
      constructor
      · rintro ⟨i, hi, q⟩
        exact ⟨i, hi, by rw [key i hi]; exact q⟩
      · rintro ⟨i, hi, q⟩
        refine ⟨i, hi, ?_⟩
        rw [key i hi] at q; exact q
theorem ccM_L1 (h8 : pl_cn T 14 ≤ 8) {p x y : Nat} (hx : vd T x) (h9 : x ≠ 9) : ccM P T p y 9 < ccM P T p x y := by
  rw [ccM, ccM, cm, cm, mp_9, la_15, la_ne (fun q => h9 ((mp_15 h8 hx).mp q))]; omega
theorem ccM_L2 (h8 : pl_cn T 14 ≤ 8) {p x y : Nat} (hy : vd T y) (h9 : y ≠ 9) : ccM P T p x 9 < ccM P T p x y := by
  rw [ccM, ccM, cm, cm, mp_9, la_15, la_ne (fun q => h9 ((mp_15 h8 hy).mp q))]; omega
theorem ccM_B (h8 : pl_cn T 14 ≤ 8) {p x y : Nat} (hx : vd T x) (hy : vd T y) : ccM P T p (min (lfC p x) (lfC p y)) (max (lfC p x) (lfC p y)) ≤ ccM P T p x y := by
  have l1 := la_lf (ex T p) (mp T x)
  have l2 := la_lf (ex T p) (mp T y)
  rw [← mp_lfC h8 hx] at l1
  rw [← mp_lfC h8 hy] at l2
  rw [ccM, ccM, cm, cm]
  rcases Nat.le_total (lfC p x) (lfC p y) with q | q
  · rw [Nat.min_eq_left q, Nat.max_eq_right q]; omega
  · rw [Nat.min_eq_right q, Nat.max_eq_left q]; omega
theorem ccM_T (ok : pl_ok P) (hT : T < 2 ^ pl_n P) {h p x y k : Nat} (hk : k < pl_cn T 14) (hb : (ft P T p h).testBit k = true) : ccM P T (fb P T p k) x y < ccM P T p x y := by
  rw [ft_bit hT hk] at hb
  have mu := pl_mu_lt ok hb
  rw [ccM, ccM, cm, cm, fb_ex hT hk]; omega
theorem mu_cn (hb0 : pl_b P = 0) (s : Nat) : pl_mu P s = pl_cn s (pl_n P) := by rw [pl_mu, hb0]; simp
theorem ccM_le (ok : pl_ok P) (p x y : Nat) : ccM P T p x y ≤ 20 := by
  have h1 := pl_mu_le ok (ex T p)
  have h2 := la_le (mp T x)
  have h3 := la_le (mp T y)
  rw [ccM, cm]; omega
end
