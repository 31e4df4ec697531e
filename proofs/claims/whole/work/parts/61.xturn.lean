/-! CHANGES: which turn it -/
theorem rfind_n {p : Nat → Bool} {k : Nat} (h : (List.range k).find? p = none) : (List.range (k + 1)).find? p = if p k = true then some k else none := by
  rw [List.range_succ, List.find?_append, h]
  by_cases q : p k = true
  · rw [if_pos q]; simp [q]
  · rw [if_neg q]; simp [q]
theorem rfind_d {p : Nat → Bool} {k N j : Nat} (hk : k ≤ N) (h : (List.range k).find? p = some j) : (List.range N).find? p = some j := by
  obtain ⟨d, rfl⟩ : ∃ d, N = k + d := ⟨N - k, by omega⟩
  induction d with
  | zero => exact h
  | succ d ih => rw [show k + (d + 1) = k + d + 1 by omega, List.range_succ, List.find?_append, ih (by omega)]; rfl
theorem rsome_n {α : Type} {p : Nat → Option α} {k : Nat} (h : (List.range k).findSome? p = none) : (List.range (k + 1)).findSome? p = p k := by
  rw [List.range_succ, List.findSome?_append, h]
  simp [List.findSome?]
  cases p k <;> rfl
theorem rsome_d {α : Type} {p : Nat → Option α} {k N : Nat} {j : α} (hk : k ≤ N) (h : (List.range k).findSome? p = some j) : (List.range N).findSome? p = some j := by
  obtain ⟨d, rfl⟩ : ∃ d, N = k + d := ⟨N - k, by omega⟩
  induction d with
  | zero => exact h
  | succ d ih => rw [show k + (d + 1) = k + d + 1 by omega, List.range_succ, List.findSome?_append, ih (by omega)]; rfl
def kdC (T : Nat) : Nat := 2 * pl_cn T 14 + 1
def alC (T : Nat) : Nat := 2 ^ pl_cn T 14 - 1
def pbC (P : pl_T) (T p c : Nat) : Nat := if c < pl_cn T 14 then fb P T p c else p
def lyC (T c : Nat) : Nat := if c < pl_cn T 14 then 9 else if c < 2 * pl_cn T 14 then c - pl_cn T 14 else 8
def nmC (T c : Nat) : Nat := if c < pl_cn T 14 then fk T c else if c < 2 * pl_cn T 14 then 20 + fk T (c - pl_cn T 14) else 34
def stC (T p c : Nat) : Bool := decide (2 * pl_cn T 14 ≤ c) || p.testBit (if c < pl_cn T 14 then c else c - pl_cn T 14)
def tnC (P : pl_T) (T e t p x y : Nat) : Bool := ccB P T e t p x y != cc1 P T e t (2 ^ pl_cn T 14 - 1) 9 9
def t1C (P : pl_T) (T e t c : Nat) : Bool := tnC P T e t (pbC P T (alC T) c) 9 (lyC T c)
def t2C (P : pl_T) (T e t p x d : Nat) : Bool := stC T p d && tnC P T e t (pbC P T p d) x (lyC T d)
def tbC (P : pl_T) (T e t : Nat) : Nat → Nat
  | 0 => 0
  | c + 1 => if t1C P T e t c then tbC P T e t c ||| 1 <<< nmC T c else tbC P T e t c
def fw1 (P : pl_T) (T e t : Nat) : Option Nat := (List.range (kdC T)).find? (t1C P T e t)
def fwc (P : pl_T) (T e t p x : Nat) : Option Nat := (List.range (kdC T)).find? (t2C P T e t p x)
def fwd (P : pl_T) (T e t c : Nat) : Option (Nat × Nat) := (fwc P T e t (pbC P T (alC T) c) (lyC T c)).map (fun d => (c, d))
def fw2 (P : pl_T) (T e t : Nat) : Option (Nat × Nat) := (List.range (kdC T)).findSome? (fwd P T e t)
theorem vd_ly (T c : Nat) : vd T (lyC T c) := by
  unfold lyC
  split
  · exact vd9
  · split
    · exact Or.inl (by omega)
    · exact vd8
theorem pbC_lt {P : pl_T} {T p c N : Nat} (hp : p < N) : pbC P T p c < N := by
  unfold pbC
  split
  · exact fb_lt hp
  · exact hp
theorem nmC_le (T c : Nat) : nmC T c ≤ 34 := by
  unfold nmC
  split
  · have := (fk_mem (T := T) (k := c) (by assumption)).1; omega
  · split
    · have := (fk_mem (T := T) (k := c - pl_cn T 14) (by omega)).1; omega
    · omega
section
variable {r : Nat → Nat} {dy : List aa_Shp} {σ : aa_St} {P : pl_T} {T e R v t : Nat}
theorem LK.tr {σ' : aa_St} (h : LK r dy P v T t e R σ) (hF : FrI (r 6) σ σ') (hK : KZ P T e R (σ'.1 (r 6))) : LK r dy P v T t e R σ' := by
  obtain ⟨h87, h1, h2, h3, h4, h5, h6⟩ := h
  have q : ∀ k, σ'.1 49 k = σ.1 49 k := fun k => by rw [hF.2 49 (by omega)]
  exact ⟨h87, by rw [hF.1]; exact h1, h2.tr h87 hF hK, by rw [q]; exact h3, by rw [q]; exact h4, by rw [q]; exact h5, by rw [q]; exact h6⟩
theorem LK.s (h : LK r dy P v T t e R σ) {k : Nat} (hk : 9 ≤ k) (x : Int32) : LK r dy P v T t e R (aa_sI σ 49 k x) := by
  obtain ⟨h87, h1, ⟨a1, a2, a3, a4, a5⟩, h3, h4, h5, h6⟩ := h
  exact ⟨h87, h1, ⟨a1.sI _ _ _, a2.fr (by rw [sI_ne (by decide)]) (sI_ne (by decide)) (sI_ne (by decide)) (sI_ne (by decide)), by rw [sI_nk (by omega)]; exact a3, by rw [sI_nk (by omega)]; exact a4, by rw [sI_ne (by omega)]; exact a5⟩, by rw [sI_nk (by omega)]; exact h3, by rw [sI_nk (by omega)]; exact h4, by rw [sI_nk (by omega)]; exact h5, by rw [sI_nk (by omega)]; exact h6⟩
theorem c_X0_kinds (hW : aa_W r dy σ) (hN : FN T 51 σ.1) : aa_SX mX0_kinds 2 [.ref 49] σ (some (.int (nI (kdC T)))) σ := by
  refine aa_E_of (by decide) 0 [some (.ref 49)] rfl rfl ?_
  refine aa_go (aa_iconst iX0_kinds_0 ki_2) (aa_go (aa_aload0 iX0_kinds_1) (aa_go (aa_getR iX0_kinds_2 fl_X0_50 (sh_49 hW) rfl) (aa_go (aa_cVi iX0_kinds_5 (c_X1_many51 hW hN) (by decide) lc_X1_many lk_X0_99 (sh_51 hW) rfl rfl (Nat.le_of_ble_eq_true rfl)) (aa_go (aa_imulN iX0_kinds_8 ) (aa_go (aa_iconst iX0_kinds_9 ki_1) (aa_go (aa_iaddN iX0_kinds_10 ) ?_))))))
  refine aa_iret iX0_kinds_11 rfl ?_
  exact ⟨rfl, rfl⟩
theorem c_X0_named (hW : aa_W r dy σ) (hN : FN T 51 σ.1) (h8 : pl_cn T 14 ≤ 8) {c : Nat} (hc : c < 100) : aa_SX mX0_named 2 [.ref 49, .int (nI c)] σ (some (.int (nI (nmC T c)))) σ := by
  refine aa_E_of (by decide) 1 [some (.ref 49), some (.int (nI c)), none] rfl rfl ?_
  refine aa_go (aa_aload0 iX0_named_0) (aa_go (aa_getR iX0_named_1 fl_X0_50 (sh_49 hW) rfl) (aa_go (aa_cVi iX0_named_4 (c_X1_many51 hW hN) (by decide) lc_X1_many lk_X0_99 (sh_51 hW) rfl rfl (Nat.le_of_ble_eq_true rfl)) (aa_go (aa_istore2 iX0_named_7 rfl (by decide)) (aa_go (aa_iload1 iX0_named_8) (aa_go (aa_iload2 iX0_named_9) ?_)))))
  refine aa_ic_geN iX0_named_10 (by omega) (by omega) (fun h1 => ?_) (fun h1 => ?_)
  · skip
    refine aa_go (aa_iload1 iX0_named_24) (aa_go (aa_iconst iX0_named_25 ki_2) (aa_go (aa_iload2 iX0_named_26) (aa_go (aa_imulN iX0_named_27 ) ?_)))
    refine aa_ic_geN iX0_named_28 (by omega) (by omega) (fun h2 => ?_) (fun h2 => ?_)
    · skip
      refine aa_go (aa_bipush iX0_named_47 kb_34) ?_
      refine aa_iret iX0_named_49 rfl ?_
      exact ⟨by rw [nmC, if_neg (by omega), if_neg (by omega)], rfl⟩
    · skip
      refine aa_go (aa_bipush iX0_named_31 kb_20) (aa_go (aa_aload0 iX0_named_33) (aa_go (aa_getR iX0_named_34 fl_X0_50 (sh_49 hW) rfl) (aa_go (aa_iload1 iX0_named_37) (aa_go (aa_iload2 iX0_named_38) (aa_go (aa_isubN iX0_named_39 (by omega)) (aa_go (aa_cVi iX0_named_40 (c_X1_thingAt51 hW hN h8 (by omega)) (by decide) lc_X1_thingAt lk_X0_102 (sh_51 hW) rfl rfl (Nat.le_of_ble_eq_true rfl)) (aa_go (aa_iaddN iX0_named_43 ) ?_)))))))
      refine aa_go (aa_goto iX0_named_44) ?_
      refine aa_iret iX0_named_49 rfl ?_
      exact ⟨by rw [nmC, if_neg (by omega), if_pos h2], rfl⟩
  · skip
    refine aa_go (aa_aload0 iX0_named_13) (aa_go (aa_getR iX0_named_14 fl_X0_50 (sh_49 hW) rfl) (aa_go (aa_iload1 iX0_named_17) (aa_go (aa_cVi iX0_named_18 (c_X1_thingAt51 hW hN h8 h1) (by decide) lc_X1_thingAt lk_X0_102 (sh_51 hW) rfl rfl (Nat.le_of_ble_eq_true rfl)) (aa_go (aa_goto iX0_named_21) ?_))))
    refine aa_iret iX0_named_49 rfl ?_
    exact ⟨by rw [nmC, if_pos h1], rfl⟩
theorem c_X0_stands (hW : aa_W r dy σ) (hN : FN T 51 σ.1) (h8 : pl_cn T 14 ≤ 8) {p c : Nat} (hp : p < 256) (hc : c < 100) : aa_SX mX0_stands 2 [.ref 49, .int (nI p), .int (nI c)] σ (some (.int (nI (stC T p c).toNat))) σ := by
  have fin : ∀ k, k < 32 → (if c < pl_cn T 14 then c else c - pl_cn T 14) = k → ¬ 2 * pl_cn T 14 ≤ c → aa_V mX0_stands 2 28 [some (.ref 49), some (.int (nI p)), some (.int (nI c)), some (.int (nI (pl_cn T 14)))] [.int (nI k), .int (nI p)] σ (fun ra σ' => ra = some (.int (nI (stC T p c).toNat)) ∧ σ' = σ) := by
    intro k hk ek hc2
    refine aa_go (aa_ishrN iX0_stands_28 (by omega) (by omega)) (aa_go (aa_iconst iX0_stands_29 ki_1) (aa_go (aa_ibit iX0_stands_30) ?_))
    refine aa_if_eqB iX0_stands_31 (fun h1 => ?_) (fun h1 => ?_)
    · skip
      refine aa_go (aa_iconst iX0_stands_38 ki_0) ?_
      refine aa_zretF iX0_stands_39 rfl ?_
      exact ⟨by rw [stC, ek, h1, decide_eq_false hc2]; rfl, rfl⟩
    · skip
      refine aa_go (aa_iconst iX0_stands_34 ki_1) (aa_go (aa_goto iX0_stands_35) ?_)
      refine aa_zretT iX0_stands_39 rfl ?_
      exact ⟨by rw [stC, ek, h1, decide_eq_false hc2]; rfl, rfl⟩
  have key : aa_V mX0_stands 2 0 [some (.ref 49), some (.int (nI p)), some (.int (nI c)), none] [] σ (fun ra σ' => ra = some (.int (nI (stC T p c).toNat)) ∧ σ' = σ) := by
    refine aa_go (aa_aload0 iX0_stands_0) (aa_go (aa_getR iX0_stands_1 fl_X0_50 (sh_49 hW) rfl) (aa_go (aa_cVi iX0_stands_4 (c_X1_many51 hW hN) (by decide) lc_X1_many lk_X0_99 (sh_51 hW) rfl rfl (Nat.le_of_ble_eq_true rfl)) (aa_go (aa_istore3 iX0_stands_7 rfl (by decide)) (aa_go (aa_iload2 iX0_stands_8) (aa_go (aa_iconst iX0_stands_9 ki_2) (aa_go (aa_iload3 iX0_stands_10) (aa_go (aa_imulN iX0_stands_11 ) ?_)))))))
    refine aa_ic_geN iX0_stands_12 (by omega) (by omega) (fun h1 => ?_) (fun h1 => ?_)
    · skip
      refine aa_go (aa_iconst iX0_stands_34 ki_1) (aa_go (aa_goto iX0_stands_35) ?_)
      refine aa_zretT iX0_stands_39 rfl ?_
      exact ⟨by rw [stC, decide_eq_true h1]; rfl, rfl⟩
    · skip
      refine aa_go (aa_iload1 iX0_stands_15) (aa_go (aa_iload2 iX0_stands_16) (aa_go (aa_iload3 iX0_stands_17) ?_))
      refine aa_ic_geN iX0_stands_18 (by omega) (by omega) (fun h2 => ?_) (fun h2 => ?_)
      · skip
        refine aa_go (aa_iload2 iX0_stands_25) (aa_go (aa_iload3 iX0_stands_26) (aa_go (aa_isubN iX0_stands_27 (by omega)) ?_))
        exact fin _ (by omega) (by rw [if_neg (by omega)]) (by omega)
      · skip
        refine aa_go (aa_iload2 iX0_stands_21) (aa_go (aa_goto iX0_stands_22) ?_)
        exact fin _ (by omega) (by rw [if_pos h2]) (by omega)
  obtain ⟨ra, σ', ⟨rfl, rfl⟩, hS9⟩ := aa_S_of (avs := [.ref 49, .int (nI p), .int (nI c)]) (by decide) 1 [some (.ref 49), some (.int (nI p)), some (.int (nI c)), none] rfl rfl key
  exact hS9
theorem c_X0_partBy (hW : aa_W r dy σ) (hO : FO P T 51 σ.1) {p c : Nat} (hc : c < 100) : aa_SX mX0_partBy 2 [.ref 49, .int (nI p), .int (nI c)] σ (some (.int (nI (pbC P T p c)))) σ := by
  have h8 := hO.2.1
  refine aa_E_of (by decide) 0 [some (.ref 49), some (.int (nI p)), some (.int (nI c))] rfl rfl ?_
  refine aa_go (aa_iload2 iX0_partBy_0) (aa_go (aa_aload0 iX0_partBy_1) (aa_go (aa_getR iX0_partBy_2 fl_X0_50 (sh_49 hW) rfl) (aa_go (aa_cVi iX0_partBy_5 (c_X1_many51 hW hO.2.2.1) (by decide) lc_X1_many lk_X0_99 (sh_51 hW) rfl rfl (Nat.le_of_ble_eq_true rfl)) ?_)))
  refine aa_ic_geN iX0_partBy_8 (by omega) (by omega) (fun h1 => ?_) (fun h1 => ?_)
  · skip
    refine aa_go (aa_iload1 iX0_partBy_23) ?_
    refine aa_iret iX0_partBy_24 rfl ?_
    exact ⟨by rw [pbC, if_neg (by omega)], rfl⟩
  · skip
    refine aa_go (aa_aload0 iX0_partBy_11) (aa_go (aa_getR iX0_partBy_12 fl_X0_50 (sh_49 hW) rfl) (aa_go (aa_iload1 iX0_partBy_15) (aa_go (aa_iload2 iX0_partBy_16) (aa_go (aa_cVi iX0_partBy_17 (c_X1_behind51 hW hO h1) (by decide) lc_X1_behind lk_X0_105 (sh_51 hW) rfl rfl (Nat.le_of_ble_eq_true rfl)) (aa_go (aa_goto iX0_partBy_20) ?_)))))
    refine aa_iret iX0_partBy_24 rfl ?_
    exact ⟨by rw [pbC, if_pos h1], rfl⟩
theorem c_X0_laidBy (hW : aa_W r dy σ) (hN : FN T 51 σ.1) (h8 : pl_cn T 14 ≤ 8) {c : Nat} (hc : c < 100) : aa_SX mX0_laidBy 2 [.ref 49, .int (nI c)] σ (some (.int (nI (lyC T c)))) σ := by
  refine aa_E_of (by decide) 1 [some (.ref 49), some (.int (nI c)), none] rfl rfl ?_
  refine aa_go (aa_aload0 iX0_laidBy_0) (aa_go (aa_getR iX0_laidBy_1 fl_X0_50 (sh_49 hW) rfl) (aa_go (aa_cVi iX0_laidBy_4 (c_X1_many51 hW hN) (by decide) lc_X1_many lk_X0_99 (sh_51 hW) rfl rfl (Nat.le_of_ble_eq_true rfl)) (aa_go (aa_istore2 iX0_laidBy_7 rfl (by decide)) (aa_go (aa_iload1 iX0_laidBy_8) (aa_go (aa_iload2 iX0_laidBy_9) ?_)))))
  refine aa_ic_geN iX0_laidBy_10 (by omega) (by omega) (fun h1 => ?_) (fun h1 => ?_)
  · skip
    refine aa_go (aa_iload1 iX0_laidBy_18) (aa_go (aa_iconst iX0_laidBy_19 ki_2) (aa_go (aa_iload2 iX0_laidBy_20) (aa_go (aa_imulN iX0_laidBy_21 ) ?_)))
    refine aa_ic_geN iX0_laidBy_22 (by omega) (by omega) (fun h2 => ?_) (fun h2 => ?_)
    · skip
      refine aa_go (aa_bipush iX0_laidBy_31 kb_8) ?_
      refine aa_iret iX0_laidBy_33 rfl ?_
      exact ⟨by rw [lyC, if_neg (by omega), if_neg (by omega)], rfl⟩
    · skip
      refine aa_go (aa_iload1 iX0_laidBy_25) (aa_go (aa_iload2 iX0_laidBy_26) (aa_go (aa_isubN iX0_laidBy_27 (by omega)) (aa_go (aa_goto iX0_laidBy_28) ?_)))
      refine aa_iret iX0_laidBy_33 rfl ?_
      exact ⟨by rw [lyC, if_neg (by omega), if_pos h2], rfl⟩
  · skip
    refine aa_go (aa_bipush iX0_laidBy_13 kb_9) (aa_go (aa_goto iX0_laidBy_15) ?_)
    refine aa_iret iX0_laidBy_33 rfl ?_
    exact ⟨by rw [lyC, if_pos h1], rfl⟩
theorem c_X0_turns (ok : pl_ok P) (hb0 : pl_b P = 0) (hR : R < 67108864) (he : e ≤ 1) (ht : t ≤ 1) (hL : LK r dy P v T t e R σ) {p x y : Nat} (hp : p < 2 ^ pl_cn T 14) (hx : vd T x) (hy : vd T y) : ∃ σ' : aa_St, (FrI (r 6) σ σ' ∧ LK r dy P v T t e R σ') ∧ aa_SX mX0_turns 67 [.ref 49, .int (nI p), .int (nI x), .int (nI y)] σ (some (.int (nI (tnC P T e t p x y).toNat))) σ' := by
  obtain ⟨h87, hsh, hV, h4, h5, h7, hw⟩ := id hL
  have hW := hV.1
  have h8 := hV.2.1.2.1
  have p256 : p < 256 := Nat.lt_of_lt_of_le hp (pw_lt (n := 8) h8)
  have hr6 : ∀ σ2 : aa_St, aa_W r dy σ2 → σ2.2.2.1[r 6]? = some (.inl (0, 25600)) := fun σ2 h2 => by rw [h2, ← hW]; exact hsh
  have m20 := ccM_le (T := T) ok p (min (lfC p x) (lfC p y)) (max (lfC p x) (lfC p y))
  obtain ⟨σ2, ⟨hF2, hK2⟩, hS2⟩ := c_X0_victoryBehind (d := 5 + 3 * 20) (h := t) (dp := 0) (p := p) h87 hV (by omega) hx hy (by omega) ht (by
    obtain ⟨σ4, hA, hS4⟩ := c_X0_victory hr6 h87 ok hb0 hR he 20 p (min (lfC p x) (lfC p y)) (max (lfC p x) (lfC p y)) t 0 σ m20 hp (vd_min (vd_lfC hx) (vd_lfC hy)) (vd_max (vd_lfC hx) (vd_lfC hy)) (by omega) ht (by omega) hV
    exact ⟨σ4, hA, hS4⟩) (by omega)
  have hL2 := hL.tr hF2 hK2
  have hW2 := hL2.2.2.1.1
  have t1 : (ccB P T e t p x y).toNat ≤ 1 := Bool.toNat_le _
  have t2 : (cc1 P T e t (2 ^ pl_cn T 14 - 1) 9 9).toNat ≤ 1 := Bool.toNat_le _
  refine ⟨σ2, ⟨hF2, hL2⟩, ?_⟩
  refine aa_E_of (by decide) 0 [some (.ref 49), some (.int (nI p)), some (.int (nI x)), some (.int (nI y))] rfl rfl ?_
  refine aa_go (aa_aload0 iX0_turns_0) (aa_go (aa_iload1 iX0_turns_1) (aa_go (aa_iload2 iX0_turns_2) (aa_go (aa_iload3 iX0_turns_3) (aa_go (aa_aload0 iX0_turns_4) (aa_go (aa_getE iX0_turns_5 fl_X0_28 (sh_49 hW) rfl h7) (aa_go (aa_iconst iX0_turns_8 ki_0) (aa_go (aa_cVi iX0_turns_9 (hS2) (by decide) lc_X0_victoryBehind lk_X0_108 (sh_49 hW) rfl rfl (Nat.le_of_ble_eq_true rfl)) ?_)))))))
  refine aa_go (aa_aload0 iX0_turns_12) (aa_go (aa_getE iX0_turns_13 fl_X0_31 (sh_49 hW2) rfl hL2.2.2.2.2.2.2) ?_)
  refine aa_ic_eqN iX0_turns_16 (by omega) (by omega) (fun g1 => ?_) (fun g1 => ?_)
  · skip
    refine aa_go (aa_iconst iX0_turns_23 ki_0) ?_
    refine aa_zretF iX0_turns_24 rfl ?_
    refine ⟨?_, rfl⟩
    have : tnC P T e t p x y = false := by
      rw [tnC]
      cases q1 : ccB P T e t p x y <;> cases q2 : cc1 P T e t (2 ^ pl_cn T 14 - 1) 9 9 <;> rw [q1, q2] at g1 <;> first | rfl | exact absurd g1 (by decide)
    rw [this]; rfl
  · skip
    refine aa_go (aa_iconst iX0_turns_19 ki_1) (aa_go (aa_goto iX0_turns_20) ?_)
    refine aa_zretT iX0_turns_24 rfl ?_
    refine ⟨?_, rfl⟩
    have : tnC P T e t p x y = true := by
      rw [tnC]
      cases q1 : ccB P T e t p x y <;> cases q2 : cc1 P T e t (2 ^ pl_cn T 14 - 1) 9 9 <;> rw [q1, q2] at g1 <;> first | rfl | exact absurd rfl g1
    rw [this]; rfl
theorem c_X0_secondBehind (ok : pl_ok P) (hb0 : pl_b P = 0) (hR : R < 67108864) (he : e ≤ 1) (ht : t ≤ 1) (hL : LK r dy P v T t e R σ) {p x : Nat} (hp : p < 2 ^ pl_cn T 14) (hx : vd T x) : ∃ σ' : aa_St, (FrI (r 6) σ σ' ∧ LK r dy P v T t e R σ') ∧ aa_SX mX0_secondBehind 68 [.ref 49, .int (nI p), .int (nI x)] σ (some (.int (oI (fwc P T e t p x)))) σ' := by
  have h8 := hL.2.2.1.2.1.2.1
  have p256 : p < 256 := Nat.lt_of_lt_of_le hp (pw_lt (n := 8) h8)
  have k17 : kdC T ≤ 17 := by rw [kdC]; omega
  have loop : ∀ f d (σ1 : aa_St), kdC T - d < f → d ≤ kdC T → FrI (r 6) σ σ1 → LK r dy P v T t e R σ1 → (List.range d).find? (t2C P T e t p x) = none → aa_V mX0_secondBehind 68 2 [some (.ref 49), some (.int (nI p)), some (.int (nI x)), some (.int (nI d))] [] σ1 (fun ra σ' => ra = some (.int (oI (fwc P T e t p x))) ∧ FrI (r 6) σ σ' ∧ LK r dy P v T t e R σ') := by
    intro f
    induction f with
    | zero => intro d σ1 g1; omega
    | succ f ih =>
      intro d σ1 g1 g2 hF hL1 hno
      have hW1 := hL1.2.2.1.1
      have hO1 := hL1.2.2.1.2.1
      have nxt := rfind_n hno
      refine aa_go (aa_iload3 iX0_secondBehind_2) (aa_go (aa_aload0 iX0_secondBehind_3) (aa_go (aa_cVi iX0_secondBehind_4 (c_X0_kinds hW1 hO1.2.2.1) (by decide) lc_X0_kinds lk_X0_74 (sh_49 hW1) rfl rfl (Nat.le_of_ble_eq_true rfl)) ?_))
      refine aa_ic_geN iX0_secondBehind_7 (by omega) (by omega) (fun g3 => ?_) (fun g3 => ?_)
      · skip
        have e1 : d = kdC T := by omega
        subst e1
        refine aa_go (aa_iconst iX0_secondBehind_46 ki_m1) ?_
        refine aa_iret iX0_secondBehind_47 rfl ?_
        exact ⟨by rw [fwc, hno]; rfl, hF, hL1⟩
      · skip
        refine aa_go (aa_aload0 iX0_secondBehind_10) (aa_go (aa_iload1 iX0_secondBehind_11) (aa_go (aa_iload3 iX0_secondBehind_12) (aa_go (aa_cVi iX0_secondBehind_13 (c_X0_stands hW1 hO1.2.2.1 h8 p256 (by omega)) (by decide) lc_X0_stands lk_X0_95 (sh_49 hW1) rfl rfl (Nat.le_of_ble_eq_true rfl)) ?_)))
        refine aa_if_eqB iX0_secondBehind_16 (fun g4 => ?_) (fun g4 => ?_)
        · skip
          refine aa_go (aa_iincN3 (k := 1) iX0_secondBehind_40 rfl (by decide)) (aa_go (aa_goto iX0_secondBehind_43) ?_)
          exact ih (d + 1) σ1 (by omega) (by omega) hF hL1 (by rw [nxt, if_neg (by rw [t2C, g4]; simp)])
        · skip
          obtain ⟨σ2, ⟨hF2, hL2⟩, hS2⟩ := c_X0_turns ok hb0 hR he ht hL1 (p := pbC P T p d) (x := x) (y := lyC T d) (pbC_lt hp) hx (vd_ly T d)
          refine aa_go (aa_aload0 iX0_secondBehind_19) (aa_go (aa_aload0 iX0_secondBehind_20) (aa_go (aa_iload1 iX0_secondBehind_21) (aa_go (aa_iload3 iX0_secondBehind_22) (aa_go (aa_cVi iX0_secondBehind_23 (c_X0_partBy hW1 hO1 (by omega)) (by decide) lc_X0_partBy lk_X0_77 (sh_49 hW1) rfl rfl (Nat.le_of_ble_eq_true rfl)) (aa_go (aa_iload2 iX0_secondBehind_26) (aa_go (aa_aload0 iX0_secondBehind_27) (aa_go (aa_iload3 iX0_secondBehind_28) ?_)))))))
          refine aa_go (aa_cVi iX0_secondBehind_29 (c_X0_laidBy hW1 hO1.2.2.1 h8 (by omega)) (by decide) lc_X0_laidBy lk_X0_81 (sh_49 hW1) rfl rfl (Nat.le_of_ble_eq_true rfl)) (aa_go (aa_cVi iX0_secondBehind_32 (hS2) (by decide) lc_X0_turns lk_X0_85 (sh_49 hW1) rfl rfl (Nat.le_of_ble_eq_true rfl)) ?_)
          refine aa_if_eqB iX0_secondBehind_35 (fun g5 => ?_) (fun g5 => ?_)
          · skip
            refine aa_go (aa_iincN3 (k := 1) iX0_secondBehind_40 rfl (by decide)) (aa_go (aa_goto iX0_secondBehind_43) ?_)
            exact ih (d + 1) σ2 (by omega) (by omega) (hF.tr hF2) hL2 (by rw [nxt, if_neg (by rw [t2C, g5]; simp)])
          · skip
            refine aa_go (aa_iload3 iX0_secondBehind_38) ?_
            refine aa_iret iX0_secondBehind_39 rfl ?_
            exact ⟨by rw [fwc, rfind_d (by omega : d + 1 ≤ kdC T) (by rw [nxt, if_pos (by rw [t2C, g4, g5]; rfl)])]; rfl, hF.tr hF2, hL2⟩
  have key : aa_V mX0_secondBehind 68 0 [some (.ref 49), some (.int (nI p)), some (.int (nI x)), none] [] σ (fun ra σ' => ra = some (.int (oI (fwc P T e t p x))) ∧ FrI (r 6) σ σ' ∧ LK r dy P v T t e R σ') := by
    refine aa_go (aa_iconst iX0_secondBehind_0 ki_0) (aa_go (aa_istore3 iX0_secondBehind_1 rfl (by decide)) ?_)
    exact loop (kdC T + 1) 0 σ (by omega) (by omega) FrI.rf hL rfl
  obtain ⟨ra, σ', ⟨rfl, h1⟩, hS9⟩ := aa_S_of (avs := [.ref 49, .int (nI p), .int (nI x)]) (by decide) 1 [some (.ref 49), some (.int (nI p)), some (.int (nI x)), none] rfl rfl key
  exact ⟨σ', h1, hS9⟩
theorem al_lt (T : Nat) : alC T < 2 ^ pl_cn T 14 := by
  have := pw_pos (pl_cn T 14)
  rw [alC]; omega
theorem c_X0_turning {r0 : Nat → Nat} {dy0 : List aa_Shp} {σ0 : aa_St} (hW0 : aa_W r0 dy0 σ0) (ok : pl_ok P) (hb0 : pl_b P = 0) (hR : R < 67108864) (he : e ≤ 1) (ht : t ≤ 1) (hS0 : aa_SX mX0_look 80 [.ref 49, .int (nI T), .int (nI t), .int (nI e)] σ0 none σ) (hL : LK r dy P v T t e R σ) : ∃ σ' : aa_St, (FrI (r 6) σ σ' ∧ LK r dy P v T t e R σ') ∧ aa_SX mX0_turning 81 [.ref 49, .int (nI T), .int (nI t), .int (nI e)] σ0 (some (.long (lN (tbC P T e t (kdC T))))) σ' := by
  have h8 := hL.2.2.1.2.1.2.1
  have k17 : kdC T ≤ 17 := by rw [kdC]; omega
  have loop : ∀ f c (σ1 : aa_St), kdC T - c < f → c ≤ kdC T → FrI (r 6) σ σ1 → LK r dy P v T t e R σ1 → aa_V mX0_turning 81 13 [some (.ref 49), some (.int (nI T)), some (.int (nI t)), some (.int (nI e)), some (.long (lN (tbC P T e t c))), none, some (.int (nI c))] [] σ1 (fun ra σ' => ra = some (.long (lN (tbC P T e t (kdC T)))) ∧ FrI (r 6) σ σ' ∧ LK r dy P v T t e R σ') := by
    intro f
    induction f with
    | zero => intro c σ1 g1; omega
    | succ f ih =>
      intro c σ1 g1 g2 hF hL1
      have hW1 := hL1.2.2.1.1
      have hO1 := hL1.2.2.1.2.1
      refine aa_go (aa_iload6 iX0_turning_13) (aa_go (aa_aload0 iX0_turning_15) (aa_go (aa_cVi iX0_turning_16 (c_X0_kinds hW1 hO1.2.2.1) (by decide) lc_X0_kinds lk_X0_74 (sh_49 hW1) rfl rfl (Nat.le_of_ble_eq_true rfl)) ?_))
      refine aa_ic_geN iX0_turning_19 (by omega) (by omega) (fun g3 => ?_) (fun g3 => ?_)
      · skip
        have e1 : c = kdC T := by omega
        subst e1
        refine aa_go (aa_lload4 iX0_turning_69) ?_
        refine aa_lret iX0_turning_71 rfl ?_
        exact ⟨rfl, hF, hL1⟩
      · skip
        obtain ⟨σ2, ⟨hF2, hL2⟩, hS2⟩ := c_X0_turns ok hb0 hR he ht hL1 (p := pbC P T (alC T) c) (x := 9) (y := lyC T c) (pbC_lt (al_lt T)) vd9 (vd_ly T c)
        have nxt := ih (c + 1) σ2 (by omega) (by omega) (hF.tr hF2) hL2
        refine aa_go (aa_aload0 iX0_turning_22) (aa_go (aa_aload0 iX0_turning_23) (aa_go (aa_aload0 iX0_turning_24) (aa_go (aa_getR iX0_turning_25 fl_X0_50 (sh_49 hW1) rfl) (aa_go (aa_cVi iX0_turning_28 (c_X1_all51 hW1 hO1.2.2.1) (by decide) lc_X1_all lk_X0_63 (sh_51 hW1) rfl rfl (Nat.le_of_ble_eq_true rfl)) (aa_go (aa_iload6 iX0_turning_31) (aa_go (aa_cVi iX0_turning_33 (c_X0_partBy hW1 hO1 (by omega)) (by decide) lc_X0_partBy lk_X0_77 (sh_49 hW1) rfl rfl (Nat.le_of_ble_eq_true rfl)) (aa_go (aa_bipush iX0_turning_36 kb_9) ?_)))))))
        refine aa_go (aa_aload0 iX0_turning_38) (aa_go (aa_iload6 iX0_turning_39) (aa_go (aa_cVi iX0_turning_41 (c_X0_laidBy hW1 hO1.2.2.1 h8 (by omega)) (by decide) lc_X0_laidBy lk_X0_81 (sh_49 hW1) rfl rfl (Nat.le_of_ble_eq_true rfl)) (aa_go (aa_cVi iX0_turning_44 (hS2) (by decide) lc_X0_turns lk_X0_85 (sh_49 hW1) rfl rfl (Nat.le_of_ble_eq_true rfl)) ?_)))
        refine aa_if_eqB iX0_turning_47 (fun g5 => ?_) (fun g5 => ?_)
        · skip
          rw [tbC, t1C, g5] at nxt
          refine aa_go (aa_iincN6 (k := 1) iX0_turning_63 rfl (by decide)) (aa_go (aa_goto iX0_turning_66) ?_)
          exact nxt
        · skip
          rw [tbC, t1C, g5] at nxt
          have nl := nmC_le T c
          refine aa_go (aa_lload4 iX0_turning_50) (aa_go (aa_lconst iX0_turning_52 kl_1) (aa_go (aa_aload0 iX0_turning_53) (aa_go (aa_iload6 iX0_turning_54) (aa_go (aa_cVi iX0_turning_56 (c_X0_named hL2.2.2.1.1 hL2.2.2.1.2.1.2.2.1 h8 (by omega)) (by decide) lc_X0_named lk_X0_89 (sh_49 hL2.2.2.1.1) rfl rfl (Nat.le_of_ble_eq_true rfl)) (aa_go (aa_lshlN iX0_turning_59 (by omega)) (aa_go (aa_lorN iX0_turning_60 ) (aa_go (aa_lstore4 iX0_turning_61 rfl (by decide)) ?_)))))))
          refine aa_go (aa_iincN6 (k := 1) iX0_turning_63 rfl (by decide)) (aa_go (aa_goto iX0_turning_66) ?_)
          exact nxt
  have key : aa_V mX0_turning 81 0 [some (.ref 49), some (.int (nI T)), some (.int (nI t)), some (.int (nI e)), none, none, none] [] σ0 (fun ra σ' => ra = some (.long (lN (tbC P T e t (kdC T)))) ∧ FrI (r 6) σ σ' ∧ LK r dy P v T t e R σ') := by
    refine aa_go (aa_aload0 iX0_turning_0) (aa_go (aa_iload1 iX0_turning_1) (aa_go (aa_iload2 iX0_turning_2) (aa_go (aa_iload3 iX0_turning_3) (aa_go (aa_cVv iX0_turning_4 (hS0) (by decide) lc_X0_look lk_X0_70 (sh_49 hW0) rfl rfl (Nat.le_of_ble_eq_true rfl)) (aa_go (aa_lconst iX0_turning_7 kl_0) (aa_go (aa_lstore4 iX0_turning_8 rfl (by decide)) (aa_go (aa_iconst iX0_turning_10 ki_0) ?_)))))))
    refine aa_go (aa_istore6 iX0_turning_11 rfl (by decide)) ?_
    exact loop (kdC T + 1) 0 σ (by omega) (by omega) FrI.rf hL
  obtain ⟨ra, σ', ⟨rfl, h1⟩, hS9⟩ := aa_S_of (avs := [.ref 49, .int (nI T), .int (nI t), .int (nI e)]) (by decide) 3 [some (.ref 49), some (.int (nI T)), some (.int (nI t)), some (.int (nI e)), none, none, none] rfl rfl key
  exact ⟨σ', h1, hS9⟩
/-- what fewest() tells -/
def FWR (P : pl_T) (T e t : Nat) (ra : Option Value) (σ' : aa_St) : Prop := (∃ c, fw1 P T e t = some c ∧ ra = some (.int (nI 1)) ∧ σ'.1 49 9 = nI (nmC T c)) ∨ (fw1 P T e t = none ∧ ∃ c d, fw2 P T e t = some (c, d) ∧ ra = some (.int (nI 2)) ∧ σ'.1 49 9 = nI (nmC T c) ∧ σ'.1 49 10 = nI (nmC T d)) ∨ (fw1 P T e t = none ∧ fw2 P T e t = none ∧ ra = some (.int (-2)))
theorem oI_none {o : Option Nat} (h : ∀ x, o = some x → x < 100) : oI o = -1 ↔ o = none := by
  cases o with
  | none => exact ⟨fun _ => rfl, fun _ => rfl⟩
  | some x =>
    refine ⟨fun q => ?_, fun q => nomatch q⟩
    have h1 := h x rfl
    exact absurd q (nI_m1ne (by omega))
theorem c_X0_fewest {r0 : Nat → Nat} {dy0 : List aa_Shp} {σ0 : aa_St} (hW0 : aa_W r0 dy0 σ0) (ok : pl_ok P) (hb0 : pl_b P = 0) (hR : R < 67108864) (he : e ≤ 1) (ht : t ≤ 1) (hS0 : aa_SX mX0_look 80 [.ref 49, .int (nI T), .int (nI t), .int (nI e)] σ0 none σ) (hL : LK r dy P v T t e R σ) : ∃ (ra : Option Value) (σ' : aa_St), (FrA [49, r 6] σ σ' ∧ LK r dy P v T t e R σ' ∧ FWR P T e t ra σ') ∧ aa_SX mX0_fewest 81 [.ref 49, .int (nI T), .int (nI t), .int (nI e)] σ0 ra σ' := by
  have h8 := hL.2.2.1.2.1.2.1
  have k17 : kdC T ≤ 17 := by rw [kdC]; omega
  have loop2 : ∀ f c (σ1 : aa_St) y6, kdC T - c < f → c ≤ kdC T → FrI (r 6) σ σ1 → LK r dy P v T t e R σ1 → fw1 P T e t = none → (List.range c).findSome? (fwd P T e t) = none → aa_V mX0_fewest 81 72 [some (.ref 49), some (.int (nI T)), some (.int (nI t)), some (.int (nI e)), some (.int (nI (alC T))), some (.int (nI c)), y6] [] σ1 (fun ra σ' => FrA [49, r 6] σ σ' ∧ LK r dy P v T t e R σ' ∧ FWR P T e t ra σ') := by
    intro f
    induction f with
    | zero => intro c σ1 y6 g1; omega
    | succ f ih =>
      intro c σ1 y6 g1 g2 hF hL1 hf1 hno
      have hW1 := hL1.2.2.1.1
      have hO1 := hL1.2.2.1.2.1
      have nxt := rsome_n hno
      refine aa_go (aa_iload5 iX0_fewest_72) (aa_go (aa_aload0 iX0_fewest_74) (aa_go (aa_cVi iX0_fewest_75 (c_X0_kinds hW1 hO1.2.2.1) (by decide) lc_X0_kinds lk_X0_74 (sh_49 hW1) rfl rfl (Nat.le_of_ble_eq_true rfl)) ?_))
      refine aa_ic_geN iX0_fewest_78 (by omega) (by omega) (fun g3 => ?_) (fun g3 => ?_)
      · skip
        have e1 : c = kdC T := by omega
        subst e1
        refine aa_go (aa_bipush iX0_fewest_135 kb_m2) ?_
        refine aa_iret iX0_fewest_137 rfl ?_
        exact ⟨hF.A (by simp), hL1, Or.inr (Or.inr ⟨hf1, hno, rfl⟩)⟩
      · skip
        obtain ⟨σ2, ⟨hF2, hL2⟩, hS2⟩ := c_X0_secondBehind ok hb0 hR he ht hL1 (p := pbC P T (alC T) c) (x := lyC T c) (pbC_lt (al_lt T)) (vd_ly T c)
        have hW2 := hL2.2.2.1.1
        have hon := oI_none (o := fwc P T e t (pbC P T (alC T) c) (lyC T c)) (fun d hd => by
          have := List.mem_range.mp (List.mem_of_find?_eq_some hd); omega)
        refine aa_go (aa_aload0 iX0_fewest_81) (aa_go (aa_aload0 iX0_fewest_82) (aa_go (aa_iload4 iX0_fewest_83) (aa_go (aa_iload5 iX0_fewest_85) (aa_go (aa_cVi iX0_fewest_87 (c_X0_partBy hW1 hO1 (by omega)) (by decide) lc_X0_partBy lk_X0_77 (sh_49 hW1) rfl rfl (Nat.le_of_ble_eq_true rfl)) (aa_go (aa_aload0 iX0_fewest_90) (aa_go (aa_iload5 iX0_fewest_91) (aa_go (aa_cVi iX0_fewest_93 (c_X0_laidBy hW1 hO1.2.2.1 h8 (by omega)) (by decide) lc_X0_laidBy lk_X0_81 (sh_49 hW1) rfl rfl (Nat.le_of_ble_eq_true rfl)) ?_)))))))
        refine aa_go (aa_cVi iX0_fewest_96 (hS2) (by decide) lc_X0_secondBehind lk_X0_92 (sh_49 hW1) rfl rfl (Nat.le_of_ble_eq_true rfl)) (aa_go (aa_istore6 iX0_fewest_99 rfl (by decide)) (aa_go (aa_iload6 iX0_fewest_101) (aa_go (aa_iconst iX0_fewest_103 ki_m1) ?_)))
        refine aa_ic_eq iX0_fewest_104 (fun g5 => ?_) (fun g5 => ?_)
        · skip
          have e5 := hon.mp g5
          refine aa_go (aa_iincN5 (k := 1) iX0_fewest_129 rfl (by decide)) (aa_go (aa_goto iX0_fewest_132) ?_)
          exact ih (c + 1) σ2 _ (by omega) (by omega) (hF.tr hF2) hL2 hf1 (by rw [nxt, fwd, e5]; rfl)
        · skip
          cases e5 : fwc P T e t (pbC P T (alC T) c) (lyC T c) with
          | none => exact absurd (hon.mpr e5) g5
          | some d =>
            have d17 : d < kdC T := List.mem_range.mp (List.mem_of_find?_eq_some e5)
            have hL3 := hL2.s (k := 9) (by omega) (nI (nmC T c))
            show aa_V mX0_fewest 81 107 [some (.ref 49), some (.int (nI T)), some (.int (nI t)), some (.int (nI e)), some (.int (nI (alC T))), some (.int (nI c)), some (.int (nI d))] [] σ2 _
            refine aa_go (aa_aload0 iX0_fewest_107) (aa_go (aa_aload0 iX0_fewest_108) (aa_go (aa_iload5 iX0_fewest_109) (aa_go (aa_cVi iX0_fewest_111 (c_X0_named hW2 hL2.2.2.1.2.1.2.2.1 h8 (by omega)) (by decide) lc_X0_named lk_X0_89 (sh_49 hW2) rfl rfl (Nat.le_of_ble_eq_true rfl)) (aa_go (aa_putI iX0_fewest_114 fl_X0_35 (fun h => nomatch h) (sh_49 hW2) rfl ⟨rfl, rfl⟩) (aa_go (aa_aload0 iX0_fewest_117) (aa_go (aa_aload0 iX0_fewest_118) (aa_go (aa_iload6 iX0_fewest_119) ?_)))))))
            refine aa_go (aa_cVi iX0_fewest_121 (c_X0_named hL3.2.2.1.1 hL3.2.2.1.2.1.2.2.1 h8 (by omega)) (by decide) lc_X0_named lk_X0_89 (sh_49 hW2) rfl rfl (Nat.le_of_ble_eq_true rfl)) (aa_go (aa_putI iX0_fewest_124 fl_X0_38 (fun h => nomatch h) (sh_49 hW2) rfl ⟨rfl, rfl⟩) (aa_go (aa_iconst iX0_fewest_127 ki_2) ?_))
            refine aa_iret iX0_fewest_128 rfl ?_
            have fA : FrA [49, r 6] σ σ2 := (hF.tr hF2).A (by simp)
            refine ⟨(fA.s (by simp) _ _).s (by simp) _ _, hL3.s (by omega) _, Or.inr (Or.inl ⟨hf1, c, d, ?_, rfl, ?_, ?_⟩)⟩
            · rw [fw2]; exact rsome_d (by omega : c + 1 ≤ kdC T) (by rw [nxt, fwd, e5]; rfl)
            · rw [sI_nk (by decide), sI_eq]
            · rw [sI_eq]
  have loop1 : ∀ f c (σ1 : aa_St), kdC T - c < f → c ≤ kdC T → FrI (r 6) σ σ1 → LK r dy P v T t e R σ1 → (List.range c).find? (t1C P T e t) = none → aa_V mX0_fewest 81 19 [some (.ref 49), some (.int (nI T)), some (.int (nI t)), some (.int (nI e)), some (.int (nI (alC T))), some (.int (nI c)), none] [] σ1 (fun ra σ' => FrA [49, r 6] σ σ' ∧ LK r dy P v T t e R σ' ∧ FWR P T e t ra σ') := by
    intro f
    induction f with
    | zero => intro c σ1 g1; omega
    | succ f ih =>
      intro c σ1 g1 g2 hF hL1 hno
      have hW1 := hL1.2.2.1.1
      have hO1 := hL1.2.2.1.2.1
      have nxt := rfind_n hno
      refine aa_go (aa_iload5 iX0_fewest_19) (aa_go (aa_aload0 iX0_fewest_21) (aa_go (aa_cVi iX0_fewest_22 (c_X0_kinds hW1 hO1.2.2.1) (by decide) lc_X0_kinds lk_X0_74 (sh_49 hW1) rfl rfl (Nat.le_of_ble_eq_true rfl)) ?_))
      refine aa_ic_geN iX0_fewest_25 (by omega) (by omega) (fun g3 => ?_) (fun g3 => ?_)
      · skip
        have e1 : c = kdC T := by omega
        subst e1
        refine aa_go (aa_iconst iX0_fewest_69 ki_0) (aa_go (aa_istore5 iX0_fewest_70 rfl (by decide)) ?_)
        exact loop2 (kdC T + 1) 0 σ1 _ (by omega) (by omega) hF hL1 hno rfl
      · skip
        obtain ⟨σ2, ⟨hF2, hL2⟩, hS2⟩ := c_X0_turns ok hb0 hR he ht hL1 (p := pbC P T (alC T) c) (x := 9) (y := lyC T c) (pbC_lt (al_lt T)) vd9 (vd_ly T c)
        have hW2 := hL2.2.2.1.1
        refine aa_go (aa_aload0 iX0_fewest_28) (aa_go (aa_aload0 iX0_fewest_29) (aa_go (aa_iload4 iX0_fewest_30) (aa_go (aa_iload5 iX0_fewest_32) (aa_go (aa_cVi iX0_fewest_34 (c_X0_partBy hW1 hO1 (by omega)) (by decide) lc_X0_partBy lk_X0_77 (sh_49 hW1) rfl rfl (Nat.le_of_ble_eq_true rfl)) (aa_go (aa_bipush iX0_fewest_37 kb_9) (aa_go (aa_aload0 iX0_fewest_39) (aa_go (aa_iload5 iX0_fewest_40) ?_)))))))
        refine aa_go (aa_cVi iX0_fewest_42 (c_X0_laidBy hW1 hO1.2.2.1 h8 (by omega)) (by decide) lc_X0_laidBy lk_X0_81 (sh_49 hW1) rfl rfl (Nat.le_of_ble_eq_true rfl)) (aa_go (aa_cVi iX0_fewest_45 (hS2) (by decide) lc_X0_turns lk_X0_85 (sh_49 hW1) rfl rfl (Nat.le_of_ble_eq_true rfl)) ?_)
        refine aa_if_eqB iX0_fewest_48 (fun g5 => ?_) (fun g5 => ?_)
        · skip
          refine aa_go (aa_iincN5 (k := 1) iX0_fewest_63 rfl (by decide)) (aa_go (aa_goto iX0_fewest_66) ?_)
          exact ih (c + 1) σ2 (by omega) (by omega) (hF.tr hF2) hL2 (by rw [nxt, if_neg (by rw [t1C, g5]; simp)])
        · skip
          refine aa_go (aa_aload0 iX0_fewest_51) (aa_go (aa_aload0 iX0_fewest_52) (aa_go (aa_iload5 iX0_fewest_53) (aa_go (aa_cVi iX0_fewest_55 (c_X0_named hW2 hL2.2.2.1.2.1.2.2.1 h8 (by omega)) (by decide) lc_X0_named lk_X0_89 (sh_49 hW2) rfl rfl (Nat.le_of_ble_eq_true rfl)) (aa_go (aa_putI iX0_fewest_58 fl_X0_35 (fun h => nomatch h) (sh_49 hW2) rfl ⟨rfl, rfl⟩) (aa_go (aa_iconst iX0_fewest_61 ki_1) ?_)))))
          refine aa_iret iX0_fewest_62 rfl ?_
          have fA : FrA [49, r 6] σ σ2 := (hF.tr hF2).A (by simp)
          refine ⟨fA.s (by simp) _ _, hL2.s (by omega) _, Or.inl ⟨c, ?_, rfl, by rw [sI_eq]⟩⟩
          rw [fw1]; exact rfind_d (by omega : c + 1 ≤ kdC T) (by rw [nxt, if_pos (by rw [t1C, g5])])
  have key : aa_V mX0_fewest 81 0 [some (.ref 49), some (.int (nI T)), some (.int (nI t)), some (.int (nI e)), none, none, none] [] σ0 (fun ra σ' => FrA [49, r 6] σ σ' ∧ LK r dy P v T t e R σ' ∧ FWR P T e t ra σ') := by
    refine aa_go (aa_aload0 iX0_fewest_0) (aa_go (aa_iload1 iX0_fewest_1) (aa_go (aa_iload2 iX0_fewest_2) (aa_go (aa_iload3 iX0_fewest_3) (aa_go (aa_cVv iX0_fewest_4 (hS0) (by decide) lc_X0_look lk_X0_70 (sh_49 hW0) rfl rfl (Nat.le_of_ble_eq_true rfl)) ?_))))
    refine aa_go (aa_aload0 iX0_fewest_7) (aa_go (aa_getR iX0_fewest_8 fl_X0_50 (sh_49 hL.2.2.1.1) rfl) (aa_go (aa_cVi iX0_fewest_11 (c_X1_all51 hL.2.2.1.1 hL.2.2.1.2.1.2.2.1) (by decide) lc_X1_all lk_X0_63 (sh_51 hL.2.2.1.1) rfl rfl (Nat.le_of_ble_eq_true rfl)) (aa_go (aa_istore4 iX0_fewest_14 rfl (by decide)) (aa_go (aa_iconst iX0_fewest_16 ki_0) (aa_go (aa_istore5 iX0_fewest_17 rfl (by decide)) ?_)))))
    exact loop1 (kdC T + 1) 0 σ (by omega) (by omega) FrI.rf hL rfl
  obtain ⟨ra, σ', h1, hS9⟩ := aa_S_of (avs := [.ref 49, .int (nI T), .int (nI t), .int (nI e)]) (by decide) 3 [some (.ref 49), some (.int (nI T)), some (.int (nI t)), some (.int (nI e)), none, none, none] rfl rfl key
  exact ⟨ra, σ', h1, hS9⟩
theorem c_X0_firstChange (hW : aa_W r dy σ) {n : Int32} (hn : σ.1 49 9 = n) : aa_SX mX0_firstChange 1 [.ref 49] σ (some (.int n)) σ := by
  refine aa_E_of (by decide) 0 [some (.ref 49)] rfl rfl ?_
  refine aa_go (aa_aload0 iX0_firstChange_0) (aa_go (aa_getE iX0_firstChange_1 fl_X0_35 (sh_49 hW) rfl hn) ?_)
  refine aa_iret iX0_firstChange_4 rfl ?_
  exact ⟨rfl, rfl⟩
theorem c_X0_secondChange (hW : aa_W r dy σ) {n : Int32} (hn : σ.1 49 10 = n) : aa_SX mX0_secondChange 1 [.ref 49] σ (some (.int n)) σ := by
  refine aa_E_of (by decide) 0 [some (.ref 49)] rfl rfl ?_
  refine aa_go (aa_aload0 iX0_secondChange_0) (aa_go (aa_getE iX0_secondChange_1 fl_X0_38 (sh_49 hW) rfl hn) ?_)
  refine aa_iret iX0_secondChange_4 rfl ?_
  exact ⟨rfl, rfl⟩
end
