/-! MEANS, of few things -/
def lZ (z : Int) : Int64 := Int64.ofInt z
theorem lZ_N (n : Nat) : lN n = lZ n := rfl
theorem lZ_sub (a b : Int) : lZ a - lZ b = lZ (a - b) := (Int64.ofInt_sub a b).symm
theorem lZ_add (a b : Int) : lZ a + lZ b = lZ (a + b) := (Int64.ofInt_add a b).symm
theorem lZ_mul (a b : Int) : lZ a * lZ b = lZ (a * b) := (Int64.ofInt_mul a b).symm
theorem lZ_neg (a : Int) : - lZ a = lZ (-a) := (Int64.ofInt_neg a).symm
theorem lZ_div {a b : Int} (h1 : -9223372036854775808 ≤ a) (h2 : a < 9223372036854775808) (h3 : -9223372036854775808 ≤ b) (h4 : b < 9223372036854775808) : lZ a / lZ b = lZ (a.tdiv b) :=
  (Int64.ofInt_tdiv (by rw [show Int64.minValue.toInt = -9223372036854775808 by decide]; exact h1) (by rw [show Int64.maxValue.toInt = 9223372036854775807 by decide]; omega) (by rw [show Int64.minValue.toInt = -9223372036854775808 by decide]; exact h3) (by rw [show Int64.maxValue.toInt = 9223372036854775807 by decide]; omega)).symm
theorem tdiv_bd {a : Int} {n B : Nat} (hn : 0 < n) (h1 : -((n * B : Nat) : Int) ≤ a) (h2 : a ≤ ((n * B : Nat) : Int)) : -(B : Int) ≤ a.tdiv n ∧ a.tdiv n ≤ B := by
  have e : (a.tdiv n).natAbs ≤ B := by
    rw [Int.natAbs_tdiv, Int.natAbs_natCast]
    have : a.natAbs ≤ n * B := by omega
    exact Nat.div_le_of_le_mul this
  omega
theorem cn_up {a n : Nat} (ha : a < 2 ^ n) : ∀ {m}, n ≤ m → pl_cn a m = pl_cn a n := by
  intro m h
  obtain ⟨d, rfl⟩ : ∃ d, m = n + d := ⟨m - n, by omega⟩
  clear h
  induction d with
  | zero => rfl
  | succ d ih => rw [show n + (d + 1) = n + d + 1 by omega, pl_cn, ih, bb_hi ha (by omega)]; simp
theorem lrec {α : Type} {C : List α → Prop} (h0 : C []) (hs : ∀ l a, C l → C (l ++ [a])) : ∀ l, C l := by
  have key : ∀ l : List α, C l.reverse := by
    intro l
    induction l with
    | nil => exact h0
    | cons a l ih => rw [List.reverse_cons]; exact hs _ a ih
  intro l
  have := key l.reverse
  rw [List.reverse_reverse] at this
  exact this
def mnS (P : pl_T) (s : Nat) (a : Int) (x : Nat × Int) : Int := a + ((pl_wo P (bd s (pl_nx P s x.1)) * 518400 : Nat) - x.2)
def mnG (P : pl_T) (_ s : Nat) (l : List (Nat × Int)) : Int := if l.isEmpty then 0 else (l.foldl (mnS P s) 0).tdiv l.length
def mn (P : pl_T) (h s : Nat) : Int := gv P (mnG P) (fun h => 1 - h) 0 h s
def mnA (P : pl_T) (h s : Nat) (l : List Nat) : Int := (l.map (fun j => (j, mn P (1 - h) (pl_nx P s j)))).foldl (mnS P s) 0
theorem mnA_c (P : pl_T) (h s : Nat) (l : List Nat) (j : Nat) : mnA P h s (l ++ [j]) = mnA P h s l + ((pl_wo P (bd s (pl_nx P s j)) * 518400 : Nat) - mn P (1 - h) (pl_nx P s j)) := by
  rw [mnA, List.map_append, List.foldl_append]; rfl
theorem mn_eq {P : pl_T} (ok : pl_ok P) (h s : Nat) : mn P h s = if pl_ML P h s = [] then 0 else (mnA P h s (pl_ML P h s)).tdiv (pl_ML P h s).length := by
  rw [mn, gv_eq ok, mnG, List.length_map]
  cases e : pl_ML P h s with
  | nil => rfl
  | cons a l => rfl
theorem mn_bd {P : pl_T} (ok : pl_ok P) : ∀ m h s, pl_mu P s ≤ m → -((518400 * pt P s : Nat) : Int) ≤ mn P h s ∧ mn P h s ≤ ((518400 * pt P s : Nat) : Int) := by
  intro m
  induction m using Nat.strongRecOn with
  | ind m ih =>
    intro h s hm
    rw [mn_eq ok]
    by_cases c : pl_ML P h s = []
    · rw [if_pos c]; omega
    · rw [if_neg c]
      have inv : ∀ l : List Nat, (∀ j, j ∈ l → pl_lg P h s j = true) → -((l.length * (518400 * pt P s) : Nat) : Int) ≤ mnA P h s l ∧ mnA P h s l ≤ ((l.length * (518400 * pt P s) : Nat) : Int) := by
        refine lrec ?_ ?_
        · intro _; exact ⟨by simp [mnA], by simp [mnA]⟩
        · intro l j ihl hl
          have i1 := ihl (fun x hx => hl x (List.mem_append_left _ hx))
          have lg := hl j (by simp)
          have mu := pl_mu_lt ok lg
          have st := pt_step ok lg
          have i2 := ih (pl_mu P (pl_nx P s j)) (by omega) (1 - h) (pl_nx P s j) (Nat.le_refl _)
          rw [mnA_c, List.length_append, List.length_singleton, Nat.add_mul]
          omega
      obtain ⟨i1, i2⟩ := inv (pl_ML P h s) (fun j hj => pl_ML_mem.mp hj)
      have hl : 0 < (pl_ML P h s).length := List.length_pos_iff.mpr c
      exact tdiv_bd hl i1 i2
theorem mn_le {P : pl_T} (ok : pl_ok P) (h s : Nat) : -74649600 ≤ mn P h s ∧ mn P h s ≤ 74649600 := by
  have h1 := mn_bd ok _ h s (Nat.le_refl _)
  have h2 := pt_le ok s
  omega
theorem mnA_le {P : pl_T} (ok : pl_ok P) (h s : Nat) : ∀ l : List Nat, -(150000000 * (l.length : Int)) ≤ mnA P h s l ∧ mnA P h s l ≤ 150000000 * (l.length : Int) := by
  refine lrec ?_ ?_
  · exact ⟨by simp [mnA], by simp [mnA]⟩
  · intro l j ih
    have h1 := mn_le ok (1 - h) (pl_nx P s j)
    have h2 := pl_wo_le ok (bd s (pl_nx P s j))
    rw [mnA_c, List.length_append, List.length_singleton]
    generalize mnA P h s l = A at *
    generalize mn P (1 - h) (pl_nx P s j) = B at *
    generalize pl_wo P (bd s (pl_nx P s j)) = C at *
    omega
theorem ex_bdd (T p q : Nat) : ex T (bd p q) = bd (ex T p) (ex T q) := by
  apply bb_ext
  intro i
  rw [exT_bit, bd_bit, bd_bit, exT_bit, exT_bit]
  cases decide (i < 14) <;> cases T.testBit i <;> simp
theorem FO.W {P : pl_T} {T q : Nat} {i : Nat → Nat → Int32} (h : FO P T q i) : pl_cn T 14 ≤ 8 := h.2.1
section
variable {r : Nat → Nat} {dy : List aa_Shp} {σ : aa_St} {P : pl_T} {hs : List Nat} {T : Nat}
theorem c_X1_worthOf (hW : aa_W r dy σ) (hX : XP P hs σ.1) (hF : FO P T 41 σ.1) {p : Nat} (hp : p < 2147483648) : aa_SX mX1_worthOf 3 [.ref 41, .int (nI p)] σ (some (.int (nI (pl_wo P (ex T p))))) σ := by
  have h8 := hF.2.1
  have hT := hF.1
  have hn := hX.n14
  have loop : ∀ f k, pl_cn T 14 - k < f → k ≤ pl_cn T 14 → aa_V mX1_worthOf 3 4 [some (.ref 41), some (.int (nI p)), some (.int (nI (fw P T p k))), some (.int (nI k))] [] σ (fun ra σ' => ra = some (.int (nI (pl_wo P (ex T p)))) ∧ σ' = σ) := by
    intro f
    induction f with
    | zero => intro k g1; omega
    | succ f ih =>
      intro k g1 g2
      refine aa_go (aa_iload3 iX1_worthOf_4) (aa_go (aa_aload0 iX1_worthOf_5) (aa_go (aa_getE iX1_worthOf_6 fl_X1_25 (sh_41 hW) rfl hF.2.2.1.1) ?_))
      refine aa_ic_geN iX1_worthOf_9 (by omega) (by omega) (fun g3 => ?_) (fun g3 => ?_)
      · skip
        have e1 : k = pl_cn T 14 := by omega
        subst e1
        rw [fw_wo hT hn]
        refine aa_go (aa_iload2 iX1_worthOf_40) ?_
        refine aa_iret iX1_worthOf_41 rfl ?_
        exact ⟨rfl, rfl⟩
      · skip
        have f14 := (fk_mem g3).1
        have fn := fk_n hT g3
        refine aa_go (aa_iload2 iX1_worthOf_12) (aa_go (aa_iload1 iX1_worthOf_13) (aa_go (aa_iload3 iX1_worthOf_14) (aa_go (aa_ishrN iX1_worthOf_15 (by omega) (by omega)) (aa_go (aa_iconst iX1_worthOf_16 ki_1) (aa_go (aa_ibit iX1_worthOf_17) (aa_go (aa_aload0 iX1_worthOf_18) (aa_go (aa_getR iX1_worthOf_19 fl_X1_38 (sh_41 hW) rfl) ?_)))))))
        refine aa_go (aa_aload0 iX1_worthOf_22) (aa_go (aa_getR iX1_worthOf_23 fl_X1_11 (sh_41 hW) rfl) (aa_go (aa_iload3 iX1_worthOf_26) (aa_go (aa_ialE iX1_worthOf_27 (sh_42 hW) (by omega) (by omega) (hF.2.2.1.2 k g3)) (aa_go (aa_cVi iX1_worthOf_28 (c_X6_worthAt hW hX (by omega)) (by decide) lc_X6_worthAt lk_X1_55 (sh_7 hW) rfl rfl (Nat.le_of_ble_eq_true rfl)) (aa_go (aa_imulN iX1_worthOf_31 ) (aa_go (aa_iaddN iX1_worthOf_32 ) ?_))))))
        refine aa_go (aa_top (y := nI (fw P T p (k + 1))) (by rw [if_pos fn, fw])) ?_
        refine aa_go (aa_istore2 iX1_worthOf_33 rfl (by decide)) (aa_go (aa_iincN3 (k := 1) iX1_worthOf_34 rfl (by decide)) (aa_go (aa_goto iX1_worthOf_37) ?_))
        exact ih (k + 1) (by omega) (by omega)
  have key : aa_V mX1_worthOf 3 0 [some (.ref 41), some (.int (nI p)), none, none] [] σ (fun ra σ' => ra = some (.int (nI (pl_wo P (ex T p)))) ∧ σ' = σ) := by
    refine aa_go (aa_iconst iX1_worthOf_0 ki_0) (aa_go (aa_istore2 iX1_worthOf_1 rfl (by decide)) (aa_go (aa_iconst iX1_worthOf_2 ki_0) (aa_go (aa_istore3 iX1_worthOf_3 rfl (by decide)) ?_)))
    exact loop (pl_cn T 14 + 1) 0 (by omega) (by omega)
  obtain ⟨ra, σ', ⟨rfl, rfl⟩, hS9⟩ := aa_S_of (avs := [.ref 41, .int (nI p)]) (by decide) 2 [some (.ref 41), some (.int (nI p)), none, none] rfl rfl key
  exact hS9
theorem c_X1_cell (hW : aa_W r dy σ) {p h : Nat} (hp : 2 * p + h < 128) : aa_SX mX1_cell 1 [.ref 41, .int (nI p), .int (nI h)] σ (some (.long (σ.2.1 45 (2 * p + h)))) σ := by
  refine aa_E_of (by decide) 1 [some (.ref 41), some (.int (nI p)), some (.int (nI h)), none] rfl rfl ?_
  refine aa_go (aa_iconst iX1_cell_0 ki_2) (aa_go (aa_iload1 iX1_cell_1) (aa_go (aa_imulN iX1_cell_2 ) (aa_go (aa_iload2 iX1_cell_3) (aa_go (aa_iaddN iX1_cell_4 ) (aa_go (aa_istore3 iX1_cell_5 rfl (by decide)) (aa_go (aa_iload3 iX1_cell_6) ?_))))))
  refine aa_go (aa_if_ltN iX1_cell_7 (by omega)) ?_
  refine aa_go (aa_iload3 iX1_cell_10) (aa_go (aa_aload0 iX1_cell_11) (aa_go (aa_getR iX1_cell_12 fl_X1_21 (sh_41 hW) rfl) (aa_go (aa_alen iX1_cell_15 (sh_45 hW) (by decide)) ?_)))
  refine aa_ic_geN iX1_cell_16 (by omega) (by omega) (fun h1 => ?_) (fun h1 => ?_)
  · skip
    omega
  · skip
    refine aa_go (aa_aload0 iX1_cell_19) (aa_go (aa_getR iX1_cell_20 fl_X1_21 (sh_41 hW) rfl) (aa_go (aa_iload3 iX1_cell_23) (aa_go (aa_lalN iX1_cell_24 (sh_45 hW) (by omega) (by omega)) (aa_go (aa_goto iX1_cell_25) ?_))))
    refine aa_lret iX1_cell_29 rfl ?_
    exact ⟨rfl, rfl⟩
theorem c_X1_set (hW : aa_W r dy σ) {p h : Nat} (hp : 2 * p + h < 128) (x : Int64) : aa_SX mX1_set 1 [.ref 41, .int (nI p), .int (nI h), .long x] σ none (aa_sL σ 45 (2 * p + h) x) := by
  refine aa_E_of (by decide) 1 [some (.ref 41), some (.int (nI p)), some (.int (nI h)), some (.long (x)), none, none] rfl rfl ?_
  refine aa_go (aa_iconst iX1_set_0 ki_2) (aa_go (aa_iload1 iX1_set_1) (aa_go (aa_imulN iX1_set_2 ) (aa_go (aa_iload2 iX1_set_3) (aa_go (aa_iaddN iX1_set_4 ) (aa_go (aa_istore5 iX1_set_5 rfl (by decide)) (aa_go (aa_iload5 iX1_set_7) ?_))))))
  refine aa_go (aa_if_ltN iX1_set_9 (by omega)) ?_
  refine aa_go (aa_iload5 iX1_set_12) (aa_go (aa_aload0 iX1_set_14) (aa_go (aa_getR iX1_set_15 fl_X1_21 (sh_41 hW) rfl) (aa_go (aa_alen iX1_set_18 (sh_45 hW) (by decide)) ?_)))
  refine aa_ic_geN iX1_set_19 (by omega) (by omega) (fun h1 => ?_) (fun h1 => ?_)
  · skip
    omega
  · skip
    refine aa_go (aa_aload0 iX1_set_22) (aa_go (aa_getR iX1_set_23 fl_X1_21 (sh_41 hW) rfl) (aa_go (aa_iload5 iX1_set_26) (aa_go (aa_lload3 iX1_set_28) (aa_go (aa_lasN iX1_set_29 (sh_45 hW) (by omega) (by omega)) ?_))))
    refine aa_vret iX1_set_30 rfl ?_
    exact ⟨rfl, rfl⟩
theorem ft_l (P : pl_T) (T p h : Nat) (h8 : pl_cn T 14 ≤ 8) : ft P T p h < 256 := Nat.lt_of_lt_of_le ft_lt (pw_lt (n := 8) h8)
theorem ft_c32 (P : pl_T) (T p h : Nat) : pl_cn (ft P T p h) 32 = (ftl P T p h (pl_cn T 14)).length := by
  rw [ftl_len, cn_up (ft_lt (P := P) (T := T) (p := p) (h := h)) (by have := cn_14 T; omega)]
theorem ft_0 {P : pl_T} {T p h : Nat} (hT : T < 2 ^ pl_n P) (hn : pl_n P ≤ 14) (hb : pl_b P = 0) : ft P T p h = 0 ↔ pl_ML P h (ex T p) = [] := by
  rw [← ftl_all hT hn hb]
  constructor
  · intro e
    have : (ftl P T p h (pl_cn T 14)).length = 0 := by
      rw [ftl_len, e]
      have : ∀ k, pl_cn 0 k = 0 := fun k => by
        induction k with
        | zero => rfl
        | succ k ih => rw [pl_cn, ih]; simp
      exact this _
    exact List.length_eq_zero_iff.mp this
  · intro e
    apply bb_ext
    intro i
    rw [Nat.zero_testBit]
    by_cases hi : i < pl_cn T 14
    · cases hb2 : (ft P T p h).testBit i with
      | false => rfl
      | true =>
        have : fk T i ∈ ftl P T p h (pl_cn T 14) := by
          rw [ftl, List.mem_map]
          exact ⟨i, List.mem_filter.mpr ⟨List.mem_range.mpr hi, hb2⟩, rfl⟩
        rw [e] at this
        exact absurd this List.not_mem_nil
    · exact bb_hi ft_lt (by omega)
def MC (P : pl_T) (T : Nat) (N : Nat) (f : Nat → Int64) : Prop := ∀ p h, h ≤ 1 → 2 * p + h < N → f (2 * p + h) = lZ (mn P h (ex T p))
theorem c_X1_meanOf (hW : aa_W r dy σ) (hX : XP P hs σ.1) (hb0 : pl_b P = 0) (hF : FO P T 41 σ.1) (h6 : pl_cn T 14 ≤ 6) {p h : Nat} (hp : p < 2 ^ pl_cn T 14) (hh : h ≤ 1) (hM : MC P T (2 * p) (σ.2.1 45)) : aa_SX mX1_meanOf 4 [.ref 41, .int (nI p), .int (nI h)] σ (some (.long (lZ (mn P h (ex T p))))) σ := by
  have ok := hX.ok
  have hT := hF.1
  have hn := hX.n14
  have h8 := hF.2.1
  have p64 : p < 64 := Nat.lt_of_lt_of_le hp (pw_lt (n := 6) h6)
  have fl := ft_l P T p h h8
  have loop : ∀ f k y7, pl_cn T 14 - k < f → k ≤ pl_cn T 14 → aa_V mX1_meanOf 4 13 [some (.ref 41), some (.int (nI p)), some (.int (nI h)), some (.int (nI (ft P T p h))), some (.long (lZ (mnA P h (ex T p) (ftl P T p h k)))), none, some (.int (nI k)), y7] [] σ (fun ra σ' => ra = some (.long (lZ (mn P h (ex T p)))) ∧ σ' = σ) := by
    intro f
    induction f with
    | zero => intro k y7 g1; omega
    | succ f ih =>
      intro k y7 g1 g2
      refine aa_go (aa_iload6 iX1_meanOf_13) (aa_go (aa_aload0 iX1_meanOf_15) (aa_go (aa_getE iX1_meanOf_16 fl_X1_25 (sh_41 hW) rfl hF.2.2.1.1) ?_))
      refine aa_ic_geN iX1_meanOf_19 (by omega) (by omega) (fun g3 => ?_) (fun g3 => ?_)
      · skip
        have e1 : k = pl_cn T 14 := by omega
        subst e1
        have hz := ft_0 (p := p) (h := h) hT hn hb0
        have e2 := mn_eq ok h (ex T p)
        rw [← ftl_all hT hn hb0] at e2 hz
        refine aa_go (aa_iload3 iX1_meanOf_76) ?_
        refine aa_if_neN iX1_meanOf_77 (by omega) (fun g4 => ?_) (fun g4 => ?_)
        · skip
          have g5 : ftl P T p h (pl_cn T 14) ≠ [] := fun q => g4 (hz.mpr q)
          rw [if_neg g5, ← ft_c32] at e2
          have cl : 0 < pl_cn (ft P T p h) 32 := by rw [ft_c32]; exact List.length_pos_iff.mpr g5
          have cl2 := cn_le (ft P T p h) 32
          have bd := mnA_le ok h (ex T p) (ftl P T p h (pl_cn T 14))
          rw [← ft_c32] at bd
          refine aa_go (aa_lload4 iX1_meanOf_84) (aa_go (aa_iload3 iX1_meanOf_86) (aa_go (aa_cSi iX1_meanOf_87 (c_bitCount (by omega)) (by decide) lc_J6_bitCount_0f7a4 lk_X1_86 rfl (Nat.le_of_ble_eq_true rfl)) (aa_go (aa_i2lN iX1_meanOf_90 (by omega)) (aa_go (aa_ldiv iX1_meanOf_91 (lN_nz cl (by omega))) ?_))))
          refine aa_go (aa_topl (y := lZ (mn P h (ex T p))) (by rw [lZ_N, lZ_div (by omega) (by omega) (by omega) (by omega), e2])) ?_
          refine aa_lret iX1_meanOf_92 rfl ?_
          exact ⟨rfl, rfl⟩
        · skip
          rw [if_pos (hz.mp g4)] at e2
          refine aa_go (aa_lconst iX1_meanOf_80 kl_0) (aa_go (aa_goto iX1_meanOf_81) ?_)
          refine aa_lret iX1_meanOf_92 rfl ?_
          exact ⟨by rw [e2]; rfl, rfl⟩
      · skip
        refine aa_go (aa_iload3 iX1_meanOf_22) (aa_go (aa_iload6 iX1_meanOf_23) (aa_go (aa_ishrN iX1_meanOf_25 (by omega) (by omega)) (aa_go (aa_iconst iX1_meanOf_26 ki_1) (aa_go (aa_ibit iX1_meanOf_27) ?_))))
        refine aa_if_eqB iX1_meanOf_28 (fun g4 => ?_) (fun g4 => ?_)
        · skip
          refine aa_go (aa_iincN6 (k := 1) iX1_meanOf_70 rfl (by decide)) (aa_go (aa_goto iX1_meanOf_73) ?_)
          have := ih (k + 1) y7 (by omega) (by omega)
          rw [ftl_f g4] at this
          exact this
        · skip
          have fbl := fb_less g3 g4
          have fb1 : fb P T p k < 64 := by omega
          have q1 : bd p (fb P T p k) < 2147483648 := Nat.lt_of_le_of_lt (bd_le _ _) (by omega)
          have e5 := hM (fb P T p k) (1 - h) (by omega) (by omega)
          rw [fb_ex hT g3] at e5
          have nxt := ih (k + 1) (some (.int (nI (fb P T p k)))) (by omega) (by omega)
          rw [ftl_t g4, mnA_c] at nxt
          have wl := pl_wo_le ok (ex T (bd p (fb P T p k)))
          refine aa_go (aa_aload0 iX1_meanOf_31) (aa_go (aa_iload1 iX1_meanOf_32) (aa_go (aa_iload6 iX1_meanOf_33) (aa_go (aa_cVi iX1_meanOf_35 (c_X1_behind41 hW hF g3) (by decide) lc_X1_behind lk_X1_78 (sh_41 hW) rfl rfl (Nat.le_of_ble_eq_true rfl)) (aa_go (aa_istore7 iX1_meanOf_38 rfl (by decide)) (aa_go (aa_lload4 iX1_meanOf_40) (aa_go (aa_aload0 iX1_meanOf_42) (aa_go (aa_iload1 iX1_meanOf_43) ?_)))))))
          refine aa_go (aa_iload7 iX1_meanOf_44) (aa_go (aa_iconst iX1_meanOf_46 ki_m1) (aa_go (aa_ixor iX1_meanOf_47) (aa_go (aa_iandC iX1_meanOf_48) (aa_go (aa_cVi iX1_meanOf_49 (c_X1_worthOf hW hX hF q1) (by decide) lc_X1_worthOf lk_X1_81 (sh_41 hW) rfl rfl (Nat.le_of_ble_eq_true rfl)) (aa_go (aa_i2lN iX1_meanOf_52 (by omega)) (aa_go (aa_ldc2 iX1_meanOf_53 ld_X1_84) (aa_go (aa_lmulN iX1_meanOf_56 ) ?_)))))))
          refine aa_go (aa_aload0 iX1_meanOf_57) (aa_go (aa_iload7 iX1_meanOf_58) (aa_go (aa_iconst iX1_meanOf_60 ki_1) (aa_go (aa_iload2 iX1_meanOf_61) (aa_go (aa_isubN iX1_meanOf_62 (by omega)) (aa_go (aa_cVl iX1_meanOf_63 (e5 ▸ c_X1_cell hW (by omega)) (by decide) lc_X1_cell lk_X1_74 (sh_41 hW) rfl rfl (Nat.le_of_ble_eq_true rfl)) (aa_go (aa_lsub iX1_meanOf_66) (aa_go (aa_ladd iX1_meanOf_67) ?_)))))))
          refine aa_go (aa_topl (y := lZ (mnA P h (ex T p) (ftl P T p h k) + ((pl_wo P (bd (ex T p) (pl_nx P (ex T p) (fk T k))) * 518400 : Nat) - mn P (1 - h) (pl_nx P (ex T p) (fk T k))))) (by rw [← lZ_add, ← lZ_sub, ex_bdd, fb_ex hT g3]; rfl)) ?_
          refine aa_go (aa_lstore4 iX1_meanOf_68 rfl (by decide)) (aa_go (aa_iincN6 (k := 1) iX1_meanOf_70 rfl (by decide)) (aa_go (aa_goto iX1_meanOf_73) ?_))
          exact nxt
  have key : aa_V mX1_meanOf 4 0 [some (.ref 41), some (.int (nI p)), some (.int (nI h)), none, none, none, none, none] [] σ (fun ra σ' => ra = some (.long (lZ (mn P h (ex T p)))) ∧ σ' = σ) := by
    refine aa_go (aa_aload0 iX1_meanOf_0) (aa_go (aa_iload1 iX1_meanOf_1) (aa_go (aa_iload2 iX1_meanOf_2) (aa_go (aa_cVi iX1_meanOf_3 (c_X1_takes41 hW hF hh) (by decide) lc_X1_takes lk_X1_77 (sh_41 hW) rfl rfl (Nat.le_of_ble_eq_true rfl)) (aa_go (aa_istore3 iX1_meanOf_6 rfl (by decide)) (aa_go (aa_lconst iX1_meanOf_7 kl_0) ?_)))))
    refine aa_go (aa_topl (y := lZ 0) (rfl)) ?_
    refine aa_go (aa_lstore4 iX1_meanOf_8 rfl (by decide)) (aa_go (aa_iconst iX1_meanOf_10 ki_0) (aa_go (aa_istore6 iX1_meanOf_11 rfl (by decide)) ?_))
    exact loop (pl_cn T 14 + 1) 0 _ (by omega) (by omega)
  obtain ⟨ra, σ', ⟨rfl, rfl⟩, hS9⟩ := aa_S_of (avs := [.ref 41, .int (nI p), .int (nI h)]) (by decide) 5 [some (.ref 41), some (.int (nI p)), some (.int (nI h)), none, none, none, none, none] rfl rfl key
  exact hS9
def FrW (A : List Nat) (c : Nat) (σ σ' : aa_St) : Prop := (∀ x, x ∉ A → σ'.1 x = σ.1 x) ∧ (∀ x, x ≠ c → σ'.2.1 x = σ.2.1 x) ∧ σ'.2.2 = σ.2.2
theorem FrA.FrW {A : List Nat} {c : Nat} {σ σ' : aa_St} (h : FrA A σ σ') : FrW A c σ σ' := ⟨h.2, fun _ _ => by rw [h.1], by rw [h.1]⟩
theorem FrW.sL {A : List Nat} {c : Nat} {σ σ1 : aa_St} (h : FrW A c σ σ1) (k : Nat) (x : Int64) : FrW A c σ (aa_sL σ1 c k x) := ⟨h.1, fun a ha => (aa_u2_ne ha).trans (h.2.1 a ha), h.2.2⟩
theorem sL_at (σ : aa_St) (c k : Nat) (x : Int64) (p : Nat) : (aa_sL σ c k x).2.1 c p = if p = k then x else σ.2.1 c p := by
  show aa_u2 σ.2.1 c k x c p = _
  rw [aa_u2_eq]
theorem MC.set {N : Nat} {p h : Nat} (hM : MC P T (2 * p + h) (σ.2.1 45)) (hN : N = 2 * p + h + 1) (hh : h ≤ 1) : MC P T N ((aa_sL σ 45 (2 * p + h) (lZ (mn P h (ex T p)))).2.1 45) := by
  intro p' h' hh' hlt
  rw [sL_at]
  by_cases c : 2 * p' + h' = 2 * p + h
  · rw [if_pos c, show p' = p by omega, show h' = h by omega]
  · rw [if_neg c]; exact hM p' h' hh' (by omega)
theorem MC.mo {N N' : Nat} {f : Nat → Int64} (h : MC P T N f) (hN : N' ≤ N) : MC P T N' f := fun p h' hh hl => h p h' hh (by omega)
theorem c_X1_meanMore (hW : aa_W r dy σ) (hX : XP P hs σ.1) (hb0 : pl_b P = 0) (hT : T < 2 ^ pl_n P) (h6 : pl_cn T 14 ≤ 6) {t : Nat} (ht : t ≤ 1) : ∃ σ' : aa_St, FrW [41, 42, 43, 44] 45 σ σ' ∧ aa_SX mX1_meanMore 5 [.ref 41, .int (nI T), .int (nI t)] σ (some (.long (lZ (mn P t T)))) σ' := by
  have hn := hX.n14
  have T14 : T < 2 ^ 14 := Nat.lt_of_lt_of_le hT (pw_lt hn)
  have c64 : 2 ^ pl_cn T 14 ≤ 64 := pw_lt (n := 6) h6
  have c1 := pw_pos (pl_cn T 14)
  obtain ⟨σ0, ⟨hF0, hO0, -⟩, hS0⟩ := c_X1_lay41 hW hX hT (by omega)
  have loop : ∀ f p (σ1 : aa_St), 2 ^ pl_cn T 14 - p < f → p ≤ 2 ^ pl_cn T 14 → FrW [41, 42, 43, 44] 45 σ σ1 → FO P T 41 σ1.1 → MC P T (2 * p) (σ1.2.1 45) → aa_V mX1_meanMore 5 7 [some (.ref 41), some (.int (nI T)), some (.int (nI t)), some (.int (nI p))] [] σ1 (fun ra σ' => ra = some (.long (lZ (mn P t T))) ∧ FrW [41, 42, 43, 44] 45 σ σ') := by
    intro f
    induction f with
    | zero => intro p σ1 g1; omega
    | succ f ih =>
      intro p σ1 g1 g2 hF hO hM
      have hW1 := hW.of2 hF.2.2
      have hX1 : XP P hs σ1.1 := (FrA.XP (σ := σ) (σ' := (σ1.1, σ.2)) (A := [41, 42, 43, 44]) ⟨rfl, hF.1⟩ hX (by decide))
      refine aa_go (aa_iload3 iX1_meanMore_7) (aa_go (aa_aload0 iX1_meanMore_8) (aa_go (aa_cVi iX1_meanMore_9 (c_X1_all41 hW1 hO.2.2.1) (by decide) lc_X1_all lk_X1_62 (sh_41 hW1) rfl rfl (Nat.le_of_ble_eq_true rfl)) ?_))
      refine aa_ic_gtN iX1_meanMore_12 (by omega) (by omega) (fun g3 => ?_) (fun g3 => ?_)
      · skip
        have e1 : p = 2 ^ pl_cn T 14 := by omega
        have e2 := hM (2 ^ pl_cn T 14 - 1) t ht (by omega)
        rw [ex_all T14] at e2
        refine aa_go (aa_aload0 iX1_meanMore_45) (aa_go (aa_aload0 iX1_meanMore_46) (aa_go (aa_cVi iX1_meanMore_47 (c_X1_all41 hW1 hO.2.2.1) (by decide) lc_X1_all lk_X1_62 (sh_41 hW1) rfl rfl (Nat.le_of_ble_eq_true rfl)) (aa_go (aa_iload2 iX1_meanMore_50) (aa_go (aa_cVl iX1_meanMore_51 (e2 ▸ c_X1_cell hW1 (by omega)) (by decide) lc_X1_cell lk_X1_74 (sh_41 hW1) rfl rfl (Nat.le_of_ble_eq_true rfl)) ?_))))
        refine aa_lret iX1_meanMore_54 rfl ?_
        exact ⟨rfl, hF⟩
      · skip
        have hp : p < 2 ^ pl_cn T 14 := by omega
        have hM0 : MC P T (2 * p + 0) (σ1.2.1 45) := hM
        have hM1 := hM0.set (N := 2 * p + 1) rfl (by omega)
        have hMx : MC P T (2 * p) ((aa_sL σ1 45 (2 * p + 0) (lZ (mn P 0 (ex T p)))).2.1 45) := hM1.mo (by omega)
        have hW2 := hW1.sL 45 (2 * p + 0) (lZ (mn P 0 (ex T p)))
        refine aa_go (aa_aload0 iX1_meanMore_15) (aa_go (aa_iload3 iX1_meanMore_16) (aa_go (aa_iconst iX1_meanMore_17 ki_0) (aa_go (aa_aload0 iX1_meanMore_18) (aa_go (aa_iload3 iX1_meanMore_19) (aa_go (aa_iconst iX1_meanMore_20 ki_0) (aa_go (aa_cVl iX1_meanMore_21 (c_X1_meanOf hW1 hX1 hb0 hO h6 hp (by omega) hM) (by decide) lc_X1_meanOf lk_X1_66 (sh_41 hW1) rfl rfl (Nat.le_of_ble_eq_true rfl)) (aa_go (aa_cVv iX1_meanMore_24 (c_X1_set hW1 (by omega) _) (by decide) lc_X1_set lk_X1_70 (sh_41 hW1) rfl rfl (Nat.le_of_ble_eq_true rfl)) ?_)))))))
        refine aa_go (aa_aload0 iX1_meanMore_27) (aa_go (aa_iload3 iX1_meanMore_28) (aa_go (aa_iconst iX1_meanMore_29 ki_1) (aa_go (aa_aload0 iX1_meanMore_30) (aa_go (aa_iload3 iX1_meanMore_31) (aa_go (aa_iconst iX1_meanMore_32 ki_1) (aa_go (aa_cVl iX1_meanMore_33 (c_X1_meanOf hW2 hX1 hb0 hO h6 hp (by omega) hMx) (by decide) lc_X1_meanOf lk_X1_66 (sh_41 hW2) rfl rfl (Nat.le_of_ble_eq_true rfl)) (aa_go (aa_cVv iX1_meanMore_36 (c_X1_set hW2 (by omega) _) (by decide) lc_X1_set lk_X1_70 (sh_41 hW2) rfl rfl (Nat.le_of_ble_eq_true rfl)) ?_)))))))
        refine aa_go (aa_iincN3 (k := 1) iX1_meanMore_39 rfl (by decide)) (aa_go (aa_goto iX1_meanMore_42) ?_)
        exact ih (p + 1) _ (by omega) (by omega) ((hF.sL _ _).sL _ _) hO (hM1.set (p := p) (h := 1) (by omega) (by omega))
  have key : aa_V mX1_meanMore 5 0 [some (.ref 41), some (.int (nI T)), some (.int (nI t)), none] [] σ (fun ra σ' => ra = some (.long (lZ (mn P t T))) ∧ FrW [41, 42, 43, 44] 45 σ σ') := by
    refine aa_go (aa_aload0 iX1_meanMore_0) (aa_go (aa_iload1 iX1_meanMore_1) (aa_go (aa_cVv iX1_meanMore_2 (hS0) (by decide) lc_X1_lay lk_X1_58 (sh_41 hW) rfl rfl (Nat.le_of_ble_eq_true rfl)) (aa_go (aa_iconst iX1_meanMore_5 ki_0) (aa_go (aa_istore3 iX1_meanMore_6 rfl (by decide)) ?_))))
    exact loop (2 ^ pl_cn T 14 + 1) 0 σ0 (by omega) (by omega) hF0.FrW hO0 (fun p h _ hl => by omega)
  obtain ⟨ra, σ', ⟨rfl, h1⟩, hS9⟩ := aa_S_of (avs := [.ref 41, .int (nI T), .int (nI t)]) (by decide) 1 [some (.ref 41), some (.int (nI T)), some (.int (nI t)), none] rfl rfl key
  exact ⟨σ', h1, hS9⟩
end
