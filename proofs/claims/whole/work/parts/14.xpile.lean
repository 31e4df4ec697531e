/-- the class's pile: rows 7 to 19 -/
def pl_tc (P : pl_T) (k : Nat) : Nat := bm (pl_n P) (fun j => (pl_u P k).testBit j || (pl_u P j).testBit k)
def XA (P : pl_T) (i : Nat → Nat → Int32) : Prop := i 7 13 = nI (pl_n P) ∧ i 7 14 = nI (pl_b P) ∧ (∀ k, k < pl_n P → i 8 k = nI (pl_w P k) ∧ i 9 k = nI (pl_h P k) ∧ i 10 k = nI (pl_u P k) ∧ i 11 k = nI (pl_ab P k) ∧ i 12 k = nI (pl_tc P k)) ∧ (∀ k, pl_n P ≤ k → i 8 k = nI 0) ∧ (∀ j, j < pl_b P → i 13 j = nI (pl_k P j)) ∧ (∀ h, h ≤ 3 → i 14 h = nI (pl_al P h))
def XC (P : pl_T) (i : Nat → Nat → Int32) : Prop := (∀ j, j < pl_n P → i 15 j = nI (pl_cl P j) ∧ i 16 j = nI 0) ∧ (∀ j, pl_n P ≤ j → j < pl_n P + pl_b P → i 15 j = nI 0 ∧ i 16 j = nI (pl_st P j))
def XU (P : pl_T) (i : Nat → Nat → Int32) : Prop := ∀ m, m < 128 → i 17 m = nI (pl_sm P m 7) ∧ i 18 m = nI (pl_sm P (m <<< 7) 14)
/-- the heaps of the whole pile, with the bits of those that are back in them -/
def pl_hm (P : pl_T) (h : Nat) : Nat := h ||| bm (pl_n P + pl_b P) (fun j => decide (pl_n P ≤ j) && h.testBit (pl_k P (j - pl_n P)))
def XH (P : pl_T) (hs : List Nat) (i : Nat → Nat → Int32) : Prop := i 7 12 = nI hs.length ∧ hs.length ≤ 14 ∧ ∀ k h, hs[k]? = some h → i 19 k = nI (pl_hm P h)
def XP (P : pl_T) (hs : List Nat) (i : Nat → Nat → Int32) : Prop := pl_ok P ∧ XA P i ∧ XC P i ∧ XU P i ∧ XH P hs i
theorem XP.ok {P : pl_T} {hs : List Nat} {i : Nat → Nat → Int32} (h : XP P hs i) : pl_ok P := h.1
theorem XP.n {P : pl_T} {hs : List Nat} {i : Nat → Nat → Int32} (h : XP P hs i) : i 7 13 = nI (pl_n P) := h.2.1.1
theorem XP.b {P : pl_T} {hs : List Nat} {i : Nat → Nat → Int32} (h : XP P hs i) : i 7 14 = nI (pl_b P) := h.2.1.2.1
theorem XP.n14 {P : pl_T} {hs : List Nat} {i : Nat → Nat → Int32} (h : XP P hs i) : pl_n P ≤ 14 := h.1.1
theorem XP.b2 {P : pl_T} {hs : List Nat} {i : Nat → Nat → Int32} (h : XP P hs i) : pl_b P ≤ 2 := h.1.2.1
theorem XP.it {P : pl_T} {hs : List Nat} {i : Nat → Nat → Int32} (h : XP P hs i) {k : Nat} (hk : k < pl_n P) : i 8 k = nI (pl_w P k) ∧ i 9 k = nI (pl_h P k) ∧ i 10 k = nI (pl_u P k) ∧ i 11 k = nI (pl_ab P k) ∧ i 12 k = nI (pl_tc P k) := h.2.1.2.2.1 k hk
theorem XP.bk {P : pl_T} {hs : List Nat} {i : Nat → Nat → Int32} (h : XP P hs i) {k : Nat} (hk : k < pl_b P) : i 13 k = nI (pl_k P k) := h.2.1.2.2.2.2.1 k hk
theorem XP.kn {P : pl_T} {hs : List Nat} {i : Nat → Nat → Int32} (h : XP P hs i) {k : Nat} (hk : k < pl_b P) : pl_k P k < pl_n P := h.1.2.2.2.2.1 k hk
theorem XP.al {P : pl_T} {hs : List Nat} {i : Nat → Nat → Int32} (h : XP P hs i) {k : Nat} (hk : k ≤ 3) : i 14 k = nI (pl_al P k) := h.2.1.2.2.2.2.2 k hk
theorem XP.c1 {P : pl_T} {hs : List Nat} {i : Nat → Nat → Int32} (h : XP P hs i) {j : Nat} (hj : j < pl_n P) : i 15 j = nI (pl_cl P j) ∧ i 16 j = nI 0 := h.2.2.1.1 j hj
theorem XP.c2 {P : pl_T} {hs : List Nat} {i : Nat → Nat → Int32} (h : XP P hs i) {j : Nat} (hj : pl_n P ≤ j) (h2 : j < pl_n P + pl_b P) : i 15 j = nI 0 ∧ i 16 j = nI (pl_st P j) := h.2.2.1.2 j hj h2
theorem XP.u {P : pl_T} {hs : List Nat} {i : Nat → Nat → Int32} (h : XP P hs i) {m : Nat} (hm : m < 128) : i 17 m = nI (pl_sm P m 7) ∧ i 18 m = nI (pl_sm P (m <<< 7) 14) := h.2.2.2.1 m hm
theorem XP.hh {P : pl_T} {hs : List Nat} {i : Nat → Nat → Int32} (h : XP P hs i) : i 7 12 = nI hs.length := h.2.2.2.2.1
theorem XP.h14 {P : pl_T} {hs : List Nat} {i : Nat → Nat → Int32} (h : XP P hs i) : hs.length ≤ 14 := h.2.2.2.2.2.1
theorem XP.hk {P : pl_T} {hs : List Nat} {i : Nat → Nat → Int32} (h : XP P hs i) {k q : Nat} (hk : hs[k]? = some q) : i 19 k = nI (pl_hm P q) := h.2.2.2.2.2.2 k q hk
/-- only rows 7 to 19 count, and of row 7 not the version -/
theorem XP.fr {P : pl_T} {hs : List Nat} {i i' : Nat → Nat → Int32} (h : XP P hs i) (h7 : i' 7 12 = i 7 12 ∧ i' 7 13 = i 7 13 ∧ i' 7 14 = i 7 14) (hr : ∀ a, 8 ≤ a → a ≤ 19 → i' a = i a) : XP P hs i' := by
  obtain ⟨h0, ⟨a1, a2, a3, a4, a5, a6⟩, ⟨b1, b2⟩, b3, c1, c2, c3⟩ := h
  refine ⟨h0, ⟨by rw [h7.2.1]; exact a1, by rw [h7.2.2]; exact a2, fun k hk => ?_, fun k hk => ?_, fun j hj => ?_, fun q hq => ?_⟩, ⟨fun j hj => ?_, fun j hj hj2 => ?_⟩, fun m hm => ?_, by rw [h7.1]; exact c1, c2, fun k q hk => ?_⟩
  · rw [hr 8 (by decide) (by decide), hr 9 (by decide) (by decide), hr 10 (by decide) (by decide), hr 11 (by decide) (by decide), hr 12 (by decide) (by decide)]; exact a3 k hk
  · rw [hr 8 (by decide) (by decide)]; exact a4 k hk
  · rw [hr 13 (by decide) (by decide)]; exact a5 j hj
  · rw [hr 14 (by decide) (by decide)]; exact a6 q hq
  · rw [hr 15 (by decide) (by decide), hr 16 (by decide) (by decide)]; exact b1 j hj
  · rw [hr 15 (by decide) (by decide), hr 16 (by decide) (by decide)]; exact b2 j hj hj2
  · rw [hr 17 (by decide) (by decide), hr 18 (by decide) (by decide)]; exact b3 m hm
  · rw [hr 19 (by decide) (by decide)]; exact c3 k q hk
theorem pw16 {k : Nat} (h : k ≤ 16) : 2 ^ k ≤ 65536 := pw_lt (n := 16) h
theorem pw14 {k : Nat} (h : k ≤ 14) : 2 ^ k ≤ 16384 := pw_lt (n := 14) h
theorem pw_pos (k : Nat) : 1 ≤ 2 ^ k := Nat.one_le_two_pow
section
variable {r : Nat → Nat} {dy : List aa_Shp} {σ : aa_St} {P : pl_T} {hs : List Nat}
theorem c_X6_things (hW : aa_W r dy σ) (hX : XP P hs σ.1) : aa_SX mX6_things 1 [.ref 7] σ (some (.int (nI (pl_n P)))) σ := by
  refine aa_E_of (by decide) 0 [some (.ref 7)] rfl rfl ?_
  refine aa_go (aa_aload0 iX6_things_0) (aa_go (aa_getE iX6_things_1 fl_X6_52 (sh_7 hW) rfl hX.n) ?_)
  refine aa_iret iX6_things_4 rfl ?_
  exact ⟨rfl, rfl⟩
theorem c_X6_backs (hW : aa_W r dy σ) (hX : XP P hs σ.1) : aa_SX mX6_backs 1 [.ref 7] σ (some (.int (nI (pl_b P)))) σ := by
  refine aa_E_of (by decide) 0 [some (.ref 7)] rfl rfl ?_
  refine aa_go (aa_aload0 iX6_backs_0) (aa_go (aa_getE iX6_backs_1 fl_X6_55 (sh_7 hW) rfl hX.b) ?_)
  refine aa_iret iX6_backs_4 rfl ?_
  exact ⟨rfl, rfl⟩
theorem c_X6_version (hW : aa_W r dy σ) {v : Nat} (hv : σ.1 7 15 = nI v) : aa_SX mX6_version 1 [.ref 7] σ (some (.int (nI v))) σ := by
  refine aa_E_of (by decide) 0 [some (.ref 7)] rfl rfl ?_
  refine aa_go (aa_aload0 iX6_version_0) (aa_go (aa_getE iX6_version_1 fl_X6_58 (sh_7 hW) rfl hv) ?_)
  refine aa_iret iX6_version_4 rfl ?_
  exact ⟨rfl, rfl⟩
theorem c_X6_heapsInAll (hW : aa_W r dy σ) (hX : XP P hs σ.1) : aa_SX mX6_heapsInAll 1 [.ref 7] σ (some (.int (nI hs.length))) σ := by
  refine aa_E_of (by decide) 0 [some (.ref 7)] rfl rfl ?_
  refine aa_go (aa_aload0 iX6_heapsInAll_0) (aa_go (aa_getE iX6_heapsInAll_1 fl_X6_48 (sh_7 hW) rfl hX.hh) ?_)
  refine aa_iret iX6_heapsInAll_4 rfl ?_
  exact ⟨rfl, rfl⟩
theorem c_X6_full (hW : aa_W r dy σ) (hX : XP P hs σ.1) : aa_SX mX6_full 1 [.ref 7] σ (some (.int (nI (2 ^ pl_n P - 1)))) σ := by
  have hn := hX.n14
  refine aa_E_of (by decide) 0 [some (.ref 7)] rfl rfl ?_
  refine aa_go (aa_iconst iX6_full_0 ki_1) (aa_go (aa_aload0 iX6_full_1) (aa_go (aa_getE iX6_full_2 fl_X6_52 (sh_7 hW) rfl hX.n) (aa_go (aa_ishlN iX6_full_5 (by omega)) ?_)))
  refine aa_go (aa_top (y := nI (2 ^ pl_n P)) (by rw [Nat.one_shiftLeft])) ?_
  refine aa_go (aa_iconst iX6_full_6 ki_1) (aa_go (aa_isubN iX6_full_7 (pw_pos _)) ?_)
  refine aa_iret iX6_full_8 rfl ?_
  exact ⟨rfl, rfl⟩
theorem c_X6_first (hW : aa_W r dy σ) (hX : XP P hs σ.1) : aa_SX mX6_first 2 [.ref 7] σ (some (.int (nI (2 ^ pl_n P - 1)))) σ := by
  refine aa_E_of (by decide) 0 [some (.ref 7)] rfl rfl ?_
  refine aa_go (aa_aload0 iX6_first_0) (aa_go (aa_cVi iX6_first_1 (c_X6_full hW hX) (by decide) lc_X6_full lk_X6_73 (sh_7 hW) rfl rfl (Nat.le_of_ble_eq_true rfl)) ?_)
  refine aa_iret iX6_first_4 rfl ?_
  exact ⟨rfl, rfl⟩
theorem c_X6_allPutBack (hW : aa_W r dy σ) (hX : XP P hs σ.1) : aa_SX mX6_allPutBack 1 [.ref 7] σ (some (.int (nI ((2 ^ pl_b P - 1) <<< pl_n P)))) σ := by
  have hn := hX.n14
  have hb := hX.b2
  refine aa_E_of (by decide) 0 [some (.ref 7)] rfl rfl ?_
  refine aa_go (aa_iconst iX6_allPutBack_0 ki_1) (aa_go (aa_aload0 iX6_allPutBack_1) (aa_go (aa_getE iX6_allPutBack_2 fl_X6_55 (sh_7 hW) rfl hX.b) (aa_go (aa_ishlN iX6_allPutBack_5 (by omega)) ?_)))
  refine aa_go (aa_top (y := nI (2 ^ pl_b P)) (by rw [Nat.one_shiftLeft])) ?_
  refine aa_go (aa_iconst iX6_allPutBack_6 ki_1) (aa_go (aa_isubN iX6_allPutBack_7 (pw_pos _)) (aa_go (aa_aload0 iX6_allPutBack_8) (aa_go (aa_getE iX6_allPutBack_9 fl_X6_52 (sh_7 hW) rfl hX.n) (aa_go (aa_ishlN iX6_allPutBack_12 (by omega)) ?_))))
  refine aa_iret iX6_allPutBack_13 rfl ?_
  exact ⟨rfl, rfl⟩
theorem c_X6_size (hW : aa_W r dy σ) (hX : XP P hs σ.1) : aa_SX mX6_size 1 [.ref 7] σ (some (.int (nI (2 ^ (pl_n P + pl_b P))))) σ := by
  have hn := hX.n14
  have hb := hX.b2
  refine aa_E_of (by decide) 0 [some (.ref 7)] rfl rfl ?_
  refine aa_go (aa_iconst iX6_size_0 ki_1) (aa_go (aa_aload0 iX6_size_1) (aa_go (aa_getE iX6_size_2 fl_X6_52 (sh_7 hW) rfl hX.n) (aa_go (aa_aload0 iX6_size_5) (aa_go (aa_getE iX6_size_6 fl_X6_55 (sh_7 hW) rfl hX.b) (aa_go (aa_iaddN iX6_size_9 ) (aa_go (aa_ishlN iX6_size_10 (by omega)) ?_))))))
  refine aa_go (aa_top (y := nI (2 ^ (pl_n P + pl_b P))) (by rw [Nat.one_shiftLeft])) ?_
  refine aa_iret iX6_size_11 rfl ?_
  exact ⟨rfl, rfl⟩
theorem c_X6_steps (hW : aa_W r dy σ) (hX : XP P hs σ.1) : aa_SX mX6_steps 1 [.ref 7] σ (some (.int (nI (pl_n P + pl_b P)))) σ := by
  refine aa_E_of (by decide) 0 [some (.ref 7)] rfl rfl ?_
  refine aa_go (aa_aload0 iX6_steps_0) (aa_go (aa_getE iX6_steps_1 fl_X6_52 (sh_7 hW) rfl hX.n) (aa_go (aa_aload0 iX6_steps_4) (aa_go (aa_getE iX6_steps_5 fl_X6_55 (sh_7 hW) rfl hX.b) (aa_go (aa_iaddN iX6_steps_8 ) ?_))))
  refine aa_iret iX6_steps_9 rfl ?_
  exact ⟨rfl, rfl⟩
theorem c_X6_has (hW : aa_W r dy σ) (hX : XP P hs σ.1) (i : Int32) : aa_SX mX6_has 1 [.ref 7, .int i] σ (some (.int (nI (decide (0 ≤ i ∧ i < nI (pl_n P))).toNat))) σ := by
  refine aa_E_of (by decide) 0 [some (.ref 7), some (.int (i))] rfl rfl ?_
  refine aa_go (aa_iload1 iX6_has_0) ?_
  refine aa_if_lt iX6_has_1 (fun h1 => ?_) (fun h1 => ?_)
  · skip
    refine aa_go (aa_iconst iX6_has_16 ki_0) ?_
    refine aa_zretF iX6_has_17 rfl ?_
    exact ⟨by rw [decide_eq_false (fun q => absurd h1 (Int32.not_lt.mpr q.1))]; rfl, rfl⟩
  · skip
    refine aa_go (aa_iload1 iX6_has_4) (aa_go (aa_aload0 iX6_has_5) (aa_go (aa_getE iX6_has_6 fl_X6_52 (sh_7 hW) rfl hX.n) ?_))
    refine aa_ic_ge iX6_has_9 (fun h2 => ?_) (fun h2 => ?_)
    · skip
      refine aa_go (aa_iconst iX6_has_16 ki_0) ?_
      refine aa_zretF iX6_has_17 rfl ?_
      exact ⟨by rw [decide_eq_false (fun q => absurd q.2 (Int32.not_lt.mpr h2))]; rfl, rfl⟩
    · skip
      refine aa_go (aa_iconst iX6_has_12 ki_1) (aa_go (aa_goto iX6_has_13) ?_)
      refine aa_zretT iX6_has_17 rfl ?_
      exact ⟨by rw [decide_eq_true ⟨Int32.not_lt.mp h1, Int32.not_le.mp h2⟩]; rfl, rfl⟩
theorem c_X6_hasN (hW : aa_W r dy σ) (hX : XP P hs σ.1) {k : Nat} (hk : k < 2147483648) : aa_SX mX6_has 1 [.ref 7, .int (nI k)] σ (some (.int (nI (decide (k < pl_n P)).toNat))) σ := by
  have h := c_X6_has hW hX (nI k)
  have hn := hX.n14
  rw [show decide (0 ≤ nI k ∧ nI k < nI (pl_n P)) = decide (k < pl_n P) from
    decide_eq_decide.mpr ⟨fun q => (nI_lti hk (by omega)).mp q.2, fun q => ⟨nI_ge0 hk, (nI_lti hk (by omega)).mpr q⟩⟩] at h
  exact h
theorem c_X6_worthAt (hW : aa_W r dy σ) (hX : XP P hs σ.1) {k : Nat} (hk : k < 2147483648) : aa_SX mX6_worthAt 2 [.ref 7, .int (nI k)] σ (some (.int (nI (if k < pl_n P then pl_w P k else 0)))) σ := by
  have hn := hX.n14
  refine aa_E_of (by decide) 0 [some (.ref 7), some (.int (nI k))] rfl rfl ?_
  refine aa_go (aa_aload0 iX6_worthAt_0) (aa_go (aa_iload1 iX6_worthAt_1) (aa_go (aa_cVi iX6_worthAt_2 (c_X6_hasN hW hX hk) (by decide) lc_X6_has lk_X6_81 (sh_7 hW) rfl rfl (Nat.le_of_ble_eq_true rfl)) ?_))
  refine aa_if_eqB iX6_worthAt_5 (fun h1 => ?_) (fun h1 => ?_)
  · skip
    have h1 := of_decide_eq_false h1
    refine aa_go (aa_iconst iX6_worthAt_17 ki_0) ?_
    refine aa_iret iX6_worthAt_18 rfl ?_
    exact ⟨by rw [if_neg h1], rfl⟩
  · skip
    have h1 := of_decide_eq_true h1
    refine aa_go (aa_aload0 iX6_worthAt_8) (aa_go (aa_getR iX6_worthAt_9 fl_X6_11 (sh_7 hW) rfl) (aa_go (aa_iload1 iX6_worthAt_12) (aa_go (aa_ialE iX6_worthAt_13 (sh_8 hW) (by omega) (by omega) ((hX.it h1).1)) (aa_go (aa_goto iX6_worthAt_14) ?_))))
    refine aa_iret iX6_worthAt_18 rfl ?_
    exact ⟨by rw [if_pos h1], rfl⟩
theorem c_X6_heirsOf (hW : aa_W r dy σ) (hX : XP P hs σ.1) {k : Nat} (hk : k < 2147483648) : aa_SX mX6_heirsOf 2 [.ref 7, .int (nI k)] σ (some (.int (nI (if k < pl_n P then pl_h P k else 0)))) σ := by
  have hn := hX.n14
  refine aa_E_of (by decide) 0 [some (.ref 7), some (.int (nI k))] rfl rfl ?_
  refine aa_go (aa_aload0 iX6_heirsOf_0) (aa_go (aa_iload1 iX6_heirsOf_1) (aa_go (aa_cVi iX6_heirsOf_2 (c_X6_hasN hW hX hk) (by decide) lc_X6_has lk_X6_81 (sh_7 hW) rfl rfl (Nat.le_of_ble_eq_true rfl)) ?_))
  refine aa_if_eqB iX6_heirsOf_5 (fun h1 => ?_) (fun h1 => ?_)
  · skip
    have h1 := of_decide_eq_false h1
    refine aa_go (aa_iconst iX6_heirsOf_17 ki_0) ?_
    refine aa_iret iX6_heirsOf_18 rfl ?_
    exact ⟨by rw [if_neg h1], rfl⟩
  · skip
    have h1 := of_decide_eq_true h1
    refine aa_go (aa_aload0 iX6_heirsOf_8) (aa_go (aa_getR iX6_heirsOf_9 fl_X6_15 (sh_7 hW) rfl) (aa_go (aa_iload1 iX6_heirsOf_12) (aa_go (aa_ialE iX6_heirsOf_13 (sh_9 hW) (by omega) (by omega) ((hX.it h1).2.1)) (aa_go (aa_goto iX6_heirsOf_14) ?_))))
    refine aa_iret iX6_heirsOf_18 rfl ?_
    exact ⟨by rw [if_pos h1], rfl⟩
theorem c_X6_under (hW : aa_W r dy σ) (hX : XP P hs σ.1) {k : Nat} (hk : k < 2147483648) : aa_SX mX6_under 2 [.ref 7, .int (nI k)] σ (some (.int (nI (if k < pl_n P then pl_u P k else 0)))) σ := by
  have hn := hX.n14
  refine aa_E_of (by decide) 0 [some (.ref 7), some (.int (nI k))] rfl rfl ?_
  refine aa_go (aa_aload0 iX6_under_0) (aa_go (aa_iload1 iX6_under_1) (aa_go (aa_cVi iX6_under_2 (c_X6_hasN hW hX hk) (by decide) lc_X6_has lk_X6_81 (sh_7 hW) rfl rfl (Nat.le_of_ble_eq_true rfl)) ?_))
  refine aa_if_eqB iX6_under_5 (fun h1 => ?_) (fun h1 => ?_)
  · skip
    have h1 := of_decide_eq_false h1
    refine aa_go (aa_iconst iX6_under_17 ki_0) ?_
    refine aa_iret iX6_under_18 rfl ?_
    exact ⟨by rw [if_neg h1], rfl⟩
  · skip
    have h1 := of_decide_eq_true h1
    refine aa_go (aa_aload0 iX6_under_8) (aa_go (aa_getR iX6_under_9 fl_X6_18 (sh_7 hW) rfl) (aa_go (aa_iload1 iX6_under_12) (aa_go (aa_ialE iX6_under_13 (sh_10 hW) (by omega) (by omega) ((hX.it h1).2.2.1)) (aa_go (aa_goto iX6_under_14) ?_))))
    refine aa_iret iX6_under_18 rfl ?_
    exact ⟨by rw [if_pos h1], rfl⟩
theorem c_X6_above (hW : aa_W r dy σ) (hX : XP P hs σ.1) {k : Nat} (hk : k < 2147483648) : aa_SX mX6_above 2 [.ref 7, .int (nI k)] σ (some (.int (nI (if k < pl_n P then pl_ab P k else 0)))) σ := by
  have hn := hX.n14
  refine aa_E_of (by decide) 0 [some (.ref 7), some (.int (nI k))] rfl rfl ?_
  refine aa_go (aa_aload0 iX6_above_0) (aa_go (aa_iload1 iX6_above_1) (aa_go (aa_cVi iX6_above_2 (c_X6_hasN hW hX hk) (by decide) lc_X6_has lk_X6_81 (sh_7 hW) rfl rfl (Nat.le_of_ble_eq_true rfl)) ?_))
  refine aa_if_eqB iX6_above_5 (fun h1 => ?_) (fun h1 => ?_)
  · skip
    have h1 := of_decide_eq_false h1
    refine aa_go (aa_iconst iX6_above_17 ki_0) ?_
    refine aa_iret iX6_above_18 rfl ?_
    exact ⟨by rw [if_neg h1], rfl⟩
  · skip
    have h1 := of_decide_eq_true h1
    refine aa_go (aa_aload0 iX6_above_8) (aa_go (aa_getR iX6_above_9 fl_X6_21 (sh_7 hW) rfl) (aa_go (aa_iload1 iX6_above_12) (aa_go (aa_ialE iX6_above_13 (sh_11 hW) (by omega) (by omega) ((hX.it h1).2.2.2.1)) (aa_go (aa_goto iX6_above_14) ?_))))
    refine aa_iret iX6_above_18 rfl ?_
    exact ⟨by rw [if_pos h1], rfl⟩
end
