/-! PUBLIC METHODS, second part: heaps, worths, three heirs -/
def gth (P : pl_T) (g : gm_T) : Nat := gst g &&& (2 ^ pl_n P - 1)
def jtP (P : pl_T) (s : Nat) : Nat := s &&& (2 ^ pl_n P - 1) ||| (2 ^ pl_b P - 1) <<< pl_n P
theorem u32 (x : Int32) : ∃ a, a < 4294967296 ∧ x = nI a := ⟨x.toBitVec.toNat, x.toBitVec.isLt, by
  apply Int32.toBitVec_inj.mp
  rw [nI_bv]
  apply BitVec.eq_of_toNat_eq
  rw [BitVec.toNat_ofNat, Nat.mod_eq_of_lt x.toBitVec.isLt]⟩
theorem i32n (c : Nat) (hc : c < 2147483648) (x : Int32) : (∃ k, k < c ∧ x = nI k) ∨ ¬ (0 ≤ x ∧ x < nI c) := by
  by_cases h : 0 ≤ x ∧ x < nI c
  · left
    obtain ⟨h0, h1⟩ := h
    rw [Int32.le_iff_toInt_le, Int32.toInt_zero] at h0
    rw [Int32.lt_iff_toInt_lt, nI_toInt (by omega)] at h1
    refine ⟨x.toInt.toNat, by omega, ?_⟩
    rw [← Int32.toInt_inj, nI_toInt (by omega)]
    omega
  · exact Or.inr h
theorem bd_full {a n : Nat} : bd a (2 ^ n - 1) = 0 ↔ a < 2 ^ n := by
  constructor
  · intro h
    apply bb_lt
    intro i hi
    have : (bd a (2 ^ n - 1)).testBit i = false := by rw [h, Nat.zero_testBit]
    rw [bd_bit, Nat.testBit_two_pow_sub_one] at this
    simpa [show ¬ i < n by omega] using this
  · intro h
    apply bb_ext
    intro i
    rw [bd_bit, Nat.testBit_two_pow_sub_one, Nat.zero_testBit]
    by_cases hi : i < n
    · simp [hi]
    · simp [bb_hi h (by omega : n ≤ i)]
section
variable {v W S R : Nat} {r : Nat → Nat} {dy : List aa_Shp} {σ : aa_St} {P : pl_T} {tx : Nat → Nat} {n : Nat} {g : gm_T} {kp : Nat → Option gm_T} {lk tl : Nat} {rw : Nat → Int} {N : Nat}
theorem gth_lt (P : pl_T) (g : gm_T) : gth P g < 2 ^ pl_n P := by
  have : gth P g ≤ 2 ^ pl_n P - 1 := Nat.and_le_right
  have := pw_pos (pl_n P)
  omega
theorem jtP_lt (s : Nat) : jtP P s < 2 ^ (pl_n P + pl_b P) := by
  have p1 := pw_pos (pl_n P)
  have p2 := pw_pos (pl_b P)
  refine bb_or ?_ (shl_lt (wc := pl_b P) (by omega) (by omega))
  have : s &&& (2 ^ pl_n P - 1) ≤ 2 ^ pl_n P - 1 := Nat.and_le_right
  have : 2 ^ pl_n P ≤ 2 ^ (pl_n P + pl_b P) := pw_lt (by omega)
  omega
theorem p_value (h : XIv P tx n g kp lk tl rw N v W S R r dy σ) : ∃ r' dy' σ', (XI P tx n g kp lk 1 (rw1 (vlb P (gst g) (pl_n P + pl_b P))) N r' dy' σ' ∧ CF r σ r' σ') ∧ aa_SX mX11_value 100 [.ref 0] σ (some (.int (nI (vl P (gst g))))) σ' := by
  obtain ⟨r1, dy1, σ1, ⟨hM1, hR1⟩, hS1⟩ := c_X3_valuesBehind h.sg h.1 h.X h.V h.M.2.2.1 h.st
  obtain ⟨h1, f1⟩ := h.M2 hM1 h.p16 hR1
  have vb := vlb_lt h.ok (gst g) (pl_n P + pl_b P)
  obtain ⟨h2, f2⟩ := h1.tell (vlb P (gst g) (pl_n P + pl_b P))
  obtain ⟨r3, dy3, σ3, ⟨hM3, hR3⟩, hS3⟩ := c_X3_valueOf h2.sg h2.1 h2.X h2.V h2.M.2.2.1 h2.st
  obtain ⟨h3, f3⟩ := h2.M2 hM3 h2.p16 (fun _ => hR3)
  refine ⟨r3, dy3, σ3, ⟨h3.to, (f1.tr f2).tr f3⟩, ?_⟩
  refine aa_E_of (by decide) 0 [some (.ref 0)] rfl rfl ?_
  refine aa_go (aa_aload0 iX11_value_0) (aa_go (aa_aload0 iX11_value_1) (aa_go (aa_getR iX11_value_2 fl_X11_50 (sh_0 h.1) rfl) (aa_go (aa_aload0 iX11_value_5) (aa_go (aa_getR iX11_value_6 fl_X11_28 (sh_0 h.1) rfl) (aa_go (aa_cVi iX11_value_9 (c_X2_state h.1 h.G) (by decide) lc_X2_state lk_X11_140 (sh_20 h.1) rfl rfl (Nat.le_of_ble_eq_true rfl)) (aa_go (aa_cVi iX11_value_12 (hS1) (by decide) lc_X3_valuesBehind lk_X11_266 (sh_29 h.1) rfl rfl (Nat.le_of_ble_eq_true rfl)) ?_))))))
  refine aa_go (aa_i2lN iX11_value_15 (by omega)) (aa_go (aa_cVv iX11_value_16 (c_tell h1.1 _) (by decide) lc_X11_tell lk_X11_224 (sh_0 h1.1) rfl rfl (Nat.le_of_ble_eq_true rfl)) ?_)
  refine aa_go (aa_aload0 iX11_value_19) (aa_go (aa_getR iX11_value_20 fl_X11_50 (sh_0 h2.1) rfl) (aa_go (aa_aload0 iX11_value_23) (aa_go (aa_getR iX11_value_24 fl_X11_28 (sh_0 h2.1) rfl) (aa_go (aa_cVi iX11_value_27 (c_X2_state h2.1 h2.G) (by decide) lc_X2_state lk_X11_140 (sh_20 h2.1) rfl rfl (Nat.le_of_ble_eq_true rfl)) (aa_go (aa_cVi iX11_value_30 (hS3) (by decide) lc_X3_valueOf lk_X11_269 (sh_29 h2.1) rfl rfl (Nat.le_of_ble_eq_true rfl)) ?_)))))
  refine aa_iret iX11_value_33 rfl ?_
  exact ⟨rfl, rfl⟩
theorem p_alone (h : XIv P tx n g kp lk tl rw N v W S R r dy σ) {a : Nat} (ha : a < 2 ^ pl_n P) : ∃ r' dy' σ', (XI P tx n g kp lk tl rw N r' dy' σ' ∧ CF r σ r' σ') ∧ aa_SX mX11_alone 100 [.ref 0, .int (nI a)] σ (some (.int (nI (vl P (jtP P a))))) σ' := by
  have hn := h.X.n14
  have p14 := pw14 hn
  obtain ⟨r3, dy3, σ3, ⟨hM3, hR3⟩, hS3⟩ := c_X3_valueOf h.sg h.1 h.X h.V h.M.2.2.1 (jtP_lt a)
  obtain ⟨h3, f3⟩ := h.M2 hM3 h.p16 (fun _ => hR3)
  refine ⟨r3, dy3, σ3, ⟨h3.to, f3⟩, ?_⟩
  have b0 := bd_full.mpr ha
  refine aa_E_of (by decide) 0 [some (.ref 0), some (.int (nI a))] rfl rfl ?_
  refine aa_go (aa_iload1 iX11_alone_0) (aa_go (aa_aload0 iX11_alone_1) (aa_go (aa_getR iX11_alone_2 fl_X11_19 (sh_0 h.1) rfl) (aa_go (aa_cVi iX11_alone_5 (c_X6_full h.1 h.X) (by decide) lc_X6_full lk_X11_168 (sh_7 h.1) rfl rfl (Nat.le_of_ble_eq_true rfl)) (aa_go (aa_iconst iX11_alone_8 ki_m1) (aa_go (aa_ixor iX11_alone_9) (aa_go (aa_iandC iX11_alone_10) ?_))))))
  refine aa_if_eqN iX11_alone_11 (by omega) (fun g1 => ?_) (fun g1 => ?_)
  · skip
    refine aa_go (aa_aload0 iX11_alone_18) (aa_go (aa_getR iX11_alone_19 fl_X11_50 (sh_0 h.1) rfl) (aa_go (aa_aload0 iX11_alone_22) (aa_go (aa_getR iX11_alone_23 fl_X11_19 (sh_0 h.1) rfl) (aa_go (aa_iload1 iX11_alone_26) (aa_go (aa_cVi iX11_alone_27 (c_X6_justThese h.1 h.X) (by decide) lc_X6_justThese lk_X11_272 (sh_7 h.1) rfl rfl (Nat.le_of_ble_eq_true rfl)) (aa_go (aa_cVi iX11_alone_30 (hS3) (by decide) lc_X3_valueOf lk_X11_269 (sh_29 h.1) rfl rfl (Nat.le_of_ble_eq_true rfl)) ?_))))))
    refine aa_iret iX11_alone_33 rfl ?_
    exact ⟨rfl, rfl⟩
  · skip
    exact absurd b0 g1
theorem p_aloneB (h : XIv P tx n g kp lk tl rw N v W S R r dy σ) {a : Nat} (h32 : a < 4294967296) (ha : ¬ a < 2 ^ pl_n P) : aa_SX mX11_alone 100 [.ref 0, .int (nI a)] σ (some (.int (-1))) σ := by
  have b0 : ¬ bd a (2 ^ pl_n P - 1) = 0 := fun q => ha (bd_full.mp q)
  have bl : bd a (2 ^ pl_n P - 1) < 4294967296 := bb_bd h32
  refine aa_E_of (by decide) 0 [some (.ref 0), some (.int (nI a))] rfl rfl ?_
  refine aa_go (aa_iload1 iX11_alone_0) (aa_go (aa_aload0 iX11_alone_1) (aa_go (aa_getR iX11_alone_2 fl_X11_19 (sh_0 h.1) rfl) (aa_go (aa_cVi iX11_alone_5 (c_X6_full h.1 h.X) (by decide) lc_X6_full lk_X11_168 (sh_7 h.1) rfl rfl (Nat.le_of_ble_eq_true rfl)) (aa_go (aa_iconst iX11_alone_8 ki_m1) (aa_go (aa_ixor iX11_alone_9) (aa_go (aa_iandC iX11_alone_10) ?_))))))
  refine aa_if_eq iX11_alone_11 (fun g1 => ?_) (fun g1 => ?_)
  · skip
    exact absurd ((nI_z bl).mp g1) b0
  · skip
    refine aa_go (aa_iconst iX11_alone_14 ki_m1) (aa_go (aa_goto iX11_alone_15) ?_)
    refine aa_iret iX11_alone_33 rfl ?_
    exact ⟨rfl, rfl⟩
theorem c_isThere (h : XIv P tx n g kp lk tl rw N v W S R r dy σ) {k : Nat} (hk : k < pl_n P) : aa_SX mX11_isThere 3 [.ref 0, .int (nI k)] σ (some (.int (nI ((gth P g).testBit k).toNat))) σ := by
  have hn := h.X.n14
  have p14 := pw14 hn
  have gl := gth_lt P g
  refine aa_E_of (by decide) 0 [some (.ref 0), some (.int (nI k))] rfl rfl ?_
  refine aa_go (aa_aload0 iX11_isThere_0) (aa_go (aa_getR iX11_isThere_1 fl_X11_28 (sh_0 h.1) rfl) (aa_go (aa_cVi iX11_isThere_4 (c_X2_there h.1 h.X h.G) (by decide) lc_X2_there lk_X11_278 (sh_20 h.1) rfl rfl (Nat.le_of_ble_eq_true rfl)) ?_))
  refine aa_go (aa_top (y := nI (gth P g)) (rfl)) ?_
  refine aa_go (aa_iload1 iX11_isThere_7) (aa_go (aa_ishrN iX11_isThere_8 (by omega) (by omega)) (aa_go (aa_iconst iX11_isThere_9 ki_1) (aa_go (aa_ibit iX11_isThere_10) ?_)))
  refine aa_if_eqB iX11_isThere_11 (fun g1 => ?_) (fun g1 => ?_)
  · skip
    refine aa_go (aa_iconst iX11_isThere_18 ki_0) ?_
    refine aa_zretF iX11_isThere_19 rfl ?_
    exact ⟨by rw [g1]; rfl, rfl⟩
  · skip
    refine aa_go (aa_iconst iX11_isThere_14 ki_1) (aa_go (aa_goto iX11_isThere_15) ?_)
    refine aa_zretT iX11_isThere_19 rfl ?_
    exact ⟨by rw [g1]; rfl, rfl⟩
theorem XIv.e13 (h : XIv P tx n g kp lk tl rw N v W S R r dy σ) : σ.1 7 13 = nI (pl_n P) := h.X.n
theorem c_heapOf (h : XIv P tx n g kp lk tl rw N v W S R r dy σ) {k : Nat} (hk : k < pl_n P) {t : Nat} (ht : t < 65536) : aa_SX mX6_heapOf 1 [.ref 7, .int (nI k), .int (nI t)] σ (some (.int (nI (pl_hp P t k)))) σ := c_X6_heapOf h.1 h.X.n14 h.X.n (fun k hk => (h.X.it hk).2.2.2.2) hk ht
theorem p_heap (h : XIv P tx n g kp lk tl rw N v W S R r dy σ) {k : Nat} (hk : k < pl_n P) : aa_SX mX11_heap 100 [.ref 0, .int (nI k)] σ (some (.int (if (gth P g).testBit k then nI (pl_hp P (gth P g) k) else -2))) σ := by
  have hn := h.X.n14
  have p14 := pw14 hn
  have gl := gth_lt P g
  refine aa_E_of (by decide) 0 [some (.ref 0), some (.int (nI k))] rfl rfl ?_
  refine aa_go (aa_aload0 iX11_heap_0) (aa_go (aa_getR iX11_heap_1 fl_X11_19 (sh_0 h.1) rfl) (aa_go (aa_iload1 iX11_heap_4) (aa_go (aa_cVi iX11_heap_5 (c_X6_hasN h.1 h.X (by omega)) (by decide) lc_X6_has lk_X11_115 (sh_7 h.1) rfl rfl (Nat.le_of_ble_eq_true rfl)) ?_)))
  refine aa_if_neB iX11_heap_8 (fun g1 => ?_) (fun g1 => ?_)
  · skip
    refine aa_go (aa_aload0 iX11_heap_13) (aa_go (aa_iload1 iX11_heap_14) (aa_go (aa_cVi iX11_heap_15 (c_isThere h hk) (by decide) lc_X11_isThere lk_X11_275 (sh_0 h.1) rfl rfl (Nat.le_of_ble_eq_true rfl)) ?_))
    refine aa_if_eqB iX11_heap_18 (fun g2 => ?_) (fun g2 => ?_)
    · skip
      refine aa_go (aa_bipush iX11_heap_39 kb_m2) ?_
      refine aa_iret iX11_heap_41 rfl ?_
      exact ⟨by rw [g2]; rfl, rfl⟩
    · skip
      refine aa_go (aa_aload0 iX11_heap_21) (aa_go (aa_getR iX11_heap_22 fl_X11_19 (sh_0 h.1) rfl) (aa_go (aa_iload1 iX11_heap_25) (aa_go (aa_aload0 iX11_heap_26) (aa_go (aa_getR iX11_heap_27 fl_X11_28 (sh_0 h.1) rfl) (aa_go (aa_cVi iX11_heap_30 (c_X2_there h.1 h.X h.G) (by decide) lc_X2_there lk_X11_278 (sh_20 h.1) rfl rfl (Nat.le_of_ble_eq_true rfl)) (aa_go (aa_cVi iX11_heap_33 (c_heapOf h hk (t := gth P g) (by omega)) (by decide) lc_X6_heapOf lk_X11_281 (sh_7 h.1) rfl rfl (Nat.le_of_ble_eq_true rfl)) (aa_go (aa_goto iX11_heap_36) ?_)))))))
      refine aa_iret iX11_heap_41 rfl ?_
      exact ⟨by rw [g2]; rfl, rfl⟩
  · skip
    exact absurd hk (of_decide_eq_false g1)
theorem p_heapB (h : XIv P tx n g kp lk tl rw N v W S R r dy σ) {x : Int32} (hx : ¬ (0 ≤ x ∧ x < nI (pl_n P))) : aa_SX mX11_heap 100 [.ref 0, .int x] σ (some (.int (-1))) σ := by
  refine aa_E_of (by decide) 0 [some (.ref 0), some (.int (x))] rfl rfl ?_
  refine aa_go (aa_aload0 iX11_heap_0) (aa_go (aa_getR iX11_heap_1 fl_X11_19 (sh_0 h.1) rfl) (aa_go (aa_iload1 iX11_heap_4) (aa_go (aa_cVi iX11_heap_5 (c_X6_has h.1 h.X x) (by decide) lc_X6_has lk_X11_115 (sh_7 h.1) rfl rfl (Nat.le_of_ble_eq_true rfl)) ?_)))
  refine aa_if_neB iX11_heap_8 (fun g1 => ?_) (fun g1 => ?_)
  · skip
    exact absurd (of_decide_eq_true g1) hx
  · skip
    refine aa_go (aa_iconst iX11_heap_11 ki_m1) ?_
    refine aa_iret iX11_heap_12 rfl ?_
    exact ⟨rfl, rfl⟩
theorem p_make (h : XIv P tx n g kp lk tl rw N v W S R r dy σ) {t : Nat} (ht : t ≤ 31) : ∃ r' dy' σ', (XI P tx n g kp lk tl rw N r' dy' σ' ∧ CF r σ r' σ') ∧ aa_SX mX11_make 100 [.ref 0, .int (nI t)] σ (some (.int (match ftk P (gst g) t (pl_n P + pl_b P) with
    | none => -2
    | some j => nI (pl_mo P j)))) σ' := by
  have ho : ∀ j, ftk P (gst g) t (pl_n P + pl_b P) = some j → j < pl_n P + pl_b P := fun j hj => mlk_lt (List.mem_of_find?_eq_some hj)
  obtain ⟨r1, dy1, σ1, ⟨hM1, hR1⟩, hS1⟩ := c_X3_firstTo h.sg h.1 h.X h.V h.M.2.2.1 h.st ht
  obtain ⟨h1, f1⟩ := h.M2 hM1 h.p16 hR1
  refine ⟨r1, dy1, σ1, ⟨h1.to, f1⟩, ?_⟩
  cases q : ftk P (gst g) t (pl_n P + pl_b P) with
  | none =>
    rw [q] at hS1
    have hS2 : aa_SX mX3_firstTo 25 [.ref 29, .int (nI (g.2.1 g.1)), .int (nI t)] σ (some (.int (-1))) σ1 := hS1
    refine aa_E_of (by decide) 1 [some (.ref 0), some (.int (nI t)), none] rfl rfl ?_
    refine aa_go (aa_iload1 iX11_make_0) ?_
    refine aa_go (aa_if_ltN iX11_make_1 (by omega)) ?_
    refine aa_go (aa_iload1 iX11_make_4) (aa_go (aa_bipush iX11_make_5 kb_31) ?_)
    refine aa_ic_leN iX11_make_7 (by omega) (by omega) (fun g1 => ?_) (fun g1 => ?_)
    · skip
      refine aa_go (aa_aload0 iX11_make_12) (aa_go (aa_getR iX11_make_13 fl_X11_50 (sh_0 h.1) rfl) (aa_go (aa_aload0 iX11_make_16) (aa_go (aa_getR iX11_make_17 fl_X11_28 (sh_0 h.1) rfl) (aa_go (aa_cVi iX11_make_20 (c_X2_state h.1 h.G) (by decide) lc_X2_state lk_X11_140 (sh_20 h.1) rfl rfl (Nat.le_of_ble_eq_true rfl)) (aa_go (aa_iload1 iX11_make_23) (aa_go (aa_cVi iX11_make_24 (hS2) (by decide) lc_X3_firstTo lk_X11_284 (sh_29 h.1) rfl rfl (Nat.le_of_ble_eq_true rfl)) (aa_go (aa_istore2 iX11_make_27 rfl (by decide)) ?_)))))))
      refine aa_go (aa_iload2 iX11_make_28) (aa_go (aa_iconst iX11_make_29 ki_m1) ?_)
      refine aa_ic_ne iX11_make_30 (fun g2 => ?_) (fun g2 => ?_)
      · skip
        exact absurd rfl g2
      · skip
        refine aa_go (aa_bipush iX11_make_33 kb_m2) (aa_go (aa_goto iX11_make_35) ?_)
        refine aa_iret iX11_make_46 rfl ?_
        exact ⟨rfl, rfl⟩
    · skip
      omega
  | some j =>
    rw [q] at hS1
    have jl := ho j q
    have hn := h.X.n14
    have hb := h.X.b2
    have hS2 : aa_SX mX3_firstTo 25 [.ref 29, .int (nI (g.2.1 g.1)), .int (nI t)] σ (some (.int (nI j))) σ1 := hS1
    refine aa_E_of (by decide) 1 [some (.ref 0), some (.int (nI t)), none] rfl rfl ?_
    refine aa_go (aa_iload1 iX11_make_0) ?_
    refine aa_go (aa_if_ltN iX11_make_1 (by omega)) ?_
    refine aa_go (aa_iload1 iX11_make_4) (aa_go (aa_bipush iX11_make_5 kb_31) ?_)
    refine aa_ic_leN iX11_make_7 (by omega) (by omega) (fun g1 => ?_) (fun g1 => ?_)
    · skip
      refine aa_go (aa_aload0 iX11_make_12) (aa_go (aa_getR iX11_make_13 fl_X11_50 (sh_0 h.1) rfl) (aa_go (aa_aload0 iX11_make_16) (aa_go (aa_getR iX11_make_17 fl_X11_28 (sh_0 h.1) rfl) (aa_go (aa_cVi iX11_make_20 (c_X2_state h.1 h.G) (by decide) lc_X2_state lk_X11_140 (sh_20 h.1) rfl rfl (Nat.le_of_ble_eq_true rfl)) (aa_go (aa_iload1 iX11_make_23) (aa_go (aa_cVi iX11_make_24 (hS2) (by decide) lc_X3_firstTo lk_X11_284 (sh_29 h.1) rfl rfl (Nat.le_of_ble_eq_true rfl)) (aa_go (aa_istore2 iX11_make_27 rfl (by decide)) ?_)))))))
      refine aa_go (aa_iload2 iX11_make_28) (aa_go (aa_iconst iX11_make_29 ki_m1) ?_)
      refine aa_ic_ne iX11_make_30 (fun g2 => ?_) (fun g2 => ?_)
      · skip
        refine aa_go (aa_aload0 iX11_make_38) (aa_go (aa_getR iX11_make_39 fl_X11_19 (sh_0 h1.1) rfl) (aa_go (aa_iload2 iX11_make_42) (aa_go (aa_cVi iX11_make_43 (c_X6_moveOf h1.1 h1.X jl) (by decide) lc_X6_moveOf lk_X11_236 (sh_7 h1.1) rfl rfl (Nat.le_of_ble_eq_true rfl)) ?_)))
        refine aa_iret iX11_make_46 rfl ?_
        exact ⟨rfl, rfl⟩
      · skip
        exact absurd g2 (nI_m1ne (by omega))
    · skip
      omega
theorem p_makeB (h : XIv P tx n g kp lk tl rw N v W S R r dy σ) {x : Int32} (hx : x < 0 ∨ nI 31 < x) : aa_SX mX11_make 100 [.ref 0, .int x] σ (some (.int (-1))) σ := by
  refine aa_E_of (by decide) 1 [some (.ref 0), some (.int (x)), none] rfl rfl ?_
  refine aa_go (aa_iload1 iX11_make_0) ?_
  refine aa_if_lt iX11_make_1 (fun g1 => ?_) (fun g1 => ?_)
  · skip
    refine aa_go (aa_iconst iX11_make_10 ki_m1) ?_
    refine aa_iret iX11_make_11 rfl ?_
    exact ⟨rfl, rfl⟩
  · skip
    refine aa_go (aa_iload1 iX11_make_4) (aa_go (aa_bipush iX11_make_5 kb_31) ?_)
    refine aa_ic_le iX11_make_7 (fun g2 => ?_) (fun g2 => ?_)
    · skip
      rcases hx with q | q
      · exact absurd q g1
      · exact absurd q (Int32.not_lt.mpr g2)
    · skip
      refine aa_go (aa_iconst iX11_make_10 ki_m1) ?_
      refine aa_iret iX11_make_11 rfl ?_
      exact ⟨rfl, rfl⟩
theorem p_joined (h : XIv P tx n g kp lk tl rw N v W S R r dy σ) : ∃ σ', (XI P tx n g kp lk tl rw N r dy σ' ∧ CF r σ r σ') ∧ aa_SX mX11_joined 100 [.ref 0] σ (some (.int (if gth P g = 0 then nI 0 else if 0 < pl_b P then -2 else if jb P (gth P g) then -2 else nI (jd P (gth P g))))) σ' := by
  have hn := h.X.n14
  have hb := h.X.b2
  have p14 := pw14 hn
  have gl := gth_lt P g
  obtain ⟨σ1, hF1, hS1⟩ := c_X3_byJoining h.1 h.X gl
  obtain ⟨h1, f1⟩ := h.MA (hF1.A (by decide))
  have key : aa_V mX11_joined 100 0 [some (.ref 0)] [] σ (fun ra σ' => ra = some (.int (if gth P g = 0 then nI 0 else if 0 < pl_b P then -2 else if jb P (gth P g) then -2 else nI (jd P (gth P g)))) ∧ XI P tx n g kp lk tl rw N r dy σ' ∧ CF r σ r σ') := by
    refine aa_go (aa_aload0 iX11_joined_0) (aa_go (aa_getR iX11_joined_1 fl_X11_28 (sh_0 h.1) rfl) (aa_go (aa_cVi iX11_joined_4 (c_X2_there h.1 h.X h.G) (by decide) lc_X2_there lk_X11_278 (sh_20 h.1) rfl rfl (Nat.le_of_ble_eq_true rfl)) ?_))
    refine aa_go (aa_top (y := nI (gth P g)) (rfl)) ?_
    refine aa_if_neN iX11_joined_7 (by omega) (fun g1 => ?_) (fun g1 => ?_)
    · skip
      refine aa_go (aa_aload0 iX11_joined_12) (aa_go (aa_getR iX11_joined_13 fl_X11_19 (sh_0 h.1) rfl) (aa_go (aa_cVi iX11_joined_16 (c_X6_backs h.1 h.X) (by decide) lc_X6_backs lk_X11_287 (sh_7 h.1) rfl rfl (Nat.le_of_ble_eq_true rfl)) ?_))
      refine aa_if_leN iX11_joined_19 (by omega) (fun g2 => ?_) (fun g2 => ?_)
      · skip
        refine aa_go (aa_aload0 iX11_joined_27) (aa_go (aa_getR iX11_joined_28 fl_X11_50 (sh_0 h.1) rfl) (aa_go (aa_aload0 iX11_joined_31) (aa_go (aa_getR iX11_joined_32 fl_X11_28 (sh_0 h.1) rfl) (aa_go (aa_cVi iX11_joined_35 (c_X2_there h.1 h.X h.G) (by decide) lc_X2_there lk_X11_278 (sh_20 h.1) rfl rfl (Nat.le_of_ble_eq_true rfl)) (aa_go (aa_cVi iX11_joined_38 (hS1) (by decide) lc_X3_byJoining lk_X11_290 (sh_29 h.1) rfl rfl (Nat.le_of_ble_eq_true rfl)) ?_)))))
        refine aa_iret iX11_joined_41 rfl ?_
        exact ⟨by rw [if_neg g1, if_neg (show ¬ 0 < pl_b P by omega)], h1.to, f1⟩
      · skip
        refine aa_go (aa_bipush iX11_joined_22 kb_m2) (aa_go (aa_goto iX11_joined_24) ?_)
        refine aa_iret iX11_joined_41 rfl ?_
        exact ⟨by rw [if_neg g1, if_pos (show 0 < pl_b P by omega)], h.to, CF.rf⟩
    · skip
      refine aa_go (aa_iconst iX11_joined_10 ki_0) ?_
      refine aa_iret iX11_joined_11 rfl ?_
      exact ⟨by rw [if_pos g1], h.to, CF.rf⟩
  obtain ⟨ra, σ', ⟨rfl, h1⟩, hS9⟩ := aa_S_of (avs := [.ref 0]) (by decide) 0 [some (.ref 0)] rfl rfl key
  exact ⟨σ', h1, hS9⟩
theorem p_alike (h : XIv P tx n g kp lk tl rw N v W S R r dy σ) {i j : Nat} (hi : i < pl_n P) (hj : j < pl_n P) : ∃ σ', (XI P tx n g kp lk tl rw N r dy σ' ∧ CF r σ r σ') ∧ aa_SX mX11_alike 100 [.ref 0, .int (nI i), .int (nI j)] σ (some (.int (if (gth P g).testBit i && (gth P g).testBit j then cpA P (pl_hp P (gth P g) i) (pl_hp P (gth P g) j) else -2))) σ' := by
  have hn := h.X.n14
  have hb := h.X.b2
  have p14 := pw14 hn
  have gl := gth_lt P g
  obtain ⟨σ1, hF1, hS1⟩ := c_X3_compare h.1 h.X (pl_hp_lt (i := i) gl) (pl_hp_lt (i := j) gl)
  obtain ⟨h1, f1⟩ := h.MA (σ' := σ1) ⟨hF1.1, fun x hx => hF1.2 x (fun c => hx (List.mem_cons_of_mem _ c))⟩
  have key : aa_V mX11_alike 100 0 [some (.ref 0), some (.int (nI i)), some (.int (nI j))] [] σ (fun ra σ' => ra = some (.int (if (gth P g).testBit i && (gth P g).testBit j then cpA P (pl_hp P (gth P g) i) (pl_hp P (gth P g) j) else -2)) ∧ XI P tx n g kp lk tl rw N r dy σ' ∧ CF r σ r σ') := by
    refine aa_go (aa_aload0 iX11_alike_0) (aa_go (aa_getR iX11_alike_1 fl_X11_19 (sh_0 h.1) rfl) (aa_go (aa_iload1 iX11_alike_4) (aa_go (aa_cVi iX11_alike_5 (c_X6_hasN h.1 h.X (by omega)) (by decide) lc_X6_has lk_X11_115 (sh_7 h.1) rfl rfl (Nat.le_of_ble_eq_true rfl)) ?_)))
    refine aa_if_eqB iX11_alike_8 (fun g1 => ?_) (fun g1 => ?_)
    · skip
      exact absurd hi (of_decide_eq_false g1)
    · skip
      refine aa_go (aa_aload0 iX11_alike_11) (aa_go (aa_getR iX11_alike_12 fl_X11_19 (sh_0 h.1) rfl) (aa_go (aa_iload2 iX11_alike_15) (aa_go (aa_cVi iX11_alike_16 (c_X6_hasN h.1 h.X (by omega)) (by decide) lc_X6_has lk_X11_115 (sh_7 h.1) rfl rfl (Nat.le_of_ble_eq_true rfl)) ?_)))
      refine aa_if_neB iX11_alike_19 (fun g2 => ?_) (fun g2 => ?_)
      · skip
        refine aa_go (aa_aload0 iX11_alike_24) (aa_go (aa_iload1 iX11_alike_25) (aa_go (aa_cVi iX11_alike_26 (c_isThere h hi) (by decide) lc_X11_isThere lk_X11_275 (sh_0 h.1) rfl rfl (Nat.le_of_ble_eq_true rfl)) ?_))
        refine aa_if_eqB iX11_alike_29 (fun g3 => ?_) (fun g3 => ?_)
        · skip
          refine aa_go (aa_bipush iX11_alike_40 kb_m2) ?_
          refine aa_iret iX11_alike_42 rfl ?_
          exact ⟨by rw [g3]; rfl, h.to, CF.rf⟩
        · skip
          refine aa_go (aa_aload0 iX11_alike_32) (aa_go (aa_iload2 iX11_alike_33) (aa_go (aa_cVi iX11_alike_34 (c_isThere h hj) (by decide) lc_X11_isThere lk_X11_275 (sh_0 h.1) rfl rfl (Nat.le_of_ble_eq_true rfl)) ?_))
          refine aa_if_neB iX11_alike_37 (fun g4 => ?_) (fun g4 => ?_)
          · skip
            refine aa_go (aa_aload0 iX11_alike_43) (aa_go (aa_getR iX11_alike_44 fl_X11_50 (sh_0 h.1) rfl) (aa_go (aa_aload0 iX11_alike_47) (aa_go (aa_getR iX11_alike_48 fl_X11_19 (sh_0 h.1) rfl) (aa_go (aa_iload1 iX11_alike_51) (aa_go (aa_aload0 iX11_alike_52) (aa_go (aa_getR iX11_alike_53 fl_X11_28 (sh_0 h.1) rfl) (aa_go (aa_cVi iX11_alike_56 (c_X2_there h.1 h.X h.G) (by decide) lc_X2_there lk_X11_278 (sh_20 h.1) rfl rfl (Nat.le_of_ble_eq_true rfl)) ?_)))))))
            refine aa_go (aa_cVi iX11_alike_59 (c_heapOf h hi (t := gth P g) (by omega)) (by decide) lc_X6_heapOf lk_X11_281 (sh_7 h.1) rfl rfl (Nat.le_of_ble_eq_true rfl)) (aa_go (aa_aload0 iX11_alike_62) (aa_go (aa_getR iX11_alike_63 fl_X11_19 (sh_0 h.1) rfl) (aa_go (aa_iload2 iX11_alike_66) (aa_go (aa_aload0 iX11_alike_67) (aa_go (aa_getR iX11_alike_68 fl_X11_28 (sh_0 h.1) rfl) (aa_go (aa_cVi iX11_alike_71 (c_X2_there h.1 h.X h.G) (by decide) lc_X2_there lk_X11_278 (sh_20 h.1) rfl rfl (Nat.le_of_ble_eq_true rfl)) (aa_go (aa_cVi iX11_alike_74 (c_heapOf h hj (t := gth P g) (by omega)) (by decide) lc_X6_heapOf lk_X11_281 (sh_7 h.1) rfl rfl (Nat.le_of_ble_eq_true rfl)) ?_)))))))
            refine aa_go (aa_cVi iX11_alike_77 (hS1) (by decide) lc_X3_compare lk_X11_293 (sh_29 h.1) rfl rfl (Nat.le_of_ble_eq_true rfl)) ?_
            refine aa_iret iX11_alike_80 rfl ?_
            exact ⟨by rw [g3, g4]; rfl, h1.to, f1⟩
          · skip
            refine aa_go (aa_bipush iX11_alike_40 kb_m2) ?_
            refine aa_iret iX11_alike_42 rfl ?_
            exact ⟨by rw [g4]; simp, h.to, CF.rf⟩
      · skip
        exact absurd hj (of_decide_eq_false g2)
  obtain ⟨ra, σ', ⟨rfl, h1⟩, hS9⟩ := aa_S_of (avs := [.ref 0, .int (nI i), .int (nI j)]) (by decide) 0 [some (.ref 0), some (.int (nI i)), some (.int (nI j))] rfl rfl key
  exact ⟨σ', h1, hS9⟩
theorem p_alikeB (h : XIv P tx n g kp lk tl rw N v W S R r dy σ) {x y : Int32} (hx : ¬ (0 ≤ x ∧ x < nI (pl_n P)) ∨ ¬ (0 ≤ y ∧ y < nI (pl_n P))) : aa_SX mX11_alike 100 [.ref 0, .int x, .int y] σ (some (.int (-1))) σ := by
  refine aa_E_of (by decide) 0 [some (.ref 0), some (.int (x)), some (.int (y))] rfl rfl ?_
  refine aa_go (aa_aload0 iX11_alike_0) (aa_go (aa_getR iX11_alike_1 fl_X11_19 (sh_0 h.1) rfl) (aa_go (aa_iload1 iX11_alike_4) (aa_go (aa_cVi iX11_alike_5 (c_X6_has h.1 h.X x) (by decide) lc_X6_has lk_X11_115 (sh_7 h.1) rfl rfl (Nat.le_of_ble_eq_true rfl)) ?_)))
  refine aa_if_eqB iX11_alike_8 (fun g1 => ?_) (fun g1 => ?_)
  · skip
    refine aa_go (aa_iconst iX11_alike_22 ki_m1) ?_
    refine aa_iret iX11_alike_23 rfl ?_
    exact ⟨rfl, rfl⟩
  · skip
    refine aa_go (aa_aload0 iX11_alike_11) (aa_go (aa_getR iX11_alike_12 fl_X11_19 (sh_0 h.1) rfl) (aa_go (aa_iload2 iX11_alike_15) (aa_go (aa_cVi iX11_alike_16 (c_X6_has h.1 h.X y) (by decide) lc_X6_has lk_X11_115 (sh_7 h.1) rfl rfl (Nat.le_of_ble_eq_true rfl)) ?_)))
    refine aa_if_neB iX11_alike_19 (fun g2 => ?_) (fun g2 => ?_)
    · skip
      rcases hx with q | q
      · exact absurd (of_decide_eq_true g1) q
      · exact absurd (of_decide_eq_true g2) q
    · skip
      refine aa_go (aa_iconst iX11_alike_22 ki_m1) ?_
      refine aa_iret iX11_alike_23 rfl ?_
      exact ⟨rfl, rfl⟩
theorem XIv.s38 (h : XIv P tx n g kp lk tl rw N v W S R r dy σ) : r 4 ≠ 38 := by
  have := h.2.1.lo (show 4 < 7 by decide)
  omega
theorem p_best (h : XIv P tx n g kp lk tl rw N v W S R r dy σ) (hN : N < 1000000) : ∃ r' dy' σ', (XI P tx n g kp lk 1 (rw1 (mvZ P (fbk P (gtn g) (gst g) (pl_n P + pl_b P)))) N r' dy' σ' ∧ CF r σ r' σ') ∧ aa_SX mX11_best 100 [.ref 0] σ (some (.int (iZ (me P (gtn g) (gst g))))) σ' := by
  have t1 : gtn g ≤ 1 := by unfold gtn; omega
  have sN := h.2.2.2.2.2.2.2.2.2.1
  have ho : ∀ j, fbk P (gtn g) (gst g) (pl_n P + pl_b P) = some j → j < pl_n P + pl_b P := fun j hj => mlk_lt (List.mem_of_find?_eq_some hj)
  obtain ⟨r1, dy1, σ1, ⟨hM1, hR1, -, -⟩, hS1⟩ := c_X10_firstBest h.1 h.s38 h.X h.V h.M.2.2.2.2.2.2.2.2.1 h.M.2.2.2.2.2.2.2.2.2 (by omega) h.M.2.2.2.2.1 h.st t1
  obtain ⟨h1, f1⟩ := h.M4 hM1 h.p16 hR1
  have mb := mvZ_bd h1.X ho
  obtain ⟨h2, f2⟩ := h1.tell (mvZ P (fbk P (gtn g) (gst g) (pl_n P + pl_b P)))
  obtain ⟨r3, dy3, σ3, ⟨hM3, hR3, -, -⟩, hS3⟩ := c_X10_more h2.1 h2.s38 h2.X h2.V h2.M.2.2.2.2.2.2.2.2.1 h2.M.2.2.2.2.2.2.2.2.2 (by omega) h2.M.2.2.2.2.1 h2.st t1
  obtain ⟨h3, f3⟩ := h2.M4 hM3 h2.p16 (fun _ => hR3)
  refine ⟨r3, dy3, σ3, ⟨h3.to, (f1.tr f2).tr f3⟩, ?_⟩
  refine aa_E_of (by decide) 0 [some (.ref 0)] rfl rfl ?_
  refine aa_go (aa_aload0 iX11_best_0) (aa_go (aa_aload0 iX11_best_1) (aa_go (aa_getR iX11_best_2 fl_X11_19 (sh_0 h.1) rfl) (aa_go (aa_aload0 iX11_best_5) (aa_go (aa_getR iX11_best_6 fl_X11_64 (sh_0 h.1) rfl) (aa_go (aa_aload0 iX11_best_9) (aa_go (aa_getR iX11_best_10 fl_X11_28 (sh_0 h.1) rfl) (aa_go (aa_cVi iX11_best_13 (c_X2_state h.1 h.G) (by decide) lc_X2_state lk_X11_140 (sh_20 h.1) rfl rfl (Nat.le_of_ble_eq_true rfl)) ?_)))))))
  refine aa_go (aa_aload0 iX11_best_16) (aa_go (aa_getR iX11_best_17 fl_X11_28 (sh_0 h.1) rfl) (aa_go (aa_cVi iX11_best_20 (c_X2_turn h.1 h.G) (by decide) lc_X2_turn lk_X11_191 (sh_20 h.1) rfl rfl (Nat.le_of_ble_eq_true rfl)) (aa_go (aa_cVi iX11_best_23 (hS1) (by decide) lc_X10_firstBest lk_X11_307 (sh_38 h.1) rfl rfl (Nat.le_of_ble_eq_true rfl)) ?_)))
  refine aa_go (aa_cVi iX11_best_26 (c_moveOfO h1.1 h1.X ho) (by decide) lc_X6_moveOf lk_X11_236 (sh_7 h1.1) rfl rfl (Nat.le_of_ble_eq_true rfl)) (aa_go (aa_i2l iX11_best_29) ?_)
  refine aa_go (aa_topl (y := lZ (mvZ P (fbk P (gtn g) (gst g) (pl_n P + pl_b P)))) (iZ_l (by omega) (by omega))) ?_
  refine aa_go (aa_cVv iX11_best_30 (c_tell h1.1 _) (by decide) lc_X11_tell lk_X11_224 (sh_0 h1.1) rfl rfl (Nat.le_of_ble_eq_true rfl)) ?_
  refine aa_go (aa_aload0 iX11_best_33) (aa_go (aa_getR iX11_best_34 fl_X11_64 (sh_0 h2.1) rfl) (aa_go (aa_aload0 iX11_best_37) (aa_go (aa_getR iX11_best_38 fl_X11_28 (sh_0 h2.1) rfl) (aa_go (aa_cVi iX11_best_41 (c_X2_state h2.1 h2.G) (by decide) lc_X2_state lk_X11_140 (sh_20 h2.1) rfl rfl (Nat.le_of_ble_eq_true rfl)) (aa_go (aa_aload0 iX11_best_44) (aa_go (aa_getR iX11_best_45 fl_X11_28 (sh_0 h2.1) rfl) (aa_go (aa_cVi iX11_best_48 (c_X2_turn h2.1 h2.G) (by decide) lc_X2_turn lk_X11_191 (sh_20 h2.1) rfl rfl (Nat.le_of_ble_eq_true rfl)) ?_)))))))
  refine aa_go (aa_cVi iX11_best_51 (hS3) (by decide) lc_X10_more lk_X11_310 (sh_38 h2.1) rfl rfl (Nat.le_of_ble_eq_true rfl)) ?_
  refine aa_iret iX11_best_54 rfl ?_
  exact ⟨rfl, rfl⟩
theorem p_gets (h : XIv P tx n g kp lk tl rw N v W S R r dy σ) (hN : N < 1000000) {a t : Nat} (ht : t ≤ 1) (ha : a < 2 ^ pl_n P) : ∃ r' dy' σ', (XI P tx n g kp lk tl rw N r' dy' σ' ∧ CF r σ r' σ') ∧ aa_SX mX11_gets 100 [.ref 0, .int (nI t), .int (nI a)] σ (some (.int (iZ (me P t (jtP P a))))) σ' := by
  have hn := h.X.n14
  have p14 := pw14 hn
  have sN := h.2.2.2.2.2.2.2.2.2.1
  obtain ⟨r3, dy3, σ3, ⟨hM3, hR3, -, -⟩, hS3⟩ := c_X10_more h.1 h.s38 h.X h.V h.M.2.2.2.2.2.2.2.2.1 h.M.2.2.2.2.2.2.2.2.2 (by omega) h.M.2.2.2.2.1 (jtP_lt a) ht
  obtain ⟨h3, f3⟩ := h.M4 hM3 h.p16 (fun _ => hR3)
  have b0 := bd_full.mpr ha
  refine ⟨r3, dy3, σ3, ⟨h3.to, f3⟩, ?_⟩
  refine aa_E_of (by decide) 0 [some (.ref 0), some (.int (nI t)), some (.int (nI a))] rfl rfl ?_
  refine aa_go (aa_iload1 iX11_gets_0) ?_
  refine aa_go (aa_if_ltN iX11_gets_1 (by omega)) ?_
  refine aa_go (aa_iload1 iX11_gets_4) (aa_go (aa_iconst iX11_gets_5 ki_1) ?_)
  refine aa_ic_gtN iX11_gets_6 (by omega) (by omega) (fun g1 => ?_) (fun g1 => ?_)
  · skip
    omega
  · skip
    refine aa_go (aa_iload2 iX11_gets_9) (aa_go (aa_aload0 iX11_gets_10) (aa_go (aa_getR iX11_gets_11 fl_X11_19 (sh_0 h.1) rfl) (aa_go (aa_cVi iX11_gets_14 (c_X6_full h.1 h.X) (by decide) lc_X6_full lk_X11_168 (sh_7 h.1) rfl rfl (Nat.le_of_ble_eq_true rfl)) (aa_go (aa_iconst iX11_gets_17 ki_m1) (aa_go (aa_ixor iX11_gets_18) (aa_go (aa_iandC iX11_gets_19) ?_))))))
    refine aa_if_eqN iX11_gets_20 (by omega) (fun g2 => ?_) (fun g2 => ?_)
    · skip
      refine aa_go (aa_aload0 iX11_gets_25) (aa_go (aa_getR iX11_gets_26 fl_X11_64 (sh_0 h.1) rfl) (aa_go (aa_aload0 iX11_gets_29) (aa_go (aa_getR iX11_gets_30 fl_X11_19 (sh_0 h.1) rfl) (aa_go (aa_iload2 iX11_gets_33) (aa_go (aa_cVi iX11_gets_34 (c_X6_justThese h.1 h.X) (by decide) lc_X6_justThese lk_X11_272 (sh_7 h.1) rfl rfl (Nat.le_of_ble_eq_true rfl)) (aa_go (aa_iload1 iX11_gets_37) (aa_go (aa_cVi iX11_gets_38 (hS3) (by decide) lc_X10_more lk_X11_310 (sh_38 h.1) rfl rfl (Nat.le_of_ble_eq_true rfl)) ?_)))))))
      refine aa_iret iX11_gets_41 rfl ?_
      exact ⟨rfl, rfl⟩
    · skip
      exact absurd b0 g2
theorem p_getsB (h : XIv P tx n g kp lk tl rw N v W S R r dy σ) {x : Int32} {a : Nat} (h32 : a < 4294967296) (hx : (x < 0 ∨ nI 1 < x) ∨ ¬ a < 2 ^ pl_n P) : aa_SX mX11_gets 100 [.ref 0, .int x, .int (nI a)] σ (some (.int (-1))) σ := by
  have bl : bd a (2 ^ pl_n P - 1) < 4294967296 := bb_bd h32
  refine aa_E_of (by decide) 0 [some (.ref 0), some (.int (x)), some (.int (nI a))] rfl rfl ?_
  refine aa_go (aa_iload1 iX11_gets_0) ?_
  refine aa_if_lt iX11_gets_1 (fun g1 => ?_) (fun g1 => ?_)
  · skip
    refine aa_go (aa_iconst iX11_gets_23 ki_m1) ?_
    refine aa_iret iX11_gets_24 rfl ?_
    exact ⟨rfl, rfl⟩
  · skip
    refine aa_go (aa_iload1 iX11_gets_4) (aa_go (aa_iconst iX11_gets_5 ki_1) ?_)
    refine aa_ic_gt iX11_gets_6 (fun g2 => ?_) (fun g2 => ?_)
    · skip
      refine aa_go (aa_iconst iX11_gets_23 ki_m1) ?_
      refine aa_iret iX11_gets_24 rfl ?_
      exact ⟨rfl, rfl⟩
    · skip
      refine aa_go (aa_iload2 iX11_gets_9) (aa_go (aa_aload0 iX11_gets_10) (aa_go (aa_getR iX11_gets_11 fl_X11_19 (sh_0 h.1) rfl) (aa_go (aa_cVi iX11_gets_14 (c_X6_full h.1 h.X) (by decide) lc_X6_full lk_X11_168 (sh_7 h.1) rfl rfl (Nat.le_of_ble_eq_true rfl)) (aa_go (aa_iconst iX11_gets_17 ki_m1) (aa_go (aa_ixor iX11_gets_18) (aa_go (aa_iandC iX11_gets_19) ?_))))))
      refine aa_if_eq iX11_gets_20 (fun g3 => ?_) (fun g3 => ?_)
      · skip
        rcases hx with (q | q) | q
        · exact absurd q g1
        · exact absurd q g2
        · exact absurd (bd_full.mp ((nI_z bl).mp g3)) q
      · skip
        refine aa_go (aa_iconst iX11_gets_23 ki_m1) ?_
        refine aa_iret iX11_gets_24 rfl ?_
        exact ⟨rfl, rfl⟩
theorem p_tempo (h : XIv P tx n g kp lk tl rw N v W S R r dy σ) {t : Nat} (ht : t ≤ 2) : ∃ σ', (XI P tx n g kp lk 1 (rw1 (pl_cn (bd (gst g &&& pl_al P t) (pl_orA (pl_ab P) (gst g &&& pl_al P t) (pl_n P))) 32)) N r dy σ' ∧ CF r σ r σ') ∧ aa_SX mX11_tempo 100 [.ref 0, .int (nI t)] σ (some (.int (nI (pl_cn (gst g &&& pl_al P t) 32)))) σ' := by
  have hn := h.X.n14
  have p14 := pw14 hn
  have al := pl_al_lt P t
  have tl2 : gst g &&& pl_al P t < 16384 := Nat.lt_of_le_of_lt Nat.and_le_right (by omega)
  have bl : bd (gst g &&& pl_al P t) (pl_orA (pl_ab P) (gst g &&& pl_al P t) (pl_n P)) < 16384 := bb_bd tl2
  have c32 := cn_le (bd (gst g &&& pl_al P t) (pl_orA (pl_ab P) (gst g &&& pl_al P t) (pl_n P))) 32
  obtain ⟨h2, f2⟩ := h.tell (pl_cn (bd (gst g &&& pl_al P t) (pl_orA (pl_ab P) (gst g &&& pl_al P t) (pl_n P))) 32)
  refine ⟨_, ⟨h2.to, f2⟩, ?_⟩
  refine aa_E_of (by decide) 1 [some (.ref 0), some (.int (nI t)), none] rfl rfl ?_
  refine aa_go (aa_iload1 iX11_tempo_0) ?_
  refine aa_go (aa_if_ltN iX11_tempo_1 (by omega)) ?_
  refine aa_go (aa_iload1 iX11_tempo_4) (aa_go (aa_iconst iX11_tempo_5 ki_2) ?_)
  refine aa_ic_leN iX11_tempo_6 (by omega) (by omega) (fun g1 => ?_) (fun g1 => ?_)
  · skip
    refine aa_go (aa_aload0 iX11_tempo_11) (aa_go (aa_getR iX11_tempo_12 fl_X11_19 (sh_0 h.1) rfl) (aa_go (aa_aload0 iX11_tempo_15) (aa_go (aa_getR iX11_tempo_16 fl_X11_28 (sh_0 h.1) rfl) (aa_go (aa_cVi iX11_tempo_19 (c_X2_state h.1 h.G) (by decide) lc_X2_state lk_X11_140 (sh_20 h.1) rfl rfl (Nat.le_of_ble_eq_true rfl)) (aa_go (aa_iload1 iX11_tempo_22) (aa_go (aa_cVi iX11_tempo_23 (c_X6_takes h.1 h.X (by omega)) (by decide) lc_X6_takes lk_X11_260 (sh_7 h.1) rfl rfl (Nat.le_of_ble_eq_true rfl)) ?_))))))
    refine aa_go (aa_top (y := nI (gst g &&& pl_al P t)) (rfl)) ?_
    refine aa_go (aa_istore2 iX11_tempo_26 rfl (by decide)) (aa_go (aa_aload0 iX11_tempo_27) (aa_go (aa_aload0 iX11_tempo_28) (aa_go (aa_getR iX11_tempo_29 fl_X11_19 (sh_0 h.1) rfl) (aa_go (aa_iload2 iX11_tempo_32) (aa_go (aa_cVi iX11_tempo_33 (c_X6_lowestOf h.1 h.X (by omega)) (by decide) lc_X6_lowestOf lk_X11_263 (sh_7 h.1) rfl rfl (Nat.le_of_ble_eq_true rfl)) (aa_go (aa_cSi iX11_tempo_36 (c_bitCount (by omega)) (by decide) lc_J6_bitCount_0f7a4 lk_X11_252 rfl (Nat.le_of_ble_eq_true rfl)) (aa_go (aa_i2lN iX11_tempo_39 (by omega)) ?_)))))))
    refine aa_go (aa_cVv iX11_tempo_40 (c_tell h.1 _) (by decide) lc_X11_tell lk_X11_224 (sh_0 h.1) rfl rfl (Nat.le_of_ble_eq_true rfl)) (aa_go (aa_iload2 iX11_tempo_43) (aa_go (aa_cSi iX11_tempo_44 (c_bitCount (by omega)) (by decide) lc_J6_bitCount_0f7a4 lk_X11_252 rfl (Nat.le_of_ble_eq_true rfl)) ?_))
    refine aa_iret iX11_tempo_47 rfl ?_
    exact ⟨rfl, rfl⟩
  · skip
    omega
theorem p_tempoB (h : XIv P tx n g kp lk tl rw N v W S R r dy σ) {x : Int32} (hx : x < 0 ∨ nI 2 < x) : aa_SX mX11_tempo 100 [.ref 0, .int x] σ (some (.int (-1))) σ := by
  refine aa_E_of (by decide) 1 [some (.ref 0), some (.int (x)), none] rfl rfl ?_
  refine aa_go (aa_iload1 iX11_tempo_0) ?_
  refine aa_if_lt iX11_tempo_1 (fun g1 => ?_) (fun g1 => ?_)
  · skip
    refine aa_go (aa_iconst iX11_tempo_9 ki_m1) ?_
    refine aa_iret iX11_tempo_10 rfl ?_
    exact ⟨rfl, rfl⟩
  · skip
    refine aa_go (aa_iload1 iX11_tempo_4) (aa_go (aa_iconst iX11_tempo_5 ki_2) ?_)
    refine aa_ic_le iX11_tempo_6 (fun g2 => ?_) (fun g2 => ?_)
    · skip
      rcases hx with q | q
      · exact absurd q g1
      · exact absurd q (Int32.not_lt.mpr g2)
    · skip
      refine aa_go (aa_iconst iX11_tempo_9 ki_m1) ?_
      refine aa_iret iX11_tempo_10 rfl ?_
      exact ⟨rfl, rfl⟩
end
