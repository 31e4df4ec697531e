theorem lN_bv (n : Nat) : (lN n).toBitVec = BitVec.ofNat 64 n := rfl
theorem lN_ext {x y : Int64} (h : ∀ i, i < 64 → x.toBitVec.getLsbD i = y.toBitVec.getLsbD i) : x = y := by
  apply Int64.toBitVec_inj.mp
  exact BitVec.eq_of_getLsbD_eq h
theorem lN_get (n i : Nat) : (lN n).toBitVec.getLsbD i = (decide (i < 64) && n.testBit i) := by
  rw [lN_bv, BitVec.getLsbD_ofNat]
theorem lN_and (a b : Nat) : lN a &&& lN b = lN (a &&& b) := by
  apply lN_ext
  intro i hi
  simp only [Int64.toBitVec_and, BitVec.getLsbD_and, lN_get, Nat.testBit_and]
  cases decide (i < 64) <;> simp
theorem lN_or (a b : Nat) : lN a ||| lN b = lN (a ||| b) := by
  apply lN_ext
  intro i hi
  simp only [Int64.toBitVec_or, BitVec.getLsbD_or, lN_get, Nat.testBit_or]
  cases decide (i < 64) <;> simp
theorem lN_sh : ∀ k, k < 64 → ((nI k).toInt64 &&& 63) = lN k := by decide
theorem lN_smod : ∀ k, k < 64 → (BitVec.ofNat 64 k).smod 64 = BitVec.ofNat 64 k := by decide
theorem lN_shl {a k : Nat} (hk : k < 64) : lN a <<< ((nI k).toInt64 &&& 63) = lN (a <<< k) := by
  rw [lN_sh k hk]
  apply lN_ext
  intro i hi
  rw [Int64.toBitVec_shiftLeft, lN_bv, lN_bv, lN_smod k hk, lN_get]
  rw [BitVec.shiftLeft_eq', BitVec.getLsbD_shiftLeft, BitVec.getLsbD_ofNat, Nat.testBit_shiftLeft]
  have e : (BitVec.ofNat 64 k).toNat = k := by rw [BitVec.toNat_ofNat]; omega
  rw [e]
  by_cases h : k ≤ i
  · have h2 : i - k < 64 := by omega
    simp [hi, h, h2, Nat.not_lt.mpr h]
  · simp [hi, h, Nat.not_le.mp h]
theorem lN_shr {a k : Nat} (ha : a < 9223372036854775808) (hk : k < 64) : lN a >>> ((nI k).toInt64 &&& 63) = lN (a >>> k) := by
  rw [lN_sh k hk]
  apply Int64.toBitVec_inj.mp
  rw [Int64.toBitVec_shiftRight, lN_bv, lN_bv, lN_smod k hk, lN_bv]
  apply BitVec.eq_of_toNat_eq
  have e : (BitVec.ofNat 64 k).toNat = k := by rw [BitVec.toNat_ofNat]; omega
  have hm : (BitVec.ofNat 64 a).msb = false := by
    rw [BitVec.msb_eq_false_iff_two_mul_lt, BitVec.toNat_ofNat]; omega
  rw [BitVec.sshiftRight_eq', e, BitVec.toNat_sshiftRight_of_msb_false hm, BitVec.toNat_ofNat, BitVec.toNat_ofNat, Nat.mod_eq_of_lt (by omega)]
  rw [Nat.mod_eq_of_lt]
  exact Nat.lt_of_le_of_lt (Nat.shiftRight_le a k) (by omega)
theorem lN_ushr {a k : Nat} (ha : a < 18446744073709551616) (hk : k < 64) : ((lN a).toUInt64 >>> ((nI k).toInt64.toUInt64 &&& Int64.toUInt64 63)).toInt64 = lN (a >>> k) := by
  have hs : ∀ k, k < 64 → (((nI k).toInt64.toUInt64 &&& Int64.toUInt64 63).toBitVec % 64).toNat = k := by decide
  apply Int64.toBitVec_inj.mp
  show (((lN a).toUInt64 >>> ((nI k).toInt64.toUInt64 &&& Int64.toUInt64 63)).toBitVec) = (lN (a >>> k)).toBitVec
  rw [UInt64.toBitVec_shiftRight, lN_bv]
  apply BitVec.eq_of_toNat_eq
  rw [BitVec.ushiftRight_eq', BitVec.toNat_ushiftRight, hs k hk, BitVec.toNat_ofNat]
  show (BitVec.ofNat 64 a).toNat >>> k = _
  rw [BitVec.toNat_ofNat, Nat.mod_eq_of_lt (by omega), Nat.mod_eq_of_lt]
  exact Nat.lt_of_le_of_lt (Nat.shiftRight_le a k) (by omega)
theorem lN_l2i (a : Nat) : (lN a).toInt32 = nI a := lN_i a
theorem nI_i2l {a : Nat} (h : a < 2147483648) : (nI a).toInt64 = lN a := nI_l (by omega)
theorem lN_subN {a b : Nat} (h : b ≤ a) : lN a - lN b = lN (a - b) := lN_sub h
theorem lN_divN {a b : Nat} (ha : a < 9223372036854775808) (h0 : 0 < b) (hb : b < 9223372036854775808) : lN a / lN b = lN (a / b) := pk_lDiv ha h0 hb
theorem lN_remN {a b : Nat} (ha : a < 9223372036854775808) (h0 : 0 < b) (hb : b < 9223372036854775808) : lN a - lN a / lN b * lN b = lN (a % b) := pk_lRem ha h0 hb
theorem lN_lt' {a b : Nat} (ha : a < 9223372036854775808) (hb : b < 9223372036854775808) : lN a < lN b ↔ a < b := pk_lLT ha hb
theorem lN_le' {a b : Nat} (ha : a < 9223372036854775808) (hb : b < 9223372036854775808) : lN a ≤ lN b ↔ a ≤ b := pk_lLE ha hb
theorem lN_eq' {a b : Nat} (ha : a < 9223372036854775808) (hb : b < 9223372036854775808) : lN a = lN b ↔ a = b := pk_lEQ ha hb
theorem lN_nz {b : Nat} (h0 : 0 < b) (hb : b < 9223372036854775808) : ¬ lN b = 0 := fun q => by
  have : lN b = lN 0 := q
  have := (lN_eq' hb (by omega)).mp this
  omega
section
variable {M : aa_M} {d pc pn : Nat} {ls tl : aa_L} {st : List Value} {σ : aa_St} {Q : Option Value → aa_St → Prop}
theorem aa_lneg {x : Int64} (h : aa_At M pc (.lneg) 1 pn) : aa_Go M d pc ls (.long x :: st) σ pn ls (.long (-x) :: st) σ := ⟨Nat.le_refl _, Nat.le_refl _, fun p l e R s m args below meth c D cA b z c0 s0 Q ok _ _ _ _ K H locs lsA hP hz hS hl => by
  have K1 := K H locs lsA hP hz hS hl
  rw [← h.2] at K1
  exact lv_lneg ok.1 ok.2.1 h.1 K1⟩
theorem aa_laddN {x y : Nat} (h : aa_At M pc (.ladd) 1 pn) : aa_Go M d pc ls (.long (lN y) :: .long (lN x) :: st) σ pn ls (.long (lN (x + y)) :: st) σ := (lN_add x y) ▸ aa_ladd h
theorem aa_lmulN {x y : Nat} (h : aa_At M pc (.lmul) 1 pn) : aa_Go M d pc ls (.long (lN y) :: .long (lN x) :: st) σ pn ls (.long (lN (x * y)) :: st) σ := (lN_mul x y) ▸ aa_lmul h
theorem aa_landN {x y : Nat} (h : aa_At M pc (.land) 1 pn) : aa_Go M d pc ls (.long (lN y) :: .long (lN x) :: st) σ pn ls (.long (lN (x &&& y)) :: st) σ := (lN_and x y) ▸ aa_land h
theorem aa_lorN {x y : Nat} (h : aa_At M pc (.lor) 1 pn) : aa_Go M d pc ls (.long (lN y) :: .long (lN x) :: st) σ pn ls (.long (lN (x ||| y)) :: st) σ := (lN_or x y) ▸ aa_lor h
theorem aa_lsubN {x y : Nat} (h : aa_At M pc (.lsub) 1 pn) (h1 : y ≤ x) : aa_Go M d pc ls (.long (lN y) :: .long (lN x) :: st) σ pn ls (.long (lN (x - y)) :: st) σ := (lN_subN h1) ▸ aa_lsub h
theorem aa_ldivN {x y : Nat} (h : aa_At M pc (.ldiv) 1 pn) (h1 : x < 9223372036854775808) (h2 : 0 < y) (h3 : y < 9223372036854775808) : aa_Go M d pc ls (.long (lN y) :: .long (lN x) :: st) σ pn ls (.long (lN (x / y)) :: st) σ := (lN_divN h1 h2 h3) ▸ aa_ldiv h (lN_nz h2 h3)
theorem aa_lremN {x y : Nat} (h : aa_At M pc (.lrem) 1 pn) (h1 : x < 9223372036854775808) (h2 : 0 < y) (h3 : y < 9223372036854775808) : aa_Go M d pc ls (.long (lN y) :: .long (lN x) :: st) σ pn ls (.long (lN (x % y)) :: st) σ := (lN_remN h1 h2 h3) ▸ aa_lrem h (lN_nz h2 h3)
theorem aa_lshlN {x y : Nat} (h : aa_At M pc (.lshl) 1 pn) (h1 : y < 64) : aa_Go M d pc ls (.int (nI y) :: .long (lN x) :: st) σ pn ls (.long (lN (x <<< y)) :: st) σ := (lN_shl h1) ▸ aa_lshl h
theorem aa_lshrN {x y : Nat} (h : aa_At M pc (.lshr) 1 pn) (h1 : x < 9223372036854775808) (h2 : y < 64) : aa_Go M d pc ls (.int (nI y) :: .long (lN x) :: st) σ pn ls (.long (lN (x >>> y)) :: st) σ := (lN_shr h1 h2) ▸ aa_lshr h
theorem aa_lushrN {x y : Nat} (h : aa_At M pc (.lushr) 1 pn) (h1 : x < 18446744073709551616) (h2 : y < 64) : aa_Go M d pc ls (.int (nI y) :: .long (lN x) :: st) σ pn ls (.long (lN (x >>> y)) :: st) σ := (lN_ushr h1 h2) ▸ aa_lushr h
theorem aa_l2iN {x : Nat} (h : aa_At M pc (.l2i) 1 pn) : aa_Go M d pc ls (.long (lN x) :: st) σ pn ls (.int (nI x) :: st) σ := (lN_l2i x) ▸ aa_l2i h
theorem aa_i2lN {x : Nat} (h : aa_At M pc (.i2l) 1 pn) (hx : x < 2147483648) : aa_Go M d pc ls (.int (nI x) :: st) σ pn ls (.long (lN x) :: st) σ := (nI_i2l hx) ▸ aa_i2l h
theorem lg_lt0 (x y : Int64) : lg_cmp x y < 0 ↔ x < y := by
  unfold lg_cmp
  by_cases h1 : x > y
  · rw [if_pos h1]
    exact ⟨fun h => absurd h (by decide), fun h => by rw [gt_iff_lt, Int64.lt_iff_toInt_lt] at h1; rw [Int64.lt_iff_toInt_lt] at h; omega⟩
  · rw [if_neg h1]
    by_cases h2 : x = y
    · rw [if_pos h2]
      exact ⟨fun h => absurd h (by decide), fun h => by rw [h2, Int64.lt_iff_toInt_lt] at h; omega⟩
    · rw [if_neg h2]
      refine ⟨fun _ => ?_, fun _ => by decide⟩
      rw [gt_iff_lt, Int64.lt_iff_toInt_lt] at h1
      rw [Int64.lt_iff_toInt_lt]
      have h3 : x.toInt ≠ y.toInt := fun e => h2 (Int64.toInt_inj.mp e)
      omega
theorem lg_eq0 (x y : Int64) : lg_cmp x y = 0 ↔ x = y := by
  unfold lg_cmp
  by_cases h1 : x > y
  · rw [if_pos h1]
    refine ⟨fun h => absurd h (by decide), fun h => ?_⟩
    rw [h, gt_iff_lt, Int64.lt_iff_toInt_lt] at h1; omega
  · rw [if_neg h1]
    by_cases h2 : x = y
    · rw [if_pos h2]; exact ⟨fun _ => h2, fun _ => rfl⟩
    · rw [if_neg h2]; exact ⟨fun h => absurd h (by decide), fun h => absurd h h2⟩
theorem lg_gt0 (x y : Int64) : 0 < lg_cmp x y ↔ y < x := by
  unfold lg_cmp
  by_cases h1 : x > y
  · rw [if_pos h1]; exact ⟨fun _ => h1, fun _ => by decide⟩
  · rw [if_neg h1]
    refine ⟨fun h => ?_, fun h => absurd h h1⟩
    split at h
    · exact absurd h (by decide)
    · exact absurd h (by decide)
theorem lg_ge0 (x y : Int64) : 0 ≤ lg_cmp x y ↔ y ≤ x := lg_cmp_ge x y
theorem lg_le0 (x y : Int64) : lg_cmp x y ≤ 0 ↔ x ≤ y := by
  rw [← Int32.not_lt, lg_gt0, Int64.not_lt]
end
