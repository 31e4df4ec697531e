/-! bits of numbers -/
def bd (a b : Nat) : Nat := a ^^^ (a &&& b)
theorem bd_bit (a b k : Nat) : (bd a b).testBit k = (a.testBit k && !b.testBit k) := by
  simp only [bd, Nat.testBit_xor, Nat.testBit_and]
  cases a.testBit k <;> cases b.testBit k <;> rfl
theorem nI_bv (n : Nat) : (nI n).toBitVec = BitVec.ofNat 32 n := rfl
theorem nI_ext {x y : Int32} (h : ∀ i, i < 32 → x.toBitVec.getLsbD i = y.toBitVec.getLsbD i) : x = y := by
  apply Int32.toBitVec_inj.mp
  exact BitVec.eq_of_getLsbD_eq h
theorem nI_get (n i : Nat) : (nI n).toBitVec.getLsbD i = (decide (i < 32) && n.testBit i) := by
  rw [nI_bv, BitVec.getLsbD_ofNat]
theorem nI_and (a b : Nat) : nI a &&& nI b = nI (a &&& b) := by
  apply nI_ext
  intro i hi
  simp only [Int32.toBitVec_and, BitVec.getLsbD_and, nI_get, Nat.testBit_and]
  cases decide (i < 32) <;> simp
theorem nI_or (a b : Nat) : nI a ||| nI b = nI (a ||| b) := by
  apply nI_ext
  intro i hi
  simp only [Int32.toBitVec_or, BitVec.getLsbD_or, nI_get, Nat.testBit_or]
  cases decide (i < 32) <;> simp
theorem nI_xor (a b : Nat) : nI a ^^^ nI b = nI (a ^^^ b) := by
  apply nI_ext
  intro i hi
  simp only [Int32.toBitVec_xor, BitVec.getLsbD_xor, nI_get, Nat.testBit_xor]
  cases decide (i < 32) <;> simp
theorem nI_m1 {i : Nat} (h : i < 32) : (-1 : Int32).toBitVec.getLsbD i = true := by
  have : (-1 : Int32).toBitVec = BitVec.allOnes 32 := by decide
  rw [this, BitVec.getLsbD_allOnes]
  simp [h]
theorem nI_andc (a b : Nat) : nI a &&& (nI b ^^^ -1) = nI (bd a b) := by
  apply nI_ext
  intro i hi
  simp only [Int32.toBitVec_and, Int32.toBitVec_xor, BitVec.getLsbD_and, BitVec.getLsbD_xor, nI_get, nI_m1 hi, bd_bit]
  simp [hi]
theorem nI_candn (a b : Nat) : (nI b ^^^ -1) &&& nI a = nI (bd a b) := by
  rw [Int32.and_comm]
  exact nI_andc a b
theorem nI_smod {k : Nat} (hk : k < 32) : (nI k &&& 31).toBitVec.smod 32 = BitVec.ofNat 32 k := by
  revert k
  decide
theorem nI_shl {a k : Nat} (hk : k < 32) : nI a <<< (nI k &&& 31) = nI (a <<< k) := by
  apply nI_ext
  intro i hi
  rw [Int32.toBitVec_shiftLeft, nI_smod hk, nI_get]
  rw [BitVec.shiftLeft_eq', BitVec.getLsbD_shiftLeft, nI_get, Nat.testBit_shiftLeft]
  have e : (BitVec.ofNat 32 k).toNat = k := by rw [BitVec.toNat_ofNat]; omega
  rw [e]
  by_cases h : k ≤ i
  · have h2 : i - k < 32 := by omega
    simp [hi, h, h2, Nat.not_lt.mpr h]
  · simp [hi, h, Nat.not_le.mp h]
theorem nI_shr {a k : Nat} (ha : a < 2147483648) (hk : k < 32) : nI a >>> (nI k &&& 31) = nI (a >>> k) := by
  have h := pk_shrN (n := a) (by omega) (nI k &&& 31) k (by rw [nI_smod hk, BitVec.toNat_ofNat]; omega)
  rw [h, Nat.shiftRight_eq_div_pow]
theorem nI_ushr {a k : Nat} (ha : a < 4294967296) (hk : k < 32) : ((nI a).toUInt32 >>> ((nI k).toUInt32 &&& Int32.toUInt32 31)).toInt32 = nI (a >>> k) := by
  have hs : ∀ k, k < 32 → (((nI k).toUInt32 &&& Int32.toUInt32 31).toBitVec % 32).toNat = k := by decide
  have h := pk_ushrN (n := a) (by omega) (nI k) k (hs k hk)
  rw [h, Nat.shiftRight_eq_div_pow]
theorem nI_bit1 {a k : Nat} (ha : a < 2147483648) (hk : k < 32) : (nI a >>> (nI k &&& 31)) &&& nI 1 = nI (a.testBit k).toNat := by
  rw [nI_shr ha hk, nI_and]
  congr 1
  rw [Nat.testBit_eq_decide_div_mod_eq, Nat.shiftRight_eq_div_pow, Nat.and_one_is_mod]
  have := Nat.mod_two_eq_zero_or_one (a / 2 ^ k)
  rcases this with h | h <;> simp [h]
theorem nI_sub {a b : Nat} (h : b ≤ a) : nI a - nI b = nI (a - b) := pk_sub h
theorem nI_mul (a b : Nat) : nI a * nI b = nI (a * b) := pk_mul a b
theorem nI_rem {a d : Nat} (ha : a < 2147483648) (h0 : 0 < d) (hd : d < 2147483648) : nI a - nI a / nI d * nI d = nI (a % d) := pk_rem ha h0 hd
theorem nI_div {a d : Nat} (ha : a < 2147483648) (h0 : 0 < d) (hd : d < 2147483648) : nI a / nI d = nI (a / d) := pk_div ha h0 hd
theorem nI_lit0 : (0 : Int32) = nI 0 := by decide
theorem nI_lit1 : (1 : Int32) = nI 1 := by decide
theorem nI_z {a : Nat} (ha : a < 4294967296) : nI a = 0 ↔ a = 0 := by
  constructor
  · intro h
    have h1 : (nI a).toBitVec.toNat = (0 : Int32).toBitVec.toNat := by rw [h]
    rw [nI_bv, BitVec.toNat_ofNat] at h1
    have h2 : (0 : Int32).toBitVec.toNat = 0 := by decide
    omega
  · intro h; subst h; decide
theorem nI_inj {a b : Nat} (ha : a < 4294967296) (hb : b < 4294967296) (h : nI a = nI b) : a = b := by
  have h1 : (nI a).toBitVec.toNat = (nI b).toBitVec.toNat := by rw [h]
  rw [nI_bv, nI_bv, BitVec.toNat_ofNat, BitVec.toNat_ofNat] at h1
  omega
theorem nI_eqq {a b : Nat} (ha : a < 4294967296) (hb : b < 4294967296) : nI a = nI b ↔ a = b := ⟨nI_inj ha hb, fun h => by rw [h]⟩
theorem nI_m1ne {a : Nat} (ha : a < 2147483648) : nI a ≠ -1 := by
  intro h
  have h1 : (nI a).toInt = (-1 : Int32).toInt := by rw [h]
  rw [nI_toInt (by omega)] at h1
  have h2 : (-1 : Int32).toInt = -1 := by decide
  omega
theorem nI_nneg {a : Nat} (ha : a < 2147483648) : ¬ nI a < 0 := nI_pos (by omega)
theorem nI_ge0 {a : Nat} (ha : a < 2147483648) : 0 ≤ nI a := nI_pos' (by omega)
theorem nI_nle0 {a : Nat} (ha : a < 2147483648) : nI a ≤ 0 ↔ a = 0 := by
  rw [Int32.le_iff_toInt_le, nI_toInt (by omega), Int32.toInt_zero]; omega
theorem nI_lt0 {a : Nat} (ha : a < 2147483648) : 0 < nI a ↔ 0 < a := by
  rw [Int32.lt_iff_toInt_lt, nI_toInt (by omega), Int32.toInt_zero]; omega
theorem nI_lei {a b : Nat} (ha : a < 2147483648) (hb : b < 2147483648) : nI a ≤ nI b ↔ a ≤ b := nI_leI (by omega) (by omega)
theorem nI_lti {a b : Nat} (ha : a < 2147483648) (hb : b < 2147483648) : nI a < nI b ↔ a < b := nI_ltI (by omega) (by omega)
theorem nI_narB (b : Bool) : narrow .boolean (.int (nI b.toNat)) = .int (nI b.toNat) := by cases b <;> decide +kernel
theorem nI_bz (b : Bool) : nI b.toNat = 0 ↔ b = false := by cases b <;> decide
/-- numbers below a power of 2 -/
theorem bb_and_l {a b n : Nat} (h : a < n) : a &&& b < n := Nat.lt_of_le_of_lt Nat.and_le_left h
theorem bb_and_r {a b n : Nat} (h : b < n) : a &&& b < n := Nat.lt_of_le_of_lt Nat.and_le_right h
theorem bb_or {a b k : Nat} (ha : a < 2 ^ k) (hb : b < 2 ^ k) : a ||| b < 2 ^ k := Nat.or_lt_two_pow ha hb
theorem bb_xor {a b k : Nat} (ha : a < 2 ^ k) (hb : b < 2 ^ k) : a ^^^ b < 2 ^ k := Nat.xor_lt_two_pow ha hb
theorem bb_bd {a b n : Nat} (h : a < n) : bd a b < n := by
  have e : bd a b = a &&& bd a b := by
    apply Nat.eq_of_testBit_eq
    intro i
    rw [Nat.testBit_and, bd_bit]
    cases a.testBit i <;> rfl
  rw [e]
  exact Nat.lt_of_le_of_lt Nat.and_le_left h
theorem bb_ext {a b : Nat} (h : ∀ i, a.testBit i = b.testBit i) : a = b := Nat.eq_of_testBit_eq h
theorem bb_hi {a k i : Nat} (h : a < 2 ^ k) (hi : k ≤ i) : a.testBit i = false := Nat.testBit_lt_two_pow (Nat.lt_of_lt_of_le h (Nat.pow_le_pow_right (by omega) hi))
theorem bb_lt {a k : Nat} (h : ∀ i, k ≤ i → a.testBit i = false) : a < 2 ^ k := Nat.lt_pow_two_of_testBit a (fun i hi => h i hi)
