/-! the JDK's own methods -/
def pcL : Nat → Nat → Nat
  | _, 0 => 0
  | a, w + 1 => a % 2 + pcL (a / 2) w
theorem pl_cn_shift (a : Nat) : ∀ w, pl_cn a (w + 1) = a % 2 + pl_cn (a / 2) w
  | 0 => by
    simp only [pl_cn, Nat.zero_add, Nat.testBit_zero]
    have := Nat.mod_two_eq_zero_or_one a
    rcases this with h | h <;> simp [h]
  | w + 1 => by
    rw [pl_cn, pl_cn_shift a w]
    show _ = a % 2 + (pl_cn (a / 2) w + ((a / 2).testBit w).toNat)
    rw [Nat.testBit_div_two]
    omega
theorem pl_cn_pc : ∀ w a, pl_cn a w = pcL a w
  | 0, _ => rfl
  | w + 1, a => by rw [pl_cn_shift, pcL, pl_cn_pc w]
theorem pc_and (n x k m : Nat) (hk : k < 2 ^ n) : x &&& (k + 2 ^ n * m) = (x % 2 ^ n &&& k) + 2 ^ n * (x / 2 ^ n &&& m) := by
  have h1 := Nat.mod_add_div (x &&& (k + 2 ^ n * m)) (2 ^ n)
  have h2 : (x &&& (k + 2 ^ n * m)) / 2 ^ n = x / 2 ^ n &&& m := by
    rw [← Nat.shiftRight_eq_div_pow, Nat.shiftRight_and_distrib, Nat.shiftRight_eq_div_pow, Nat.shiftRight_eq_div_pow]
    congr 1
    rw [Nat.add_mul_div_left _ _ (Nat.two_pow_pos n), Nat.div_eq_of_lt hk, Nat.zero_add]
  have h3 : (x &&& (k + 2 ^ n * m)) % 2 ^ n = x % 2 ^ n &&& k := by
    rw [Nat.and_mod_two_pow]
    congr 1
    rw [Nat.add_mul_mod_self_left, Nat.mod_eq_of_lt hk]
  rw [h2, h3] at h1
  exact h1.symm
def m55 : Nat → Nat
  | 0 => 0
  | w + 1 => 1 + 4 * m55 w
def m33 : Nat → Nat
  | 0 => 0
  | w + 1 => 3 + 16 * m33 w
def m0f : Nat → Nat
  | 0 => 0
  | w + 1 => 15 + 256 * m0f w
def pcE2 : Nat → Nat → Nat
  | _, 0 => 0
  | a, w + 1 => (a % 2 + a / 2 % 2) + 4 * pcE2 (a / 4) w
def pcE4 : Nat → Nat → Nat
  | _, 0 => 0
  | a, w + 1 => (a % 4 + a / 4 % 4) + 16 * pcE4 (a / 16) w
def pcE8 : Nat → Nat → Nat
  | _, 0 => 0
  | a, w + 1 => (a % 16 + a / 16 % 16) + 256 * pcE8 (a / 256) w
theorem pc_s1 : ∀ w a, a < 4 ^ w → (a / 2 &&& m55 w) ≤ a ∧ a - (a / 2 &&& m55 w) = pcE2 a w
  | 0, a, h => by
    have : a = 0 := by simpa using h
    subst this; simp [m55, pcE2]
  | w + 1, a, h => by
    have ih := pc_s1 w (a / 4) (by rw [Nat.pow_succ] at h; omega)
    have e := pc_and 2 (a / 2) 1 (m55 w) (by decide)
    simp only [show (2 : Nat) ^ 2 = 4 from rfl] at e
    rw [m55, pcE2, e, Nat.and_one_is_mod, show a / 2 / 4 = a / 4 / 2 by omega]
    omega
theorem pc_s2 : ∀ w b, (b &&& m33 w) + (b / 4 &&& m33 w) = pcE4 b w
  | 0, b => by simp [m33, pcE4]
  | w + 1, b => by
    have ih := pc_s2 w (b / 16)
    have e1 := pc_and 4 b 3 (m33 w) (by decide)
    have e2 := pc_and 4 (b / 4) 3 (m33 w) (by decide)
    simp only [show (2 : Nat) ^ 4 = 16 from rfl] at e1 e2
    have m1 := Nat.and_two_pow_sub_one_eq_mod (b % 16) 2
    have m2 := Nat.and_two_pow_sub_one_eq_mod (b / 4 % 16) 2
    simp only [show (2 : Nat) ^ 2 - 1 = 3 from rfl, show (2 : Nat) ^ 2 = 4 from rfl] at m1 m2
    rw [m33, pcE4, e1, e2, m1, m2, show b / 4 / 16 = b / 16 / 4 by omega]
    omega
theorem pcE4_0 (b w : Nat) : pcE4 b (w + 1) % 16 = b % 4 + b / 4 % 4 ∧ pcE4 b (w + 1) / 16 = pcE4 (b / 16) w := by
  rw [pcE4]; omega
theorem pcE4_d (b w : Nat) : pcE4 b w % 16 ≤ 6 := by
  cases w with
  | zero => simp [pcE4]
  | succ w => rw [(pcE4_0 b w).1]; omega
theorem pc_a1 {c : Nat} (h0 : c % 16 ≤ 6) (h1 : c / 16 % 16 ≤ 6) : (c + c / 16) % 256 % 16 = c % 16 + c / 16 % 16 := by omega
theorem pc_a2 {c : Nat} (h0 : c % 16 ≤ 6) (h1 : c / 16 % 16 ≤ 6) (x : Nat) : (c % 16 + c / 16 % 16 + 256 * x) % 256 ≤ 12 := by omega
theorem pc_a3 {c x y : Nat} (h0 : c % 16 ≤ 6) (h1 : c / 16 % 16 ≤ 6) (h : x < y) : c % 16 + c / 16 % 16 + 256 * x < y * 256 := by omega
theorem pc_s3 : ∀ w b, (pcE4 b (2 * w) + pcE4 b (2 * w) / 16) &&& m0f w = pcE8 (pcE4 b (2 * w)) w
  | 0, b => by simp [m0f, pcE8]
  | w + 1, b => by
    have ih := pc_s3 w (b / 16 / 16)
    have q1 : pcE4 b (2 * w + 2) % 16 = b % 4 + b / 4 % 4 ∧ pcE4 b (2 * w + 2) / 16 = pcE4 (b / 16) (2 * w + 1) := pcE4_0 b (2 * w + 1)
    have q2 := pcE4_0 (b / 16) (2 * w)
    have d0 := pcE4_d b (2 * w + 2)
    have d1 := pcE4_d (b / 16) (2 * w + 1)
    have d2 := pcE4_d (b / 16 / 16) (2 * w)
    rw [show 2 * (w + 1) = 2 * w + 2 by omega]
    generalize pcE4 b (2 * w + 2) = c at *
    generalize pcE4 (b / 16) (2 * w + 1) = c1 at *
    generalize pcE4 (b / 16 / 16) (2 * w) = c2 at *
    have e1 := pc_and 8 (c + c / 16) 15 (m0f w) (by decide)
    simp only [show (2 : Nat) ^ 8 = 256 from rfl] at e1
    have m1 := Nat.and_two_pow_sub_one_eq_mod ((c + c / 16) % 256) 4
    simp only [show (2 : Nat) ^ 4 - 1 = 15 from rfl, show (2 : Nat) ^ 4 = 16 from rfl] at m1
    have e2 : (c + c / 16) / 256 = c2 + c2 / 16 := by omega
    have e3 : c / 256 = c2 := by omega
    have d1' : c / 16 % 16 ≤ 6 := by rw [q1.2]; exact d1
    rw [m0f, pcE8, e1, m1, e2, ih, e3, pc_a1 d0 d1']
def pcS2 : Nat → Nat → Nat
  | _, 0 => 0
  | b, w + 1 => b % 4 + pcS2 (b / 4) w
def pcS4 : Nat → Nat → Nat
  | _, 0 => 0
  | b, w + 1 => b % 16 + pcS4 (b / 16) w
def pcS8 : Nat → Nat → Nat
  | _, 0 => 0
  | b, w + 1 => b % 256 + pcS8 (b / 256) w
theorem pc_t1 : ∀ w a, pcL a (2 * w) = pcS2 (pcE2 a w) w
  | 0, _ => rfl
  | w + 1, a => by
    rw [show 2 * (w + 1) = 2 * w + 1 + 1 by omega, pcL, pcL, pcS2, show pcE2 a (w + 1) % 4 = a % 2 + a / 2 % 2 by rw [pcE2]; omega, show pcE2 a (w + 1) / 4 = pcE2 (a / 4) w by rw [pcE2]; omega, ← pc_t1 w, show a / 2 / 2 = a / 4 by omega]
    omega
theorem pc_t2 : ∀ w a, pcS2 a (2 * w) = pcS4 (pcE4 a w) w
  | 0, _ => rfl
  | w + 1, a => by
    rw [show 2 * (w + 1) = 2 * w + 1 + 1 by omega, pcS2, pcS2, pcS4, (pcE4_0 a w).1, (pcE4_0 a w).2, ← pc_t2 w, show a / 4 / 4 = a / 16 by omega]
    omega
theorem pc_t3 : ∀ w a, pcS4 a (2 * w) = pcS8 (pcE8 a w) w
  | 0, _ => rfl
  | w + 1, a => by
    rw [show 2 * (w + 1) = 2 * w + 1 + 1 by omega, pcS4, pcS4, pcS8, show pcE8 a (w + 1) % 256 = a % 16 + a / 16 % 16 by rw [pcE8]; omega, show pcE8 a (w + 1) / 256 = pcE8 (a / 256) w by rw [pcE8]; omega, ← pc_t3 w, show a / 16 / 16 = a / 256 by omega]
    omega
theorem pcE2_lt : ∀ w a, pcE2 a w < 4 ^ w
  | 0, _ => by simp [pcE2]
  | w + 1, a => by have := pcE2_lt w (a / 4); rw [pcE2, Nat.pow_succ]; omega
theorem pcE4_lt : ∀ w a, pcE4 a w < 16 ^ w
  | 0, _ => by simp [pcE4]
  | w + 1, a => by have := pcE4_lt w (a / 16); rw [pcE4, Nat.pow_succ]; omega
/-- bytes of at most 12 -/
def pcB : Nat → Nat → Prop
  | _, 0 => True
  | e, w + 1 => e % 256 ≤ 12 ∧ pcB (e / 256) w
theorem pcE8_B : ∀ w b, pcB (pcE8 (pcE4 b (2 * w)) w) w
  | 0, _ => trivial
  | w + 1, b => by
    have q1 : pcE4 b (2 * w + 2) % 16 = b % 4 + b / 4 % 4 ∧ pcE4 b (2 * w + 2) / 16 = pcE4 (b / 16) (2 * w + 1) := pcE4_0 b (2 * w + 1)
    have q2 := pcE4_0 (b / 16) (2 * w)
    have d0 := pcE4_d b (2 * w + 2)
    have d1 := pcE4_d (b / 16) (2 * w + 1)
    have ih := pcE8_B w (b / 16 / 16)
    rw [show 2 * (w + 1) = 2 * w + 2 by omega]
    rw [pcB, show pcE8 (pcE4 b (2 * w + 2)) (w + 1) / 256 = pcE8 (pcE4 b (2 * w + 2) / 256) w by rw [pcE8]; omega, show pcE4 b (2 * w + 2) / 256 = pcE4 (b / 16 / 16) (2 * w) by omega]
    have d1' : pcE4 b (2 * w + 2) / 16 % 16 ≤ 6 := by rw [q1.2]; exact d1
    refine ⟨?_, ih⟩
    rw [pcE8]
    exact pc_a2 d0 d1' _
theorem pcE8_lt : ∀ w b, pcE8 (pcE4 b (2 * w)) w < 256 ^ w
  | 0, _ => by simp [pcE8]
  | w + 1, b => by
    have q1 : pcE4 b (2 * w + 2) % 16 = b % 4 + b / 4 % 4 ∧ pcE4 b (2 * w + 2) / 16 = pcE4 (b / 16) (2 * w + 1) := pcE4_0 b (2 * w + 1)
    have q2 := pcE4_0 (b / 16) (2 * w)
    have d0 := pcE4_d b (2 * w + 2)
    have d1 := pcE4_d (b / 16) (2 * w + 1)
    have ih := pcE8_lt w (b / 16 / 16)
    rw [show 2 * (w + 1) = 2 * w + 2 by omega, Nat.pow_succ, pcE8, show pcE4 b (2 * w + 2) / 256 = pcE4 (b / 16 / 16) (2 * w) by omega]
    have d1' : pcE4 b (2 * w + 2) / 16 % 16 ≤ 6 := by rw [q1.2]; exact d1
    exact pc_a3 d0 d1' ih
set_option maxHeartbeats 200000 in
theorem pc_fin4 {e : Nat} (h : pcB e 4) (hl : e < 4294967296) : ((e + e / 256) + (e + e / 256) / 65536) % 64 = pcS8 e 4 := by
  simp only [pcB, and_true] at h
  simp only [pcS8]
  obtain ⟨h0, h1, h2, h3⟩ := h
  have d0 := Nat.div_add_mod e 256
  generalize e / 256 = x1 at *
  generalize e % 256 = b0 at *
  have d1 := Nat.div_add_mod x1 256
  generalize x1 / 256 = x2 at *
  generalize x1 % 256 = b1 at *
  have d2 := Nat.div_add_mod x2 256
  generalize x2 / 256 = x3 at *
  generalize x2 % 256 = b2 at *
  have d3 := Nat.div_add_mod x3 256
  generalize x3 / 256 = x4 at *
  generalize x3 % 256 = b3 at *
  have z : x4 = 0 := by omega
  have e2 : (e + x1) / 65536 = (b2 + b3) + 256 * b3 := by omega
  rw [e2]
  omega
set_option maxHeartbeats 200000 in
theorem pcB_lt4 {e : Nat} (h : pcB e 4) (hl : e < 4294967296) : e < 218103808 := by
  simp only [pcB, and_true] at h
  obtain ⟨-, -, -, h⟩ := h
  rw [Nat.div_div_eq_div_mul, Nat.div_div_eq_div_mul] at h
  omega
theorem sr_d (a k : Nat) : a >>> k = a / 2 ^ k := Nat.shiftRight_eq_div_pow a k
section
variable {σ : aa_St}
set_option maxRecDepth 20000 in
set_option maxHeartbeats 400000 in
theorem c_bitCount {a : Nat} (ha : a < 4294967296) : aa_SX mJ6_bitCount_0f7a4 1 [.int (nI a)] σ (some (.int (nI (pl_cn a 32)))) σ := by
  have f1 := pc_s1 16 a (by omega)
  have f2 := pc_s2 8 (pcE2 a 16)
  have f3 := pc_s3 4 (pcE2 a 16)
  have l2 := pcE2_lt 16 a
  have l4 := pcE4_lt 8 (pcE2 a 16)
  have l8 := pcE8_lt 4 (pcE2 a 16)
  have b8 := pcE8_B 4 (pcE2 a 16)
  simp only [show m55 16 = 1431655765 from rfl, show m33 8 = 858993459 from rfl, show m0f 4 = 252645135 from rfl, show 2 * 4 = 8 from rfl] at f1 f2 f3 l8 b8
  have hfin := pc_fin4 b8 (by omega)
  have hq := pcB_lt4 b8 (by omega)
  rw [← pc_t3 4 (pcE4 (pcE2 a 16) 8), ← pc_t2 8 (pcE2 a 16), ← pc_t1 16 a, show 2 * 16 = 32 from rfl, ← pl_cn_pc] at hfin
  refine aa_E_of (by decide) 0 [some (.int (nI a))] rfl rfl ?_
  refine aa_go (aa_iload0 iJ6_bitCount_0f7a4_0) (aa_go (aa_iload0 iJ6_bitCount_0f7a4_1) (aa_go (aa_iconst iJ6_bitCount_0f7a4_2 ki_1) (aa_go (aa_iushrN iJ6_bitCount_0f7a4_3 (by omega) (by omega)) (aa_go (aa_ldcw iJ6_bitCount_0f7a4_4 ld_J6_265) (aa_go (aa_iandN iJ6_bitCount_0f7a4_7 ) (aa_go (aa_isubN iJ6_bitCount_0f7a4_8 (by rw [sr_d]; exact f1.1)) ?_))))))
  refine aa_go (aa_top (y := nI (pcE2 a 16)) (by rw [sr_d, ← f1.2])) ?_
  refine aa_go (aa_istore0 iJ6_bitCount_0f7a4_9 (by decide)) (aa_go (aa_iload0 iJ6_bitCount_0f7a4_10) (aa_go (aa_ldcw iJ6_bitCount_0f7a4_11 ld_J6_266) (aa_go (aa_iandN iJ6_bitCount_0f7a4_14 ) (aa_go (aa_iload0 iJ6_bitCount_0f7a4_15) (aa_go (aa_iconst iJ6_bitCount_0f7a4_16 ki_2) (aa_go (aa_iushrN iJ6_bitCount_0f7a4_17 (by omega) (by omega)) (aa_go (aa_ldcw iJ6_bitCount_0f7a4_18 ld_J6_266) ?_)))))))
  refine aa_go (aa_iandN iJ6_bitCount_0f7a4_21 ) (aa_go (aa_iaddN iJ6_bitCount_0f7a4_22 ) ?_)
  refine aa_go (aa_top (y := nI (pcE4 (pcE2 a 16) 8)) (by rw [sr_d, ← f2])) ?_
  refine aa_go (aa_istore0 iJ6_bitCount_0f7a4_23 (by decide)) (aa_go (aa_iload0 iJ6_bitCount_0f7a4_24) (aa_go (aa_iload0 iJ6_bitCount_0f7a4_25) (aa_go (aa_iconst iJ6_bitCount_0f7a4_26 ki_4) (aa_go (aa_iushrN iJ6_bitCount_0f7a4_27 (by omega) (by omega)) (aa_go (aa_iaddN iJ6_bitCount_0f7a4_28 ) (aa_go (aa_ldcw iJ6_bitCount_0f7a4_29 ld_J6_267) (aa_go (aa_iandN iJ6_bitCount_0f7a4_32 ) ?_)))))))
  refine aa_go (aa_top (y := nI (pcE8 (pcE4 (pcE2 a 16) 8) 4)) (by rw [sr_d, ← f3])) ?_
  generalize pcE8 (pcE4 (pcE2 a 16) 8) 4 = q at *
  refine aa_go (aa_istore0 iJ6_bitCount_0f7a4_33 (by decide)) (aa_go (aa_iload0 iJ6_bitCount_0f7a4_34) (aa_go (aa_iload0 iJ6_bitCount_0f7a4_35) (aa_go (aa_bipush iJ6_bitCount_0f7a4_36 kb_8) (aa_go (aa_iushrN iJ6_bitCount_0f7a4_38 (by omega) (by omega)) (aa_go (aa_iaddN iJ6_bitCount_0f7a4_39 ) ?_)))))
  refine aa_go (aa_top (y := nI (q + q / 256)) (by rw [sr_d])) ?_
  refine aa_go (aa_istore0 iJ6_bitCount_0f7a4_40 (by decide)) (aa_go (aa_iload0 iJ6_bitCount_0f7a4_41) (aa_go (aa_iload0 iJ6_bitCount_0f7a4_42) (aa_go (aa_bipush iJ6_bitCount_0f7a4_43 kb_16) (aa_go (aa_iushrN iJ6_bitCount_0f7a4_45 (by omega) (by omega)) (aa_go (aa_iaddN iJ6_bitCount_0f7a4_46 ) ?_)))))
  refine aa_go (aa_top (y := nI ((q + q / 256) + (q + q / 256) / 65536)) (by rw [sr_d])) ?_
  refine aa_go (aa_istore0 iJ6_bitCount_0f7a4_47 (by decide)) (aa_go (aa_iload0 iJ6_bitCount_0f7a4_48) (aa_go (aa_bipush iJ6_bitCount_0f7a4_49 kb_63) (aa_go (aa_iandN iJ6_bitCount_0f7a4_51 ) ?_)))
  refine aa_go (aa_top (y := nI (pl_cn a 32)) (by rw [← hfin]; exact congrArg nI (Nat.and_two_pow_sub_one_eq_mod _ 6))) ?_
  refine aa_iret iJ6_bitCount_0f7a4_52 rfl ?_
  exact ⟨rfl, rfl⟩
/-- the lowest bit of a number -/
def lb (x : Int32) (k : Nat) : Prop := k < 32 ∧ x.toBitVec.getLsbD k = true ∧ ∀ j, j < k → x.toBitVec.getLsbD j = false
theorem lb_nI {a k : Nat} (hk : k < 32) (h : a.testBit k = true) (h2 : ∀ j, j < k → a.testBit j = false) : lb (nI a) k := ⟨hk, by rw [nI_get]; simp [hk, h], fun j hj => by rw [nI_get, h2 j hj]; simp⟩
theorem lb_not {a k : Nat} (hk : k < 32) (h : a.testBit k = false) (h2 : ∀ j, j < k → a.testBit j = true) : lb (nI a ^^^ -1) k := by
  refine ⟨hk, ?_, fun j hj => ?_⟩
  · rw [Int32.toBitVec_xor, BitVec.getLsbD_xor, nI_get, nI_m1 hk, h]; simp
  · rw [Int32.toBitVec_xor, BitVec.getLsbD_xor, nI_get, nI_m1 (by omega), h2 j hj]; simp [show j < 32 by omega]
theorem lb_neg (x : Int32) (i : Nat) : (-x).toBitVec.getLsbD i = (x.toBitVec.getLsbD i ^^ (decide (i < 32) && decide (∃ j < i, x.toBitVec.getLsbD j = true))) := by
  rw [Int32.toBitVec_neg, BitVec.getLsbD_neg]
theorem lb_and {x : Int32} {k : Nat} (h : lb x k) : x &&& -x = nI (2 ^ k) := by
  obtain ⟨h0, h1, h2⟩ := h
  apply nI_ext
  intro i hi
  rw [Int32.toBitVec_and, BitVec.getLsbD_and, lb_neg, nI_get]
  rcases Nat.lt_trichotomy i k with h | h | h
  · rw [h2 i h, Nat.testBit_two_pow_of_ne (by omega)]; simp
  · subst h
    have : ¬ ∃ j < i, x.toBitVec.getLsbD j = true := fun ⟨j, hj, q⟩ => by rw [h2 j hj] at q; cases q
    rw [h1, Nat.testBit_two_pow_self]; simp [hi, this]
  · have : ∃ j < i, x.toBitVec.getLsbD j = true := ⟨k, h, h1⟩
    rw [Nat.testBit_two_pow_of_ne (by omega)]
    simp [hi, this]
theorem lb_ntz {x : Int32} {k : Nat} (h : lb x k) : (x ^^^ -1) &&& (x - nI 1) = nI (2 ^ k - 1) := by
  obtain ⟨h0, h1, h2⟩ := h
  have e : ∀ i, i < 32 → (x - nI 1).toBitVec.getLsbD i = !(-x).toBitVec.getLsbD i := by
    intro i hi
    have e1 : (x - nI 1).toBitVec = ~~~ (-x).toBitVec := by
      rw [Int32.toBitVec_neg, Int32.toBitVec_sub, BitVec.not_neg]
      rfl
    rw [e1, BitVec.getLsbD_not]
    simp [hi]
  apply nI_ext
  intro i hi
  rw [Int32.toBitVec_and, BitVec.getLsbD_and, e i hi, Int32.toBitVec_xor, BitVec.getLsbD_xor, nI_m1 hi, lb_neg, nI_get, Nat.testBit_two_pow_sub_one]
  rcases Nat.lt_trichotomy i k with h | h | h
  · have : ¬ ∃ j < i, x.toBitVec.getLsbD j = true := fun ⟨j, hj, q⟩ => by rw [h2 j (by omega)] at q; cases q
    rw [h2 i h]; simp [hi, this, h]
  · subst h
    rw [h1]; simp
  · have : ∃ j < i, x.toBitVec.getLsbD j = true := ⟨k, h, h1⟩
    have h3 : ¬ i < k := by omega
    simp [hi, this, h3]
theorem cn_pow1 : ∀ k w, pl_cn (2 ^ k - 1) w = min k w := by
  intro k w
  induction w with
  | zero => simp [pl_cn]
  | succ w ih =>
    rw [pl_cn, ih, Nat.testBit_two_pow_sub_one]
    by_cases h : w < k
    · simp [h]; omega
    · simp [h]; omega
theorem pw_sr {k j : Nat} : (2 ^ k - 1) >>> j = 2 ^ (k - j) - 1 := by
  apply bb_ext
  intro i
  rw [Nat.testBit_shiftRight, Nat.testBit_two_pow_sub_one, Nat.testBit_two_pow_sub_one]
  congr 1
  apply propext
  omega
theorem pw_lt {k n : Nat} (h : k ≤ n) : 2 ^ k ≤ 2 ^ n := Nat.pow_le_pow_right (by omega) h
theorem pw1_le {k j : Nat} (h : 2 ^ k - 1 ≤ 2 ^ j) (hj : 1 ≤ j) : k ≤ j := by
  rcases Nat.lt_or_ge j k with h1 | h1
  · have h2 := pw_lt h1
    have h3 := pw_lt hj
    rw [Nat.pow_succ] at h2
    omega
  · exact h1
theorem pw1_gt {k j : Nat} (h : 2 ^ j < 2 ^ k - 1) : j < k := by
  rcases Nat.lt_or_ge j k with h1 | h1
  · exact h1
  · have h2 := pw_lt h1
    have h3 := Nat.two_pow_pos j
    have h4 := Nat.two_pow_pos k
    omega
theorem c_ntz {x : Int32} {k : Nat} (h : lb x k) : aa_SX mJ6_numberOfTrailingZeros_0f7a4 1 [.int x] σ (some (.int (nI k))) σ := by
  have hk := h.1
  have p31 : 2 ^ k ≤ 2147483648 := pw_lt (n := 31) (by omega)
  have H4 : ∀ k n, 1 ≤ k → k ≤ 2 → aa_V mJ6_numberOfTrailingZeros_0f7a4 1 74 [some (.int (nI (2 ^ k - 1))), some (.int (nI n))] [] σ (fun r1 σ1 => r1 = some (.int (nI (n + k - 1))) ∧ σ1 = σ) := by
    intro k n h1 h2
    have p2 : 2 ^ k ≤ 4 := pw_lt (n := 2) h2
    refine aa_go (aa_iload1 iJ6_numberOfTrailingZeros_0f7a4_74) (aa_go (aa_iload0 iJ6_numberOfTrailingZeros_0f7a4_75) (aa_go (aa_iconst iJ6_numberOfTrailingZeros_0f7a4_76 ki_1) (aa_go (aa_iushrN iJ6_numberOfTrailingZeros_0f7a4_77 (by omega) (by omega)) (aa_go (aa_iaddN iJ6_numberOfTrailingZeros_0f7a4_78 ) ?_))))
    refine aa_go (aa_top (y := nI (n + k - 1)) (by rw [show (2 ^ k - 1) >>> 1 = k - 1 by rcases (show k = 1 ∨ k = 2 by omega) with rfl | rfl <;> rfl]; congr 1; omega)) ?_
    refine aa_iret iJ6_numberOfTrailingZeros_0f7a4_79 rfl ?_
    exact ⟨rfl, rfl⟩
  have H3 : ∀ k n, 1 ≤ k → k ≤ 4 → aa_V mJ6_numberOfTrailingZeros_0f7a4 1 62 [some (.int (nI (2 ^ k - 1))), some (.int (nI n))] [] σ (fun r1 σ1 => r1 = some (.int (nI (n + k - 1))) ∧ σ1 = σ) := by
    intro k n h1 h2
    have p2 : 2 ^ k ≤ 16 := pw_lt (n := 4) h2
    refine aa_go (aa_iload0 iJ6_numberOfTrailingZeros_0f7a4_62) (aa_go (aa_iconst iJ6_numberOfTrailingZeros_0f7a4_63 ki_4) ?_)
    refine aa_ic_leN iJ6_numberOfTrailingZeros_0f7a4_64 (by omega) (by omega) (fun h3 => ?_) (fun h3 => ?_)
    · skip
      exact H4 k n h1 (pw1_le (j := 2) h3 (by decide))
    · skip
      have h4 := pw1_gt (j := 2) h3
      refine aa_go (aa_iincN1 (k := 2) iJ6_numberOfTrailingZeros_0f7a4_67 rfl (by decide)) (aa_go (aa_iload0 iJ6_numberOfTrailingZeros_0f7a4_70) (aa_go (aa_iconst iJ6_numberOfTrailingZeros_0f7a4_71 ki_2) (aa_go (aa_iushrN iJ6_numberOfTrailingZeros_0f7a4_72 (by omega) (by omega)) ?_)))
      refine aa_go (aa_top (y := nI (2 ^ (k - 2) - 1)) (by rw [pw_sr])) ?_
      refine aa_go (aa_istore0 iJ6_numberOfTrailingZeros_0f7a4_73 (by decide)) ?_
      have := H4 (k - 2) (n + 2) (by omega) (by omega)
      rw [show n + 2 + (k - 2) - 1 = n + k - 1 by omega] at this
      exact this
  have H2 : ∀ k n, 1 ≤ k → k ≤ 8 → aa_V mJ6_numberOfTrailingZeros_0f7a4 1 49 [some (.int (nI (2 ^ k - 1))), some (.int (nI n))] [] σ (fun r1 σ1 => r1 = some (.int (nI (n + k - 1))) ∧ σ1 = σ) := by
    intro k n h1 h2
    have p2 : 2 ^ k ≤ 256 := pw_lt (n := 8) h2
    refine aa_go (aa_iload0 iJ6_numberOfTrailingZeros_0f7a4_49) (aa_go (aa_bipush iJ6_numberOfTrailingZeros_0f7a4_50 kb_16) ?_)
    refine aa_ic_leN iJ6_numberOfTrailingZeros_0f7a4_52 (by omega) (by omega) (fun h3 => ?_) (fun h3 => ?_)
    · skip
      exact H3 k n h1 (pw1_le (j := 4) h3 (by decide))
    · skip
      have h4 := pw1_gt (j := 4) h3
      refine aa_go (aa_iincN1 (k := 4) iJ6_numberOfTrailingZeros_0f7a4_55 rfl (by decide)) (aa_go (aa_iload0 iJ6_numberOfTrailingZeros_0f7a4_58) (aa_go (aa_iconst iJ6_numberOfTrailingZeros_0f7a4_59 ki_4) (aa_go (aa_iushrN iJ6_numberOfTrailingZeros_0f7a4_60 (by omega) (by omega)) ?_)))
      refine aa_go (aa_top (y := nI (2 ^ (k - 4) - 1)) (by rw [pw_sr])) ?_
      refine aa_go (aa_istore0 iJ6_numberOfTrailingZeros_0f7a4_61 (by decide)) ?_
      have := H3 (k - 4) (n + 4) (by omega) (by omega)
      rw [show n + 4 + (k - 4) - 1 = n + k - 1 by omega] at this
      exact this
  have H1 : ∀ k n, 1 ≤ k → k ≤ 16 → aa_V mJ6_numberOfTrailingZeros_0f7a4 1 34 [some (.int (nI (2 ^ k - 1))), some (.int (nI n))] [] σ (fun r1 σ1 => r1 = some (.int (nI (n + k - 1))) ∧ σ1 = σ) := by
    intro k n h1 h2
    have p2 : 2 ^ k ≤ 65536 := pw_lt (n := 16) h2
    refine aa_go (aa_iload0 iJ6_numberOfTrailingZeros_0f7a4_34) (aa_go (aa_sipush iJ6_numberOfTrailingZeros_0f7a4_35 ks_256) ?_)
    refine aa_ic_leN iJ6_numberOfTrailingZeros_0f7a4_38 (by omega) (by omega) (fun h3 => ?_) (fun h3 => ?_)
    · skip
      exact H2 k n h1 (pw1_le (j := 8) h3 (by decide))
    · skip
      have h4 := pw1_gt (j := 8) h3
      refine aa_go (aa_iincN1 (k := 8) iJ6_numberOfTrailingZeros_0f7a4_41 rfl (by decide)) (aa_go (aa_iload0 iJ6_numberOfTrailingZeros_0f7a4_44) (aa_go (aa_bipush iJ6_numberOfTrailingZeros_0f7a4_45 kb_8) (aa_go (aa_iushrN iJ6_numberOfTrailingZeros_0f7a4_47 (by omega) (by omega)) ?_)))
      refine aa_go (aa_top (y := nI (2 ^ (k - 8) - 1)) (by rw [pw_sr])) ?_
      refine aa_go (aa_istore0 iJ6_numberOfTrailingZeros_0f7a4_48 (by decide)) ?_
      have := H2 (k - 8) (n + 8) (by omega) (by omega)
      rw [show n + 8 + (k - 8) - 1 = n + k - 1 by omega] at this
      exact this
  refine aa_E_of (by decide) 1 [some (.int (x)), none] rfl rfl ?_
  refine aa_go (aa_iload0 iJ6_numberOfTrailingZeros_0f7a4_0) (aa_go (aa_iconst iJ6_numberOfTrailingZeros_0f7a4_1 ki_m1) (aa_go (aa_ixor iJ6_numberOfTrailingZeros_0f7a4_2) (aa_go (aa_iload0 iJ6_numberOfTrailingZeros_0f7a4_3) (aa_go (aa_iconst iJ6_numberOfTrailingZeros_0f7a4_4 ki_1) (aa_go (aa_isub iJ6_numberOfTrailingZeros_0f7a4_5) (aa_go (aa_iand iJ6_numberOfTrailingZeros_0f7a4_6) ?_))))))
  refine aa_go (aa_top (y := nI (2 ^ k - 1)) (lb_ntz h)) ?_
  refine aa_go (aa_istore0 iJ6_numberOfTrailingZeros_0f7a4_7 (by decide)) (aa_go (aa_iload0 iJ6_numberOfTrailingZeros_0f7a4_8) ?_)
  refine aa_if_gtN iJ6_numberOfTrailingZeros_0f7a4_9 (by omega) (fun h3 => ?_) (fun h3 => ?_)
  · skip
    have h4 : 1 ≤ k := by
      rcases Nat.eq_zero_or_pos k with rfl | h5
      · simp at h3
      · exact h5
    refine aa_go (aa_iconst iJ6_numberOfTrailingZeros_0f7a4_17 ki_1) (aa_go (aa_istore1 iJ6_numberOfTrailingZeros_0f7a4_18 rfl (by decide)) (aa_go (aa_iload0 iJ6_numberOfTrailingZeros_0f7a4_19) (aa_go (aa_ldcw iJ6_numberOfTrailingZeros_0f7a4_20 ld_J6_264) ?_)))
    refine aa_ic_leN iJ6_numberOfTrailingZeros_0f7a4_23 (by omega) (by omega) (fun h5 => ?_) (fun h5 => ?_)
    · skip
      have := H1 k 1 h4 (pw1_le (j := 16) h5 (by decide))
      rw [show 1 + k - 1 = k by omega] at this
      exact this
    · skip
      have h6 := pw1_gt (j := 16) h5
      refine aa_go (aa_iincN1 (k := 16) iJ6_numberOfTrailingZeros_0f7a4_26 rfl (by decide)) (aa_go (aa_iload0 iJ6_numberOfTrailingZeros_0f7a4_29) (aa_go (aa_bipush iJ6_numberOfTrailingZeros_0f7a4_30 kb_16) (aa_go (aa_iushrN iJ6_numberOfTrailingZeros_0f7a4_32 (by omega) (by omega)) ?_)))
      refine aa_go (aa_top (y := nI (2 ^ (k - 16) - 1)) (by rw [pw_sr])) ?_
      refine aa_go (aa_istore0 iJ6_numberOfTrailingZeros_0f7a4_33 (by decide)) ?_
      have := H1 (k - 16) (1 + 16) (by omega) (by omega)
      rw [show 1 + 16 + (k - 16) - 1 = k by omega] at this
      exact this
  · skip
    have h4 : k = 0 := by
      rcases Nat.eq_zero_or_pos k with h5 | h5
      · exact h5
      · have := pw_lt h5; omega
    subst h4
    refine aa_go (aa_iload0 iJ6_numberOfTrailingZeros_0f7a4_12) (aa_go (aa_bipush iJ6_numberOfTrailingZeros_0f7a4_13 kb_32) (aa_go (aa_iandN iJ6_numberOfTrailingZeros_0f7a4_15 ) ?_))
    refine aa_iret iJ6_numberOfTrailingZeros_0f7a4_16 rfl ?_
    exact ⟨rfl, rfl⟩
theorem aa_mmax {M : aa_M} {d pc pn idx : Nat} {ls : aa_L} {st : List Value} {x y : Int32} (h : aa_At M pc (.invokestatic idx) 3 pn) (hd : 0 < d) (hL : aa_LS M.1.cls idx mJ9_max_7cf53) (hrm : (st.map fun v => v.category).sum ≤ 8) : aa_Go M d pc ls (.int y :: .int x :: st) σ pn ls (.int (if x < y then y else x) :: st) σ := ⟨Nat.le_refl _, Nat.le_refl _, fun p l e R s m args below meth c D cA b z c0 s0 Q ok hc0 hs0 hCc hSl K H locs lsA hP hz hS hl => by
  obtain ⟨o1, o2, o3, o4, o5, o6, o7, o8, o9, o10, o11, o12, o13, o14⟩ := id ok
  have K1 := K H locs lsA hP hz hS hl
  rw [← h.2] at K1
  exact va_mmax o1 o2 (o3.trans hl.1.symm) o4 (o5 _ hL.1.tb) (o5 _ hL.2.tb) (o5 _ lc_J9_max_7cf53.2.1.tb) (o5 _ lc_J9_max_7cf53.1.tb) (by omega) (by rw [aa_cats]; omega) hCc hSl h.1 K1⟩
theorem aa_mmin {M : aa_M} {d pc pn idx : Nat} {ls : aa_L} {st : List Value} {x y : Int32} (h : aa_At M pc (.invokestatic idx) 3 pn) (hd : 0 < d) (hL : aa_LS M.1.cls idx mJ9_min_7cf53) (hrm : (st.map fun v => v.category).sum ≤ 8) : aa_Go M d pc ls (.int y :: .int x :: st) σ pn ls (.int (if y < x then y else x) :: st) σ := ⟨Nat.le_refl _, Nat.le_refl _, fun p l e R s m args below meth c D cA b z c0 s0 Q ok hc0 hs0 hCc hSl K H locs lsA hP hz hS hl => by
  obtain ⟨o1, o2, o3, o4, o5, o6, o7, o8, o9, o10, o11, o12, o13, o14⟩ := id ok
  have K1 := K H locs lsA hP hz hS hl
  rw [← h.2] at K1
  exact va_mmin o1 o2 (o3.trans hl.1.symm) o4 (o5 _ hL.1.tb) (o5 _ hL.2.tb) (o5 _ lc_J9_min_7cf53.2.1.tb) (o5 _ lc_J9_min_7cf53.1.tb) (by omega) (by rw [aa_cats]; omega) hCc hSl h.1 K1⟩
theorem aa_mmaxL {M : aa_M} {d pc pn idx : Nat} {ls : aa_L} {st : List Value} {x y : Int64} (h : aa_At M pc (.invokestatic idx) 3 pn) (hd : 0 < d) (hL : aa_LS M.1.cls idx mJ9_max_f86c9) (hrm : (st.map fun v => v.category).sum ≤ 8) : aa_Go M d pc ls (.long y :: .long x :: st) σ pn ls (.long (if y < x then x else y) :: st) σ := ⟨Nat.le_refl _, Nat.le_refl _, fun p l e R s m args below meth c D cA b z c0 s0 Q ok hc0 hs0 hCc hSl K H locs lsA hP hz hS hl => by
  obtain ⟨o1, o2, o3, o4, o5, o6, o7, o8, o9, o10, o11, o12, o13, o14⟩ := id ok
  have K1 := K H locs lsA hP hz hS hl
  rw [← h.2] at K1
  exact va_mmax_long o1 o2 (o3.trans hl.1.symm) o4 (o5 _ hL.1.tb) (o5 _ hL.2.tb) (o5 _ lc_J9_max_f86c9.2.1.tb) (o5 _ lc_J9_max_f86c9.1.tb) (by omega) (by rw [aa_cats]; omega) hCc hSl h.1 K1⟩
theorem aa_mminL {M : aa_M} {d pc pn idx : Nat} {ls : aa_L} {st : List Value} {x y : Int64} (h : aa_At M pc (.invokestatic idx) 3 pn) (hd : 0 < d) (hL : aa_LS M.1.cls idx mJ9_min_f86c9) (hrm : (st.map fun v => v.category).sum ≤ 8) : aa_Go M d pc ls (.long y :: .long x :: st) σ pn ls (.long (if y < x then y else x) :: st) σ := ⟨Nat.le_refl _, Nat.le_refl _, fun p l e R s m args below meth c D cA b z c0 s0 Q ok hc0 hs0 hCc hSl K H locs lsA hP hz hS hl => by
  obtain ⟨o1, o2, o3, o4, o5, o6, o7, o8, o9, o10, o11, o12, o13, o14⟩ := id ok
  have K1 := K H locs lsA hP hz hS hl
  rw [← h.2] at K1
  exact va_mmin_long o1 o2 (o3.trans hl.1.symm) o4 (o5 _ hL.1.tb) (o5 _ hL.2.tb) (o5 _ lc_J9_min_f86c9.2.1.tb) (o5 _ lc_J9_min_f86c9.1.tb) (by omega) (by rw [aa_cats]; omega) hCc hSl h.1 K1⟩
theorem aa_mabsL {M : aa_M} {d pc pn idx : Nat} {ls : aa_L} {st : List Value} {x y : Int64} (h : aa_At M pc (.invokestatic idx) 3 pn) (hd : 0 < d) (hL : aa_LS M.1.cls idx mJ9_abs_067f4) (hrm : (st.map fun v => v.category).sum ≤ 8) : aa_Go M d pc ls (.long x :: st) σ pn ls (.long (if 0 < x then x else -x) :: st) σ := ⟨Nat.le_refl _, Nat.le_refl _, fun p l e R s m args below meth c D cA b z c0 s0 Q ok hc0 hs0 hCc hSl K H locs lsA hP hz hS hl => by
  obtain ⟨o1, o2, o3, o4, o5, o6, o7, o8, o9, o10, o11, o12, o13, o14⟩ := id ok
  have K1 := K H locs lsA hP hz hS hl
  rw [← h.2] at K1
  exact va_mabs_long o1 o2 (o3.trans hl.1.symm) o4 (o5 _ hL.1.tb) (o5 _ hL.2.tb) (o5 _ lc_J9_abs_067f4.2.1.tb) (o5 _ lc_J9_abs_067f4.1.tb) (by omega) (by rw [aa_cats]; omega) hCc hSl h.1 K1⟩
theorem aa_mmaxN {M : aa_M} {d pc pn idx : Nat} {ls : aa_L} {st : List Value} {x y : Nat} (h : aa_At M pc (.invokestatic idx) 3 pn) (hd : 0 < d) (hL : aa_LS M.1.cls idx mJ9_max_7cf53) (hrm : (st.map fun v => v.category).sum ≤ 8) (hx : x < 2147483648) (hy : y < 2147483648) : aa_Go M d pc ls (.int (nI y) :: .int (nI x) :: st) σ pn ls (.int (nI (max x y)) :: st) σ := by
  have h1 := aa_mmax (σ := σ) (ls := ls) (st := st) (x := nI x) (y := nI y) h hd hL hrm
  rwa [show (if nI x < nI y then nI y else nI x) = nI (max x y) by
    by_cases h2 : x < y
    · rw [if_pos ((nI_lti hx hy).mpr h2), Nat.max_eq_right (by omega)]
    · rw [if_neg (fun q => h2 ((nI_lti hx hy).mp q)), Nat.max_eq_left (by omega)]] at h1
theorem aa_mminN {M : aa_M} {d pc pn idx : Nat} {ls : aa_L} {st : List Value} {x y : Nat} (h : aa_At M pc (.invokestatic idx) 3 pn) (hd : 0 < d) (hL : aa_LS M.1.cls idx mJ9_min_7cf53) (hrm : (st.map fun v => v.category).sum ≤ 8) (hx : x < 2147483648) (hy : y < 2147483648) : aa_Go M d pc ls (.int (nI y) :: .int (nI x) :: st) σ pn ls (.int (nI (min x y)) :: st) σ := by
  have h1 := aa_mmin (σ := σ) (ls := ls) (st := st) (x := nI x) (y := nI y) h hd hL hrm
  rwa [show (if nI y < nI x then nI y else nI x) = nI (min x y) by
    by_cases h2 : y < x
    · rw [if_pos ((nI_lti hy hx).mpr h2), Nat.min_eq_right (by omega)]
    · rw [if_neg (fun q => h2 ((nI_lti hy hx).mp q)), Nat.min_eq_left (by omega)]] at h1
theorem c_X6_lowest {x : Int32} {k : Nat} (h : lb x k) : aa_SX mX6_lowest 2 [.int x] σ (some (.int (nI k))) σ := by
  have hk := h.1
  have p31 : 2 ^ k ≤ 2147483648 := pw_lt (n := 31) (by omega)
  refine aa_E_of (by decide) 0 [some (.int (x))] rfl rfl ?_
  refine aa_go (aa_iload0 iX6_lowest_0) (aa_go (aa_iload0 iX6_lowest_1) (aa_go (aa_ineg iX6_lowest_2) (aa_go (aa_iand iX6_lowest_3) ?_)))
  refine aa_go (aa_top (y := nI (2 ^ k)) (lb_and h)) ?_
  refine aa_go (aa_iconst iX6_lowest_4 ki_1) (aa_go (aa_isubN iX6_lowest_5 Nat.one_le_two_pow) (aa_go (aa_cSi iX6_lowest_6 (c_bitCount (by omega)) (by decide) lc_J6_bitCount_0f7a4 lk_X6_61 rfl (Nat.le_of_ble_eq_true rfl)) ?_))
  refine aa_go (aa_top (y := nI k) (by rw [cn_pow1]; congr 1; omega)) ?_
  refine aa_iret iX6_lowest_9 rfl ?_
  exact ⟨rfl, rfl⟩
end
