/-! bits of a long number; single changes -/
theorem pb1 {q : Nat} (h : q ≤ 12 * (1 + 256 * (1 + 256 * (1 + 256 * (1 + 256 * (1 + 256 * (1 + 256 * (1 + 256 * 1)))))))) : q < 1152921504606846976 := Nat.lt_of_le_of_lt h (by decide)
theorem pb2 {q d N : Nat} (h : q < N) : q / d < N := Nat.lt_of_le_of_lt (Nat.div_le_self q d) h
theorem pb3 {a b N : Nat} (h : a < N) (h2 : b < N) : a + b < 2 * N := by omega
section
variable {σ : aa_St}
theorem c_bitCountL {a : Nat} (ha : a < 34359738368) : aa_SX mJ13_bitCount_95d88 1 [.long (lN a)] σ (some (.int (nI (pl_cn a 64)))) σ := by
  have f1 := pc_s1 32 a (Nat.lt_of_lt_of_le ha (by decide))
  have f2 := pc_s2 16 (pcE2 a 32)
  have f3 := pc_s3 8 (pcE2 a 32)
  have l2 : pcE2 a 32 < 18446744073709551616 := Nat.lt_of_lt_of_le (pcE2_lt 32 a) (by decide)
  have l4 : pcE4 (pcE2 a 32) 16 < 18446744073709551616 := Nat.lt_of_lt_of_le (pcE4_lt 16 (pcE2 a 32)) (by decide)
  have l8 : pcE8 (pcE4 (pcE2 a 32) 16) 8 < 256 * (256 * (256 * (256 * (256 * (256 * (256 * (256 * 1))))))) := Nat.lt_of_lt_of_le (pcE8_lt 8 (pcE2 a 32)) (by decide)
  have b8 : pcB (pcE8 (pcE4 (pcE2 a 32) 16) 8) 8 := pcE8_B 8 (pcE2 a 32)
  obtain ⟨hfin, hq⟩ := pc_fin8 b8 l8
  rw [← pc_t3 8 (pcE4 (pcE2 a 32) 16), ← pc_t2 16 (pcE2 a 32), ← pc_t1 32 a, show 2 * 32 = 64 from rfl, ← pl_cn_pc] at hfin
  have a64 : a < 18446744073709551616 := Nat.lt_trans ha (by decide)
  have k1 := pb1 hq
  refine aa_E_of (by decide) 0 [some (.long (lN a)), none] rfl rfl ?_
  refine aa_go (aa_lload0 iJ13_bitCount_95d88_0) (aa_go (aa_lload0 iJ13_bitCount_95d88_1) (aa_go (aa_iconst iJ13_bitCount_95d88_2 ki_1) (aa_go (aa_lushrN iJ13_bitCount_95d88_3 a64 (by decide)) (aa_go (aa_ldc2 iJ13_bitCount_95d88_4 ld_J13_314) (aa_go (aa_landN iJ13_bitCount_95d88_7 ) (aa_go (aa_lsubN iJ13_bitCount_95d88_8 (by rw [sr_d]; exact f1.1)) ?_))))))
  refine aa_go (aa_topl (y := lN (pcE2 a 32)) (by rw [sr_d]; exact congrArg lN f1.2)) ?_
  refine aa_go (aa_lstore0 iJ13_bitCount_95d88_9 (by decide)) (aa_go (aa_lload0 iJ13_bitCount_95d88_10) (aa_go (aa_ldc2 iJ13_bitCount_95d88_11 ld_J13_316) (aa_go (aa_landN iJ13_bitCount_95d88_14 ) (aa_go (aa_lload0 iJ13_bitCount_95d88_15) (aa_go (aa_iconst iJ13_bitCount_95d88_16 ki_2) (aa_go (aa_lushrN iJ13_bitCount_95d88_17 l2 (by decide)) (aa_go (aa_ldc2 iJ13_bitCount_95d88_18 ld_J13_316) ?_)))))))
  refine aa_go (aa_landN iJ13_bitCount_95d88_21 ) (aa_go (aa_laddN iJ13_bitCount_95d88_22 ) ?_)
  refine aa_go (aa_topl (y := lN (pcE4 (pcE2 a 32) 16)) (by rw [sr_d]; exact congrArg lN f2)) ?_
  refine aa_go (aa_lstore0 iJ13_bitCount_95d88_23 (by decide)) (aa_go (aa_lload0 iJ13_bitCount_95d88_24) (aa_go (aa_lload0 iJ13_bitCount_95d88_25) (aa_go (aa_iconst iJ13_bitCount_95d88_26 ki_4) (aa_go (aa_lushrN iJ13_bitCount_95d88_27 l4 (by decide)) (aa_go (aa_laddN iJ13_bitCount_95d88_28 ) (aa_go (aa_ldc2 iJ13_bitCount_95d88_29 ld_J13_318) (aa_go (aa_landN iJ13_bitCount_95d88_32 ) ?_)))))))
  refine aa_go (aa_topl (y := lN (pcE8 (pcE4 (pcE2 a 32) 16) 8)) (by rw [sr_d]; exact congrArg lN f3)) ?_
  generalize pcE8 (pcE4 (pcE2 a 32) 16) 8 = q at *
  clear f1 f2 f3 l2 l4 l8 b8 hq
  have k2 := pb3 k1 (pb2 (d := 256) k1)
  have k3 := pb3 k2 (pb2 (d := 65536) k2)
  refine aa_go (aa_lstore0 iJ13_bitCount_95d88_33 (by decide)) (aa_go (aa_lload0 iJ13_bitCount_95d88_34) (aa_go (aa_lload0 iJ13_bitCount_95d88_35) (aa_go (aa_bipush iJ13_bitCount_95d88_36 kb_8) (aa_go (aa_lushrN iJ13_bitCount_95d88_38 (Nat.lt_trans k1 (by decide)) (by decide)) (aa_go (aa_laddN iJ13_bitCount_95d88_39 ) ?_)))))
  refine aa_go (aa_topl (y := lN (q + q / 256)) (by rw [sr_d])) ?_
  refine aa_go (aa_lstore0 iJ13_bitCount_95d88_40 (by decide)) (aa_go (aa_lload0 iJ13_bitCount_95d88_41) (aa_go (aa_lload0 iJ13_bitCount_95d88_42) (aa_go (aa_bipush iJ13_bitCount_95d88_43 kb_16) (aa_go (aa_lushrN iJ13_bitCount_95d88_45 (Nat.lt_of_lt_of_le k2 (by decide)) (by decide)) (aa_go (aa_laddN iJ13_bitCount_95d88_46 ) ?_)))))
  refine aa_go (aa_topl (y := lN ((q + q / 256) + (q + q / 256) / 65536)) (by rw [sr_d])) ?_
  refine aa_go (aa_lstore0 iJ13_bitCount_95d88_47 (by decide)) (aa_go (aa_lload0 iJ13_bitCount_95d88_48) (aa_go (aa_lload0 iJ13_bitCount_95d88_49) (aa_go (aa_bipush iJ13_bitCount_95d88_50 kb_32) (aa_go (aa_lushrN iJ13_bitCount_95d88_52 (Nat.lt_of_lt_of_le k3 (by decide)) (by decide)) (aa_go (aa_laddN iJ13_bitCount_95d88_53 ) ?_)))))
  refine aa_go (aa_topl (y := lN ((q + q / 256) + (q + q / 256) / 65536 + ((q + q / 256) + (q + q / 256) / 65536) / 4294967296)) (by rw [sr_d])) ?_
  refine aa_go (aa_lstore0 iJ13_bitCount_95d88_54 (by decide)) (aa_go (aa_lload0 iJ13_bitCount_95d88_55) (aa_go (aa_l2iN iJ13_bitCount_95d88_56) (aa_go (aa_bipush iJ13_bitCount_95d88_57 kb_127) (aa_go (aa_iandN iJ13_bitCount_95d88_59 ) ?_))))
  refine aa_go (aa_top (y := nI (pl_cn a 64)) (by rw [← hfin]; exact congrArg nI (Nat.and_two_pow_sub_one_eq_mod _ 7))) ?_
  refine aa_iret iJ13_bitCount_95d88_60 rfl ?_
  exact ⟨rfl, rfl⟩
end
