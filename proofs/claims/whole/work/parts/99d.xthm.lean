/-! THE REFERENCE: things, alone, begins -/
section
variable {r : Nat → Nat} {dy : List aa_Shp} {P : pl_T} {σ : aa_St} {Q : Nat}
theorem m_isThing (hW : aa_W r dy σ) (hM : MP P σ.1) (x : Int32) : aa_SX mX12_isThing 2 [.ref 63, .int x] σ (some (.int (nI (decide (0 ≤ x.toInt ∧ x.toInt ≤ (pl_n P : Int) - 1)).toNat))) σ := by
  have h14 := hM.1.1
  obtain ⟨-, a1, -, a3, -⟩ := id hM
  have b1 := Int32.toInt_lt x
  have b2 := Int32.le_toInt x
  have e0 : (nI (pl_n P) - nI 1).toInt64 = lZ ((pl_n P : Int) - 1) := by
    rw [i2lZ]
    congr 1
    have : ∀ k : Fin 15, (nI k.val - nI 1).toInt = (k.val : Int) - 1 := by decide
    exact this ⟨pl_n P, by omega⟩
  have hS := m_in (σ := σ) (v := x.toInt) (lo := 0) (hi := (pl_n P : Int) - 1) (by omega) (by omega) (by omega)
  refine aa_E_of (by decide) 0 [some (.ref 63), some (.int (x))] rfl rfl ?_
  refine aa_go (aa_iload1 iX12_isThing_0) (aa_go (aa_i2l iX12_isThing_1) ?_)
  refine aa_go (aa_topl (y := lZ x.toInt) (i2lZ x)) ?_
  refine aa_go (aa_lconst iX12_isThing_2 kl_0) (aa_go (aa_aload0 iX12_isThing_3) (aa_go (aa_getE iX12_isThing_4 fl_X12_78 (sh_63 hW) rfl a1) (aa_go (aa_iconst iX12_isThing_7 ki_1) (aa_go (aa_isub iX12_isThing_8 ) (aa_go (aa_i2l iX12_isThing_9) ?_)))))
  refine aa_go (aa_topl (y := lZ ((pl_n P : Int) - 1)) (e0)) ?_
  refine aa_go (aa_cSi iX12_isThing_10 (hS) (by decide) lc_X12_in lk_X12_21 rfl (Nat.le_of_ble_eq_true rfl)) ?_
  refine aa_zretB iX12_isThing_13 rfl ?_
  exact ⟨rfl, rfl⟩
theorem m_areThings (hW : aa_W r dy σ) (hM : MP P σ.1) (x : Int32) : aa_SX mX12_areThings 2 [.ref 63, .int x] σ (some (.int (nI (decide (0 ≤ x.toInt ∧ x.toInt ≤ (2 ^ pl_n P : Nat) - 1)).toNat))) σ := by
  have h14 := hM.1.1
  obtain ⟨-, a1, -, a3, -⟩ := id hM
  have p14 : 2 ^ pl_n P ≤ 16384 := Nat.pow_le_pow_right (by decide : 0 < 2) h14
  have p1 : 1 ≤ 2 ^ pl_n P := Nat.one_le_two_pow
  have b1 := Int32.toInt_lt x
  have b2 := Int32.le_toInt x
  have e1 : (1 <<< pl_n P : Nat) = 2 ^ pl_n P := by rw [Nat.shiftLeft_eq, Nat.one_mul]
  have hS := m_in (σ := σ) (v := x.toInt) (lo := 0) (hi := ((2 ^ pl_n P : Nat) : Int) - 1) (by omega) (by omega) (by omega)
  refine aa_E_of (by decide) 0 [some (.ref 63), some (.int (x))] rfl rfl ?_
  refine aa_go (aa_iload1 iX12_areThings_0) (aa_go (aa_i2l iX12_areThings_1) ?_)
  refine aa_go (aa_topl (y := lZ x.toInt) (i2lZ x)) ?_
  refine aa_go (aa_lconst iX12_areThings_2 kl_0) (aa_go (aa_iconst iX12_areThings_3 ki_1) (aa_go (aa_aload0 iX12_areThings_4) (aa_go (aa_getE iX12_areThings_5 fl_X12_78 (sh_63 hW) rfl a1) (aa_go (aa_ishlN iX12_areThings_8 (by omega)) ?_))))
  refine aa_go (aa_top (y := nI (2 ^ pl_n P)) (by rw [e1])) ?_
  refine aa_go (aa_iconst iX12_areThings_9 ki_1) (aa_go (aa_isubN iX12_areThings_10 (by omega)) (aa_go (aa_i2lN iX12_areThings_11 (by omega)) ?_))
  refine aa_go (aa_topl (y := lZ (((2 ^ pl_n P : Nat) : Int) - 1)) (by rw [lZ_N]; congr 1; omega)) ?_
  refine aa_go (aa_cSi iX12_areThings_12 (hS) (by decide) lc_X12_in lk_X12_21 rfl (Nat.le_of_ble_eq_true rfl)) ?_
  refine aa_zretB iX12_areThings_15 rfl ?_
  exact ⟨rfl, rfl⟩
theorem m_aloneOf (hW : aa_W r dy σ) (hM : MP P σ.1) {a : Nat} (ha : a < 65536) (hK : MMQ Q σ.1) (hQ : Q + 1 < 500000) : ∃ σ' : aa_St, (FrA [74, 75] (aa_sI σ 63 24 (nI (Q + 1))) σ' ∧ MMQ (Q + 1) σ'.1) ∧ aa_SX mX12_aloneOf 50 [.ref 63, .int (nI a)] σ (some (.int (nI (vl P (dv P (a ||| 49152)))))) σ' := by
  have ok := hM.1
  have mu := pl_mu_le ok (dv P (a ||| 49152))
  have hW1 := hW.sI 63 24 (nI (Q + 1))
  have hM1 : MP P (aa_sI σ 63 24 (nI (Q + 1))).1 := hM.fr (by rw [sI_nk (by decide)]) (by rw [sI_nk (by decide)]) (fun q hq => by funext k; rw [sI_ne (by omega)])
  have hb : a ||| 49152 < 65536 := bb_or (k := 16) ha (by decide)
  obtain ⟨σ', ⟨hF, hK2⟩, hS⟩ := m_valueOf (r := r) (dy := dy) (P := P) (Q := Q + 1) 18 (a ||| 49152) (aa_sI σ 63 24 (nI (Q + 1))) mu hb hW1 hM1 (hK.ask hQ _)
  refine ⟨σ', ⟨hF, hK2.Q⟩, ?_⟩
  refine aa_E_of (by decide) 0 [some (.ref 63), some (.int (nI a))] rfl rfl ?_
  refine aa_go (aa_aload0 iX12_aloneOf_0) (aa_go (aa_cVv iX12_aloneOf_1 (m_asks hW hK.1) (by decide) lc_X12_asks lk_X12_189 (sh_63 hW) rfl rfl (Nat.le_of_ble_eq_true rfl)) ?_)
  refine aa_go (aa_aload0 iX12_aloneOf_4) (aa_go (aa_iload1 iX12_aloneOf_5) (aa_go (aa_ldc iX12_aloneOf_6 ld_X12_230) (aa_go (aa_iorN iX12_aloneOf_8 ) (aa_go (aa_cVi iX12_aloneOf_9 (hS) (by decide) lc_X12_valueOf lk_X12_224 (sh_63 hW1) rfl rfl (Nat.le_of_ble_eq_true rfl)) ?_))))
  refine aa_iret iX12_aloneOf_12 rfl ?_
  exact ⟨rfl, rfl⟩
theorem m_begins (hW : aa_W r dy σ) (hM : MP P σ.1) : aa_SX mX12_begins 1 [.ref 63] σ none (aa_sI (aa_sI (aa_sI σ 63 10 (nI (2 ^ pl_n P - 1))) 63 11 (nI 0)) 63 13 (nI 0)) := by
  have h14 := hM.1.1
  obtain ⟨-, a1, -, a3, -⟩ := id hM
  have p1 : 1 ≤ 2 ^ pl_n P := Nat.one_le_two_pow
  have e1 : (1 <<< pl_n P : Nat) = 2 ^ pl_n P := by rw [Nat.shiftLeft_eq, Nat.one_mul]
  refine aa_E_of (by decide) 0 [some (.ref 63)] rfl rfl ?_
  refine aa_go (aa_aload0 iX12_begins_0) (aa_go (aa_iconst iX12_begins_1 ki_1) (aa_go (aa_aload0 iX12_begins_2) (aa_go (aa_getE iX12_begins_3 fl_X12_78 (sh_63 hW) rfl a1) (aa_go (aa_ishlN iX12_begins_6 (by omega)) ?_))))
  refine aa_go (aa_top (y := nI (2 ^ pl_n P)) (by rw [e1])) ?_
  refine aa_go (aa_iconst iX12_begins_7 ki_1) (aa_go (aa_isubN iX12_begins_8 (by omega)) (aa_go (aa_putI iX12_begins_9 fl_X12_99 (fun h => nomatch h) (sh_63 hW) rfl ⟨rfl, rfl⟩) (aa_go (aa_aload0 iX12_begins_12) (aa_go (aa_iconst iX12_begins_13 ki_0) (aa_go (aa_putI iX12_begins_14 fl_X12_102 (fun h => nomatch h) (sh_63 hW) rfl ⟨rfl, rfl⟩) (aa_go (aa_aload0 iX12_begins_17) (aa_go (aa_iconst iX12_begins_18 ki_0) ?_)))))))
  refine aa_go (aa_putI iX12_begins_19 fl_X12_105 (fun h => nomatch h) (sh_63 hW) rfl ⟨rfl, rfl⟩) ?_
  refine aa_vret iX12_begins_22 rfl ?_
  exact ⟨rfl, rfl⟩
end
