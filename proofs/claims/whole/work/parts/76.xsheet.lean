/-! PUBLIC METHODS: sheet -/
def shE (k : Nat) (x : Int32) : Nat := (max 0 (min 9 (if k = 0 then x.toInt8.toInt32 else if k = 1 then x.toInt16.toInt32 else x).toInt)).toNat
theorem shE_9 (k : Nat) (x : Int32) : shE k x ≤ 9 := by unfold shE; omega
theorem cl_eq (w : Int32) : (if nI 0 < (if w < nI 9 then w else nI 9) then (if w < nI 9 then w else nI 9) else nI 0) = nI (max 0 (min 9 w.toInt)).toNat := by
  have e0 : (nI 0).toInt = 0 := by decide
  have e9 : (nI 9).toInt = 9 := by decide
  rw [← Int32.toInt_inj, nI_toInt (by omega)]
  by_cases h9 : w < nI 9
  · rw [if_pos h9]
    have h9' := h9
    rw [Int32.lt_iff_toInt_lt, e9] at h9'
    by_cases h0 : nI 0 < w
    · rw [if_pos h0]
      rw [Int32.lt_iff_toInt_lt, e0] at h0
      omega
    · rw [if_neg h0, e0]
      rw [Int32.lt_iff_toInt_lt, e0] at h0
      omega
  · rw [if_neg h9, if_pos (by decide), e9]
    rw [Int32.lt_iff_toInt_lt, e9] at h9
    omega
def shV (k ent : Nat) (f st : Int32) (i : Nat) : Nat := if i < ent then shE k (f + nI i * st) else 0
def shP (P : pl_T) (k ent : Nat) (f st : Int32) : pl_T := wP P (fun i => if i < pl_n P then shV k ent f st i else 0)
section
variable {v W S R : Nat} {r : Nat → Nat} {dy : List aa_Shp} {σ σ' : aa_St} {P P' : pl_T} {tx tx' : Nat → Nat} {n n' : Nat} {g g' : gm_T} {kp kp' : Nat → Option gm_T} {lk lk' tl tl' : Nat} {rw rw' : Nat → Int} {N : Nat}
theorem c_entry {k : Nat} (hk : k ≤ 2) (x : Int32) : aa_SX mX11_entry 2 [.int (nI k), .int x] σ (some (.int (nI (shE k x)))) σ := by
  have fin : ∀ w : Int32, w = (if k = 0 then x.toInt8.toInt32 else if k = 1 then x.toInt16.toInt32 else x) → aa_V mX11_entry 2 20 [some (.int (nI k)), some (.int x), none] [.int w] σ (fun ra σ' => ra = some (.int (nI (shE k x))) ∧ σ' = σ) := by
    intro w hw
    refine aa_go (aa_istore2 iX11_entry_20 rfl (by decide)) (aa_go (aa_iconst iX11_entry_21 ki_0) (aa_go (aa_bipush iX11_entry_22 kb_9) (aa_go (aa_iload2 iX11_entry_24) (aa_go (aa_mmin iX11_entry_25 (by omega) lk_X11_174 (Nat.le_of_ble_eq_true rfl)) (aa_go (aa_mmax iX11_entry_28 (by omega) lk_X11_179 (Nat.le_of_ble_eq_true rfl)) ?_)))))
    refine aa_go (aa_top (y := nI (shE k x)) (by rw [cl_eq, shE, hw])) ?_
    refine aa_iret iX11_entry_31 rfl ?_
    exact ⟨rfl, rfl⟩
  have key : aa_V mX11_entry 2 0 [some (.int (nI k)), some (.int x), none] [] σ (fun ra σ' => ra = some (.int (nI (shE k x))) ∧ σ' = σ) := by
    refine aa_go (aa_iload0 iX11_entry_0) ?_
    refine aa_if_neN iX11_entry_1 (by omega) (fun g1 => ?_) (fun g1 => ?_)
    · skip
      refine aa_go (aa_iload0 iX11_entry_9) (aa_go (aa_iconst iX11_entry_10 ki_1) ?_)
      refine aa_ic_neN iX11_entry_11 (by omega) (by omega) (fun g2 => ?_) (fun g2 => ?_)
      · skip
        refine aa_go (aa_iload1 iX11_entry_19) ?_
        exact fin x (by rw [if_neg g1, if_neg g2])
      · skip
        refine aa_go (aa_iload1 iX11_entry_14) (aa_go (aa_i2s iX11_entry_15) (aa_go (aa_goto iX11_entry_16) ?_))
        exact fin _ (by rw [if_neg g1, if_pos g2])
    · skip
      refine aa_go (aa_iload1 iX11_entry_4) (aa_go (aa_i2b iX11_entry_5) (aa_go (aa_goto iX11_entry_6) ?_))
      exact fin _ (by rw [if_pos g1])
  obtain ⟨ra, σ', ⟨rfl, rfl⟩, hS9⟩ := aa_S_of (avs := [.int (nI k), .int x]) (by decide) 1 [some (.int (nI k)), some (.int x), none] rfl rfl key
  exact hS9
theorem c_thingsE (hW : aa_W r dy σ) {m : Nat} (e : σ.1 7 13 = nI m) : aa_SX mX6_things 1 [.ref 7] σ (some (.int (nI m))) σ := by
  refine aa_E_of (by decide) 0 [some (.ref 7)] rfl rfl ?_
  refine aa_go (aa_aload0 iX6_things_0) (aa_go (aa_getE iX6_things_1 fl_X6_52 (sh_7 hW) rfl e) ?_)
  refine aa_iret iX6_things_4 rfl ?_
  exact ⟨rfl, rfl⟩
theorem c_hasE (hW : aa_W r dy σ) {m k : Nat} (e : σ.1 7 13 = nI m) (hk : k < m) (hm : m ≤ 14) : aa_SX mX6_has 1 [.ref 7, .int (nI k)] σ (some (.int (nI 1))) σ := by
  refine aa_E_of (by decide) 0 [some (.ref 7), some (.int (nI k))] rfl rfl ?_
  refine aa_go (aa_iload1 iX6_has_0) ?_
  refine aa_go (aa_if_ltN iX6_has_1 (by omega)) ?_
  refine aa_go (aa_iload1 iX6_has_4) (aa_go (aa_aload0 iX6_has_5) (aa_go (aa_getE iX6_has_6 fl_X6_52 (sh_7 hW) rfl e) ?_))
  refine aa_ic_geN iX6_has_9 (by omega) (by omega) (fun h2 => ?_) (fun h2 => ?_)
  · skip
    omega
  · skip
    refine aa_go (aa_iconst iX6_has_12 ki_1) (aa_go (aa_goto iX6_has_13) ?_)
    refine aa_zretT iX6_has_17 rfl ?_
    exact ⟨rfl, rfl⟩
theorem c_setWorthE (hW : aa_W r dy σ) {m k : Nat} (e : σ.1 7 13 = nI m) (hk : k < m) (hm : m ≤ 14) (x : Int32) : aa_SX mX6_setWorth 2 [.ref 7, .int (nI k), .int x] σ none (aa_sI σ 8 k x) := by
  refine aa_E_of (by decide) 0 [some (.ref 7), some (.int (nI k)), some (.int (x))] rfl rfl ?_
  refine aa_go (aa_aload0 iX6_setWorth_0) (aa_go (aa_iload1 iX6_setWorth_1) (aa_go (aa_cVi iX6_setWorth_2 (c_hasE hW e hk hm) (by decide) lc_X6_has lk_X6_81 (sh_7 hW) rfl rfl (Nat.le_of_ble_eq_true rfl)) ?_))
  refine aa_if_eqN iX6_setWorth_5 (by omega) (fun h1 => ?_) (fun h1 => ?_)
  · skip
    exact absurd h1 (by decide)
  · skip
-- pc 8 loc [('R', '7'), 'N', 'I'] st []
    refine aa_go (aa_aload0 iX6_setWorth_8) (aa_go (aa_getR iX6_setWorth_9 fl_X6_11 (sh_7 hW) rfl) (aa_go (aa_iload1 iX6_setWorth_12) (aa_go (aa_iload2 iX6_setWorth_13) (aa_go (aa_iasN iX6_setWorth_14 (sh_8 hW) (by omega) (by omega)) ?_))))
    refine aa_vret iX6_setWorth_15 rfl ?_
    exact ⟨rfl, rfl⟩
end
