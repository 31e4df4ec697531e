/-! THE MEMOS: five objects, each with a row that may be made anew -/
theorem aa_W.sI {r : Nat → Nat} {dy : List aa_Shp} {σ : aa_St} (h : aa_W r dy σ) (a k : Nat) (v : Int32) : aa_W r dy (aa_sI σ a k v) := h
theorem aa_W.sL {r : Nat → Nat} {dy : List aa_Shp} {σ : aa_St} (h : aa_W r dy σ) (a k : Nat) (v : Int64) : aa_W r dy (aa_sL σ a k v) := h
theorem aa_W.of2 {r : Nat → Nat} {dy : List aa_Shp} {σ σ' : aa_St} (h : aa_W r dy σ) (e : σ'.2.2 = σ.2.2) : aa_W r dy σ' := by unfold aa_W; rw [e]; exact h
theorem aa_W.nw {r : Nat → Nat} {dy : List aa_Shp} {σ : aa_St} (h : aa_W r dy σ) (x : aa_Shp) (n : Nat) : aa_W r (dy ++ [x]) (aa_nw σ x n) := by
  unfold aa_W aa_nw
  rw [h, List.append_assoc]
theorem aa_SH_len (r : Nat → Nat) : (aa_SH r).length = 87 := rfl
theorem aa_W.at {r : Nat → Nat} {dy : List aa_Shp} {σ : aa_St} (h : aa_W r dy σ) (k : Nat) : σ.2.2.1[87 + k]? = dy[k]? := by
  rw [h, List.getElem?_append_right (by rw [aa_SH_len]; omega), aa_SH_len, Nat.add_sub_cancel_left]
/-- the state behind a row made anew: cell a's place 1 is the version, its place 0 the row, number j of the rows that may be others -/
def aa_fit (σ : aa_St) (a q : Nat) (v : Int32) (N : Nat) : aa_St := aa_sR (aa_nw (aa_sI σ a 1 v) (.inl (1, N)) N) a (.inr (.inl (4, [.ref q, .int 0])))
section
variable {r : Nat → Nat} {dy : List aa_Shp} {σ : aa_St} {P : pl_T} {hs : List Nat}
theorem aa_W.fit25 (h : aa_W r dy σ) (v : Int32) (N : Nat) : aa_W (nup r 0 (87 + dy.length)) (dy ++ [.inl (1, N)]) (aa_fit σ 25 (87 + dy.length) v N) := by
  have h1 := (h.sI 25 1 v).nw (.inl (1, N)) N
  unfold aa_W at h1 ⊢
  unfold aa_fit aa_sR
  rw [h1, List.set_append_left _ _ (by rw [aa_SH_len]; decide)]
  rfl
theorem c_at25 (hW : aa_W r dy σ) {N k : Nat} (hs_r0 : σ.2.2.1[r 0]? = some (.inl (1, N))) (hN : N < 2147483648) (hk : k < N) : aa_SX mX4_at 1 [.ref 25, .int (nI k)] σ (some (.long (σ.2.1 (r 0) k))) σ := by
  refine aa_E_of (by decide) 0 [some (.ref 25), some (.int (nI k))] rfl rfl ?_
  refine aa_go (aa_iload1 iX4_at_0) ?_
  refine aa_go (aa_if_ltN iX4_at_1 (by omega)) ?_
  refine aa_go (aa_iload1 iX4_at_4) (aa_go (aa_aload0 iX4_at_5) (aa_go (aa_getR iX4_at_6 fl_X4_9 (sh_25 hW) rfl) (aa_go (aa_alen iX4_at_9 hs_r0 (by decide)) ?_)))
  refine aa_ic_geN iX4_at_10 (by omega) (by omega) (fun h1 => ?_) (fun h1 => ?_)
  · skip
    omega
  · skip
    refine aa_go (aa_aload0 iX4_at_13) (aa_go (aa_getR iX4_at_14 fl_X4_9 (sh_25 hW) rfl) (aa_go (aa_iload1 iX4_at_17) (aa_go (aa_lalN iX4_at_18 hs_r0 (by omega) (by omega)) (aa_go (aa_goto iX4_at_19) ?_))))
    refine aa_lret iX4_at_23 rfl ?_
    exact ⟨rfl, rfl⟩
theorem c_set25 (hW : aa_W r dy σ) {N k : Nat} (hs_r0 : σ.2.2.1[r 0]? = some (.inl (1, N))) (hN : N < 2147483648) (hk : k < N) (x : Int64) : aa_SX mX4_set 1 [.ref 25, .int (nI k), .long x] σ none (aa_sL σ (r 0) k x) := by
  refine aa_E_of (by decide) 0 [some (.ref 25), some (.int (nI k)), some (.long (x)), none] rfl rfl ?_
  refine aa_go (aa_iload1 iX4_set_0) ?_
  refine aa_go (aa_if_ltN iX4_set_1 (by omega)) ?_
  refine aa_go (aa_iload1 iX4_set_4) (aa_go (aa_aload0 iX4_set_5) (aa_go (aa_getR iX4_set_6 fl_X4_9 (sh_25 hW) rfl) (aa_go (aa_alen iX4_set_9 hs_r0 (by decide)) ?_)))
  refine aa_ic_geN iX4_set_10 (by omega) (by omega) (fun h1 => ?_) (fun h1 => ?_)
  · skip
    omega
  · skip
    refine aa_go (aa_aload0 iX4_set_13) (aa_go (aa_getR iX4_set_14 fl_X4_9 (sh_25 hW) rfl) (aa_go (aa_iload1 iX4_set_17) (aa_go (aa_lload2 iX4_set_18) (aa_go (aa_lasN iX4_set_19 hs_r0 (by omega) (by omega)) ?_))))
    refine aa_vret iX4_set_20 rfl ?_
    exact ⟨rfl, rfl⟩
theorem c_fitE25 (hW : aa_W r dy σ) {v : Nat} (hv : σ.1 7 15 = nI v) (he : σ.1 25 1 = nI v) : aa_SX mX4_fit 2 [.ref 25, .ref 7] σ none σ := by
  refine aa_E_of (by decide) 0 [some (.ref 25), some (.ref 7)] rfl rfl ?_
  refine aa_go (aa_aload0 iX4_fit_0) (aa_go (aa_getE iX4_fit_1 fl_X4_15 (sh_25 hW) rfl he) (aa_go (aa_aload1 iX4_fit_4) (aa_go (aa_cVi iX4_fit_5 (c_X6_version hW hv) (by decide) lc_X6_version lk_X4_19 (sh_7 hW) rfl rfl (Nat.le_of_ble_eq_true rfl)) ?_)))
  refine aa_go (aa_ic_eqT iX4_fit_8 (rfl)) ?_
  refine aa_vret iX4_fit_33 rfl ?_
  exact ⟨rfl, rfl⟩
theorem c_fitN25 (hW : aa_W r dy σ) (hX : XP P hs σ.1) {v : Nat} (hv : σ.1 7 15 = nI v) (he : σ.1 25 1 ≠ nI v) : aa_SX mX4_fit 2 [.ref 25, .ref 7] σ none (aa_fit σ 25 (87 + dy.length) (nI v) (2 ^ (pl_n P + pl_b P))) := by
  have hn := hX.n14
  have hb := hX.b2
  have p16 := pw16 (k := pl_n P + pl_b P) (by omega)
  have p0 := Nat.two_pow_pos (pl_n P + pl_b P)
  have hX1 : XP P hs (aa_sI σ 25 1 (nI v)).1 := hX.fr ⟨rfl, rfl, rfl⟩ (fun q h1 h2 => aa_u2_ne (by omega))
  have hW1 := (hW.sI 25 1 (nI v)).nw (.inl (1, 2 ^ (pl_n P + pl_b P))) (2 ^ (pl_n P + pl_b P))
  have hlen : (aa_sI σ 25 1 (nI v)).2.2.1.length = 87 + dy.length := hW.len
  refine aa_E_of (by decide) 0 [some (.ref 25), some (.ref 7)] rfl rfl ?_
  refine aa_go (aa_aload0 iX4_fit_0) (aa_go (aa_getI iX4_fit_1 fl_X4_15 (sh_25 hW) rfl) (aa_go (aa_aload1 iX4_fit_4) (aa_go (aa_cVi iX4_fit_5 (c_X6_version hW hv) (by decide) lc_X6_version lk_X4_19 (sh_7 hW) rfl rfl (Nat.le_of_ble_eq_true rfl)) ?_)))
  refine aa_go (aa_ic_eqF iX4_fit_8 (he)) ?_
  refine aa_go (aa_aload0 iX4_fit_11) (aa_go (aa_aload1 iX4_fit_12) (aa_go (aa_cVi iX4_fit_13 (c_X6_version hW hv) (by decide) lc_X6_version lk_X4_19 (sh_7 hW) rfl rfl (Nat.le_of_ble_eq_true rfl)) (aa_go (aa_putI iX4_fit_16 fl_X4_15 (fun h => nomatch h) (sh_25 hW) rfl ⟨rfl, rfl⟩) (aa_go (aa_aload0 iX4_fit_19) (aa_go (aa_iconst iX4_fit_20 ki_1) (aa_go (aa_aload1 iX4_fit_21) (aa_go (aa_cVi iX4_fit_22 (c_X6_size (hW.sI 25 1 (nI v)) hX1) (by decide) lc_X6_size lk_X4_24 (sh_7 hW) rfl rfl (Nat.le_of_ble_eq_true rfl)) ?_)))))))
  refine aa_go (aa_mmaxN iX4_fit_25 (by decide) lk_X4_27 (Nat.le_of_ble_eq_true rfl) (by omega) (by omega)) ?_
  refine aa_go (aa_top (y := nI (2 ^ (pl_n P + pl_b P))) (by rw [Nat.max_eq_right p0])) ?_
  refine aa_go (aa_newa (t := 1) iX4_fit_28 la_long (fun _ => rfl) (by decide) rfl (nI_nneg (by omega)) (nI_clamp (by omega)) (by show _ * 8 ≤ _; omega)) ?_
  rw [hlen]
  refine aa_go (aa_putR iX4_fit_30 fl_X4_9 (fun h => nomatch h) (sh_25 hW1) (Nat.le_of_ble_eq_true rfl) (fun _ => ⟨rfl, rfl⟩)) ?_
  refine aa_vret iX4_fit_33 rfl ?_
  exact ⟨rfl, rfl⟩
theorem aa_W.fit27 (h : aa_W r dy σ) (v : Int32) (N : Nat) : aa_W (nup r 1 (87 + dy.length)) (dy ++ [.inl (1, N)]) (aa_fit σ 27 (87 + dy.length) v N) := by
  have h1 := (h.sI 27 1 v).nw (.inl (1, N)) N
  unfold aa_W at h1 ⊢
  unfold aa_fit aa_sR
  rw [h1, List.set_append_left _ _ (by rw [aa_SH_len]; decide)]
  rfl
theorem c_at27 (hW : aa_W r dy σ) {N k : Nat} (hs_r1 : σ.2.2.1[r 1]? = some (.inl (1, N))) (hN : N < 2147483648) (hk : k < N) : aa_SX mX4_at 1 [.ref 27, .int (nI k)] σ (some (.long (σ.2.1 (r 1) k))) σ := by
  refine aa_E_of (by decide) 0 [some (.ref 27), some (.int (nI k))] rfl rfl ?_
  refine aa_go (aa_iload1 iX4_at_0) ?_
  refine aa_go (aa_if_ltN iX4_at_1 (by omega)) ?_
  refine aa_go (aa_iload1 iX4_at_4) (aa_go (aa_aload0 iX4_at_5) (aa_go (aa_getR iX4_at_6 fl_X4_9 (sh_27 hW) rfl) (aa_go (aa_alen iX4_at_9 hs_r1 (by decide)) ?_)))
  refine aa_ic_geN iX4_at_10 (by omega) (by omega) (fun h1 => ?_) (fun h1 => ?_)
  · skip
    omega
  · skip
    refine aa_go (aa_aload0 iX4_at_13) (aa_go (aa_getR iX4_at_14 fl_X4_9 (sh_27 hW) rfl) (aa_go (aa_iload1 iX4_at_17) (aa_go (aa_lalN iX4_at_18 hs_r1 (by omega) (by omega)) (aa_go (aa_goto iX4_at_19) ?_))))
    refine aa_lret iX4_at_23 rfl ?_
    exact ⟨rfl, rfl⟩
theorem c_set27 (hW : aa_W r dy σ) {N k : Nat} (hs_r1 : σ.2.2.1[r 1]? = some (.inl (1, N))) (hN : N < 2147483648) (hk : k < N) (x : Int64) : aa_SX mX4_set 1 [.ref 27, .int (nI k), .long x] σ none (aa_sL σ (r 1) k x) := by
  refine aa_E_of (by decide) 0 [some (.ref 27), some (.int (nI k)), some (.long (x)), none] rfl rfl ?_
  refine aa_go (aa_iload1 iX4_set_0) ?_
  refine aa_go (aa_if_ltN iX4_set_1 (by omega)) ?_
  refine aa_go (aa_iload1 iX4_set_4) (aa_go (aa_aload0 iX4_set_5) (aa_go (aa_getR iX4_set_6 fl_X4_9 (sh_27 hW) rfl) (aa_go (aa_alen iX4_set_9 hs_r1 (by decide)) ?_)))
  refine aa_ic_geN iX4_set_10 (by omega) (by omega) (fun h1 => ?_) (fun h1 => ?_)
  · skip
    omega
  · skip
    refine aa_go (aa_aload0 iX4_set_13) (aa_go (aa_getR iX4_set_14 fl_X4_9 (sh_27 hW) rfl) (aa_go (aa_iload1 iX4_set_17) (aa_go (aa_lload2 iX4_set_18) (aa_go (aa_lasN iX4_set_19 hs_r1 (by omega) (by omega)) ?_))))
    refine aa_vret iX4_set_20 rfl ?_
    exact ⟨rfl, rfl⟩
theorem c_fitE27 (hW : aa_W r dy σ) {v : Nat} (hv : σ.1 7 15 = nI v) (he : σ.1 27 1 = nI v) : aa_SX mX4_fit 2 [.ref 27, .ref 7] σ none σ := by
  refine aa_E_of (by decide) 0 [some (.ref 27), some (.ref 7)] rfl rfl ?_
  refine aa_go (aa_aload0 iX4_fit_0) (aa_go (aa_getE iX4_fit_1 fl_X4_15 (sh_27 hW) rfl he) (aa_go (aa_aload1 iX4_fit_4) (aa_go (aa_cVi iX4_fit_5 (c_X6_version hW hv) (by decide) lc_X6_version lk_X4_19 (sh_7 hW) rfl rfl (Nat.le_of_ble_eq_true rfl)) ?_)))
  refine aa_go (aa_ic_eqT iX4_fit_8 (rfl)) ?_
  refine aa_vret iX4_fit_33 rfl ?_
  exact ⟨rfl, rfl⟩
theorem c_fitN27 (hW : aa_W r dy σ) (hX : XP P hs σ.1) {v : Nat} (hv : σ.1 7 15 = nI v) (he : σ.1 27 1 ≠ nI v) : aa_SX mX4_fit 2 [.ref 27, .ref 7] σ none (aa_fit σ 27 (87 + dy.length) (nI v) (2 ^ (pl_n P + pl_b P))) := by
  have hn := hX.n14
  have hb := hX.b2
  have p16 := pw16 (k := pl_n P + pl_b P) (by omega)
  have p0 := Nat.two_pow_pos (pl_n P + pl_b P)
  have hX1 : XP P hs (aa_sI σ 27 1 (nI v)).1 := hX.fr ⟨rfl, rfl, rfl⟩ (fun q h1 h2 => aa_u2_ne (by omega))
  have hW1 := (hW.sI 27 1 (nI v)).nw (.inl (1, 2 ^ (pl_n P + pl_b P))) (2 ^ (pl_n P + pl_b P))
  have hlen : (aa_sI σ 27 1 (nI v)).2.2.1.length = 87 + dy.length := hW.len
  refine aa_E_of (by decide) 0 [some (.ref 27), some (.ref 7)] rfl rfl ?_
  refine aa_go (aa_aload0 iX4_fit_0) (aa_go (aa_getI iX4_fit_1 fl_X4_15 (sh_27 hW) rfl) (aa_go (aa_aload1 iX4_fit_4) (aa_go (aa_cVi iX4_fit_5 (c_X6_version hW hv) (by decide) lc_X6_version lk_X4_19 (sh_7 hW) rfl rfl (Nat.le_of_ble_eq_true rfl)) ?_)))
  refine aa_go (aa_ic_eqF iX4_fit_8 (he)) ?_
  refine aa_go (aa_aload0 iX4_fit_11) (aa_go (aa_aload1 iX4_fit_12) (aa_go (aa_cVi iX4_fit_13 (c_X6_version hW hv) (by decide) lc_X6_version lk_X4_19 (sh_7 hW) rfl rfl (Nat.le_of_ble_eq_true rfl)) (aa_go (aa_putI iX4_fit_16 fl_X4_15 (fun h => nomatch h) (sh_27 hW) rfl ⟨rfl, rfl⟩) (aa_go (aa_aload0 iX4_fit_19) (aa_go (aa_iconst iX4_fit_20 ki_1) (aa_go (aa_aload1 iX4_fit_21) (aa_go (aa_cVi iX4_fit_22 (c_X6_size (hW.sI 27 1 (nI v)) hX1) (by decide) lc_X6_size lk_X4_24 (sh_7 hW) rfl rfl (Nat.le_of_ble_eq_true rfl)) ?_)))))))
  refine aa_go (aa_mmaxN iX4_fit_25 (by decide) lk_X4_27 (Nat.le_of_ble_eq_true rfl) (by omega) (by omega)) ?_
  refine aa_go (aa_top (y := nI (2 ^ (pl_n P + pl_b P))) (by rw [Nat.max_eq_right p0])) ?_
  refine aa_go (aa_newa (t := 1) iX4_fit_28 la_long (fun _ => rfl) (by decide) rfl (nI_nneg (by omega)) (nI_clamp (by omega)) (by show _ * 8 ≤ _; omega)) ?_
  rw [hlen]
  refine aa_go (aa_putR iX4_fit_30 fl_X4_9 (fun h => nomatch h) (sh_27 hW1) (Nat.le_of_ble_eq_true rfl) (fun _ => ⟨rfl, rfl⟩)) ?_
  refine aa_vret iX4_fit_33 rfl ?_
  exact ⟨rfl, rfl⟩
theorem aa_W.fit30 (h : aa_W r dy σ) (v : Int32) (N : Nat) : aa_W (nup r 2 (87 + dy.length)) (dy ++ [.inl (1, N)]) (aa_fit σ 30 (87 + dy.length) v N) := by
  have h1 := (h.sI 30 1 v).nw (.inl (1, N)) N
  unfold aa_W at h1 ⊢
  unfold aa_fit aa_sR
  rw [h1, List.set_append_left _ _ (by rw [aa_SH_len]; decide)]
  rfl
theorem c_at30 (hW : aa_W r dy σ) {N k : Nat} (hs_r2 : σ.2.2.1[r 2]? = some (.inl (1, N))) (hN : N < 2147483648) (hk : k < N) : aa_SX mX4_at 1 [.ref 30, .int (nI k)] σ (some (.long (σ.2.1 (r 2) k))) σ := by
  refine aa_E_of (by decide) 0 [some (.ref 30), some (.int (nI k))] rfl rfl ?_
  refine aa_go (aa_iload1 iX4_at_0) ?_
  refine aa_go (aa_if_ltN iX4_at_1 (by omega)) ?_
  refine aa_go (aa_iload1 iX4_at_4) (aa_go (aa_aload0 iX4_at_5) (aa_go (aa_getR iX4_at_6 fl_X4_9 (sh_30 hW) rfl) (aa_go (aa_alen iX4_at_9 hs_r2 (by decide)) ?_)))
  refine aa_ic_geN iX4_at_10 (by omega) (by omega) (fun h1 => ?_) (fun h1 => ?_)
  · skip
    omega
  · skip
    refine aa_go (aa_aload0 iX4_at_13) (aa_go (aa_getR iX4_at_14 fl_X4_9 (sh_30 hW) rfl) (aa_go (aa_iload1 iX4_at_17) (aa_go (aa_lalN iX4_at_18 hs_r2 (by omega) (by omega)) (aa_go (aa_goto iX4_at_19) ?_))))
    refine aa_lret iX4_at_23 rfl ?_
    exact ⟨rfl, rfl⟩
theorem c_set30 (hW : aa_W r dy σ) {N k : Nat} (hs_r2 : σ.2.2.1[r 2]? = some (.inl (1, N))) (hN : N < 2147483648) (hk : k < N) (x : Int64) : aa_SX mX4_set 1 [.ref 30, .int (nI k), .long x] σ none (aa_sL σ (r 2) k x) := by
  refine aa_E_of (by decide) 0 [some (.ref 30), some (.int (nI k)), some (.long (x)), none] rfl rfl ?_
  refine aa_go (aa_iload1 iX4_set_0) ?_
  refine aa_go (aa_if_ltN iX4_set_1 (by omega)) ?_
  refine aa_go (aa_iload1 iX4_set_4) (aa_go (aa_aload0 iX4_set_5) (aa_go (aa_getR iX4_set_6 fl_X4_9 (sh_30 hW) rfl) (aa_go (aa_alen iX4_set_9 hs_r2 (by decide)) ?_)))
  refine aa_ic_geN iX4_set_10 (by omega) (by omega) (fun h1 => ?_) (fun h1 => ?_)
  · skip
    omega
  · skip
    refine aa_go (aa_aload0 iX4_set_13) (aa_go (aa_getR iX4_set_14 fl_X4_9 (sh_30 hW) rfl) (aa_go (aa_iload1 iX4_set_17) (aa_go (aa_lload2 iX4_set_18) (aa_go (aa_lasN iX4_set_19 hs_r2 (by omega) (by omega)) ?_))))
    refine aa_vret iX4_set_20 rfl ?_
    exact ⟨rfl, rfl⟩
theorem c_fitE30 (hW : aa_W r dy σ) {v : Nat} (hv : σ.1 7 15 = nI v) (he : σ.1 30 1 = nI v) : aa_SX mX4_fit 2 [.ref 30, .ref 7] σ none σ := by
  refine aa_E_of (by decide) 0 [some (.ref 30), some (.ref 7)] rfl rfl ?_
  refine aa_go (aa_aload0 iX4_fit_0) (aa_go (aa_getE iX4_fit_1 fl_X4_15 (sh_30 hW) rfl he) (aa_go (aa_aload1 iX4_fit_4) (aa_go (aa_cVi iX4_fit_5 (c_X6_version hW hv) (by decide) lc_X6_version lk_X4_19 (sh_7 hW) rfl rfl (Nat.le_of_ble_eq_true rfl)) ?_)))
  refine aa_go (aa_ic_eqT iX4_fit_8 (rfl)) ?_
  refine aa_vret iX4_fit_33 rfl ?_
  exact ⟨rfl, rfl⟩
theorem c_fitN30 (hW : aa_W r dy σ) (hX : XP P hs σ.1) {v : Nat} (hv : σ.1 7 15 = nI v) (he : σ.1 30 1 ≠ nI v) : aa_SX mX4_fit 2 [.ref 30, .ref 7] σ none (aa_fit σ 30 (87 + dy.length) (nI v) (2 ^ (pl_n P + pl_b P))) := by
  have hn := hX.n14
  have hb := hX.b2
  have p16 := pw16 (k := pl_n P + pl_b P) (by omega)
  have p0 := Nat.two_pow_pos (pl_n P + pl_b P)
  have hX1 : XP P hs (aa_sI σ 30 1 (nI v)).1 := hX.fr ⟨rfl, rfl, rfl⟩ (fun q h1 h2 => aa_u2_ne (by omega))
  have hW1 := (hW.sI 30 1 (nI v)).nw (.inl (1, 2 ^ (pl_n P + pl_b P))) (2 ^ (pl_n P + pl_b P))
  have hlen : (aa_sI σ 30 1 (nI v)).2.2.1.length = 87 + dy.length := hW.len
  refine aa_E_of (by decide) 0 [some (.ref 30), some (.ref 7)] rfl rfl ?_
  refine aa_go (aa_aload0 iX4_fit_0) (aa_go (aa_getI iX4_fit_1 fl_X4_15 (sh_30 hW) rfl) (aa_go (aa_aload1 iX4_fit_4) (aa_go (aa_cVi iX4_fit_5 (c_X6_version hW hv) (by decide) lc_X6_version lk_X4_19 (sh_7 hW) rfl rfl (Nat.le_of_ble_eq_true rfl)) ?_)))
  refine aa_go (aa_ic_eqF iX4_fit_8 (he)) ?_
  refine aa_go (aa_aload0 iX4_fit_11) (aa_go (aa_aload1 iX4_fit_12) (aa_go (aa_cVi iX4_fit_13 (c_X6_version hW hv) (by decide) lc_X6_version lk_X4_19 (sh_7 hW) rfl rfl (Nat.le_of_ble_eq_true rfl)) (aa_go (aa_putI iX4_fit_16 fl_X4_15 (fun h => nomatch h) (sh_30 hW) rfl ⟨rfl, rfl⟩) (aa_go (aa_aload0 iX4_fit_19) (aa_go (aa_iconst iX4_fit_20 ki_1) (aa_go (aa_aload1 iX4_fit_21) (aa_go (aa_cVi iX4_fit_22 (c_X6_size (hW.sI 30 1 (nI v)) hX1) (by decide) lc_X6_size lk_X4_24 (sh_7 hW) rfl rfl (Nat.le_of_ble_eq_true rfl)) ?_)))))))
  refine aa_go (aa_mmaxN iX4_fit_25 (by decide) lk_X4_27 (Nat.le_of_ble_eq_true rfl) (by omega) (by omega)) ?_
  refine aa_go (aa_top (y := nI (2 ^ (pl_n P + pl_b P))) (by rw [Nat.max_eq_right p0])) ?_
  refine aa_go (aa_newa (t := 1) iX4_fit_28 la_long (fun _ => rfl) (by decide) rfl (nI_nneg (by omega)) (nI_clamp (by omega)) (by show _ * 8 ≤ _; omega)) ?_
  rw [hlen]
  refine aa_go (aa_putR iX4_fit_30 fl_X4_9 (fun h => nomatch h) (sh_30 hW1) (Nat.le_of_ble_eq_true rfl) (fun _ => ⟨rfl, rfl⟩)) ?_
  refine aa_vret iX4_fit_33 rfl ?_
  exact ⟨rfl, rfl⟩
theorem aa_W.fit39 (h : aa_W r dy σ) (v : Int32) (N : Nat) : aa_W (nup r 4 (87 + dy.length)) (dy ++ [.inl (1, N)]) (aa_fit σ 39 (87 + dy.length) v N) := by
  have h1 := (h.sI 39 1 v).nw (.inl (1, N)) N
  unfold aa_W at h1 ⊢
  unfold aa_fit aa_sR
  rw [h1, List.set_append_left _ _ (by rw [aa_SH_len]; decide)]
  rfl
theorem c_at39 (hW : aa_W r dy σ) {N k : Nat} (hs_r4 : σ.2.2.1[r 4]? = some (.inl (1, N))) (hN : N < 2147483648) (hk : k < N) : aa_SX mX4_at 1 [.ref 39, .int (nI k)] σ (some (.long (σ.2.1 (r 4) k))) σ := by
  refine aa_E_of (by decide) 0 [some (.ref 39), some (.int (nI k))] rfl rfl ?_
  refine aa_go (aa_iload1 iX4_at_0) ?_
  refine aa_go (aa_if_ltN iX4_at_1 (by omega)) ?_
  refine aa_go (aa_iload1 iX4_at_4) (aa_go (aa_aload0 iX4_at_5) (aa_go (aa_getR iX4_at_6 fl_X4_9 (sh_39 hW) rfl) (aa_go (aa_alen iX4_at_9 hs_r4 (by decide)) ?_)))
  refine aa_ic_geN iX4_at_10 (by omega) (by omega) (fun h1 => ?_) (fun h1 => ?_)
  · skip
    omega
  · skip
    refine aa_go (aa_aload0 iX4_at_13) (aa_go (aa_getR iX4_at_14 fl_X4_9 (sh_39 hW) rfl) (aa_go (aa_iload1 iX4_at_17) (aa_go (aa_lalN iX4_at_18 hs_r4 (by omega) (by omega)) (aa_go (aa_goto iX4_at_19) ?_))))
    refine aa_lret iX4_at_23 rfl ?_
    exact ⟨rfl, rfl⟩
theorem c_set39 (hW : aa_W r dy σ) {N k : Nat} (hs_r4 : σ.2.2.1[r 4]? = some (.inl (1, N))) (hN : N < 2147483648) (hk : k < N) (x : Int64) : aa_SX mX4_set 1 [.ref 39, .int (nI k), .long x] σ none (aa_sL σ (r 4) k x) := by
  refine aa_E_of (by decide) 0 [some (.ref 39), some (.int (nI k)), some (.long (x)), none] rfl rfl ?_
  refine aa_go (aa_iload1 iX4_set_0) ?_
  refine aa_go (aa_if_ltN iX4_set_1 (by omega)) ?_
  refine aa_go (aa_iload1 iX4_set_4) (aa_go (aa_aload0 iX4_set_5) (aa_go (aa_getR iX4_set_6 fl_X4_9 (sh_39 hW) rfl) (aa_go (aa_alen iX4_set_9 hs_r4 (by decide)) ?_)))
  refine aa_ic_geN iX4_set_10 (by omega) (by omega) (fun h1 => ?_) (fun h1 => ?_)
  · skip
    omega
  · skip
    refine aa_go (aa_aload0 iX4_set_13) (aa_go (aa_getR iX4_set_14 fl_X4_9 (sh_39 hW) rfl) (aa_go (aa_iload1 iX4_set_17) (aa_go (aa_lload2 iX4_set_18) (aa_go (aa_lasN iX4_set_19 hs_r4 (by omega) (by omega)) ?_))))
    refine aa_vret iX4_set_20 rfl ?_
    exact ⟨rfl, rfl⟩
theorem c_fitE39 (hW : aa_W r dy σ) {v : Nat} (hv : σ.1 7 15 = nI v) (he : σ.1 39 1 = nI v) : aa_SX mX4_fit 2 [.ref 39, .ref 7] σ none σ := by
  refine aa_E_of (by decide) 0 [some (.ref 39), some (.ref 7)] rfl rfl ?_
  refine aa_go (aa_aload0 iX4_fit_0) (aa_go (aa_getE iX4_fit_1 fl_X4_15 (sh_39 hW) rfl he) (aa_go (aa_aload1 iX4_fit_4) (aa_go (aa_cVi iX4_fit_5 (c_X6_version hW hv) (by decide) lc_X6_version lk_X4_19 (sh_7 hW) rfl rfl (Nat.le_of_ble_eq_true rfl)) ?_)))
  refine aa_go (aa_ic_eqT iX4_fit_8 (rfl)) ?_
  refine aa_vret iX4_fit_33 rfl ?_
  exact ⟨rfl, rfl⟩
theorem c_fitN39 (hW : aa_W r dy σ) (hX : XP P hs σ.1) {v : Nat} (hv : σ.1 7 15 = nI v) (he : σ.1 39 1 ≠ nI v) : aa_SX mX4_fit 2 [.ref 39, .ref 7] σ none (aa_fit σ 39 (87 + dy.length) (nI v) (2 ^ (pl_n P + pl_b P))) := by
  have hn := hX.n14
  have hb := hX.b2
  have p16 := pw16 (k := pl_n P + pl_b P) (by omega)
  have p0 := Nat.two_pow_pos (pl_n P + pl_b P)
  have hX1 : XP P hs (aa_sI σ 39 1 (nI v)).1 := hX.fr ⟨rfl, rfl, rfl⟩ (fun q h1 h2 => aa_u2_ne (by omega))
  have hW1 := (hW.sI 39 1 (nI v)).nw (.inl (1, 2 ^ (pl_n P + pl_b P))) (2 ^ (pl_n P + pl_b P))
  have hlen : (aa_sI σ 39 1 (nI v)).2.2.1.length = 87 + dy.length := hW.len
  refine aa_E_of (by decide) 0 [some (.ref 39), some (.ref 7)] rfl rfl ?_
  refine aa_go (aa_aload0 iX4_fit_0) (aa_go (aa_getI iX4_fit_1 fl_X4_15 (sh_39 hW) rfl) (aa_go (aa_aload1 iX4_fit_4) (aa_go (aa_cVi iX4_fit_5 (c_X6_version hW hv) (by decide) lc_X6_version lk_X4_19 (sh_7 hW) rfl rfl (Nat.le_of_ble_eq_true rfl)) ?_)))
  refine aa_go (aa_ic_eqF iX4_fit_8 (he)) ?_
  refine aa_go (aa_aload0 iX4_fit_11) (aa_go (aa_aload1 iX4_fit_12) (aa_go (aa_cVi iX4_fit_13 (c_X6_version hW hv) (by decide) lc_X6_version lk_X4_19 (sh_7 hW) rfl rfl (Nat.le_of_ble_eq_true rfl)) (aa_go (aa_putI iX4_fit_16 fl_X4_15 (fun h => nomatch h) (sh_39 hW) rfl ⟨rfl, rfl⟩) (aa_go (aa_aload0 iX4_fit_19) (aa_go (aa_iconst iX4_fit_20 ki_1) (aa_go (aa_aload1 iX4_fit_21) (aa_go (aa_cVi iX4_fit_22 (c_X6_size (hW.sI 39 1 (nI v)) hX1) (by decide) lc_X6_size lk_X4_24 (sh_7 hW) rfl rfl (Nat.le_of_ble_eq_true rfl)) ?_)))))))
  refine aa_go (aa_mmaxN iX4_fit_25 (by decide) lk_X4_27 (Nat.le_of_ble_eq_true rfl) (by omega) (by omega)) ?_
  refine aa_go (aa_top (y := nI (2 ^ (pl_n P + pl_b P))) (by rw [Nat.max_eq_right p0])) ?_
  refine aa_go (aa_newa (t := 1) iX4_fit_28 la_long (fun _ => rfl) (by decide) rfl (nI_nneg (by omega)) (nI_clamp (by omega)) (by show _ * 8 ≤ _; omega)) ?_
  rw [hlen]
  refine aa_go (aa_putR iX4_fit_30 fl_X4_9 (fun h => nomatch h) (sh_39 hW1) (Nat.le_of_ble_eq_true rfl) (fun _ => ⟨rfl, rfl⟩)) ?_
  refine aa_vret iX4_fit_33 rfl ?_
  exact ⟨rfl, rfl⟩
theorem aa_W.fit47 (h : aa_W r dy σ) (v : Int32) (N : Nat) : aa_W (nup r 5 (87 + dy.length)) (dy ++ [.inl (1, N)]) (aa_fit σ 47 (87 + dy.length) v N) := by
  have h1 := (h.sI 47 1 v).nw (.inl (1, N)) N
  unfold aa_W at h1 ⊢
  unfold aa_fit aa_sR
  rw [h1, List.set_append_left _ _ (by rw [aa_SH_len]; decide)]
  rfl
theorem c_at47 (hW : aa_W r dy σ) {N k : Nat} (hs_r5 : σ.2.2.1[r 5]? = some (.inl (1, N))) (hN : N < 2147483648) (hk : k < N) : aa_SX mX4_at 1 [.ref 47, .int (nI k)] σ (some (.long (σ.2.1 (r 5) k))) σ := by
  refine aa_E_of (by decide) 0 [some (.ref 47), some (.int (nI k))] rfl rfl ?_
  refine aa_go (aa_iload1 iX4_at_0) ?_
  refine aa_go (aa_if_ltN iX4_at_1 (by omega)) ?_
  refine aa_go (aa_iload1 iX4_at_4) (aa_go (aa_aload0 iX4_at_5) (aa_go (aa_getR iX4_at_6 fl_X4_9 (sh_47 hW) rfl) (aa_go (aa_alen iX4_at_9 hs_r5 (by decide)) ?_)))
  refine aa_ic_geN iX4_at_10 (by omega) (by omega) (fun h1 => ?_) (fun h1 => ?_)
  · skip
    omega
  · skip
    refine aa_go (aa_aload0 iX4_at_13) (aa_go (aa_getR iX4_at_14 fl_X4_9 (sh_47 hW) rfl) (aa_go (aa_iload1 iX4_at_17) (aa_go (aa_lalN iX4_at_18 hs_r5 (by omega) (by omega)) (aa_go (aa_goto iX4_at_19) ?_))))
    refine aa_lret iX4_at_23 rfl ?_
    exact ⟨rfl, rfl⟩
theorem c_set47 (hW : aa_W r dy σ) {N k : Nat} (hs_r5 : σ.2.2.1[r 5]? = some (.inl (1, N))) (hN : N < 2147483648) (hk : k < N) (x : Int64) : aa_SX mX4_set 1 [.ref 47, .int (nI k), .long x] σ none (aa_sL σ (r 5) k x) := by
  refine aa_E_of (by decide) 0 [some (.ref 47), some (.int (nI k)), some (.long (x)), none] rfl rfl ?_
  refine aa_go (aa_iload1 iX4_set_0) ?_
  refine aa_go (aa_if_ltN iX4_set_1 (by omega)) ?_
  refine aa_go (aa_iload1 iX4_set_4) (aa_go (aa_aload0 iX4_set_5) (aa_go (aa_getR iX4_set_6 fl_X4_9 (sh_47 hW) rfl) (aa_go (aa_alen iX4_set_9 hs_r5 (by decide)) ?_)))
  refine aa_ic_geN iX4_set_10 (by omega) (by omega) (fun h1 => ?_) (fun h1 => ?_)
  · skip
    omega
  · skip
    refine aa_go (aa_aload0 iX4_set_13) (aa_go (aa_getR iX4_set_14 fl_X4_9 (sh_47 hW) rfl) (aa_go (aa_iload1 iX4_set_17) (aa_go (aa_lload2 iX4_set_18) (aa_go (aa_lasN iX4_set_19 hs_r5 (by omega) (by omega)) ?_))))
    refine aa_vret iX4_set_20 rfl ?_
    exact ⟨rfl, rfl⟩
theorem c_fitE47 (hW : aa_W r dy σ) {v : Nat} (hv : σ.1 7 15 = nI v) (he : σ.1 47 1 = nI v) : aa_SX mX4_fit 2 [.ref 47, .ref 7] σ none σ := by
  refine aa_E_of (by decide) 0 [some (.ref 47), some (.ref 7)] rfl rfl ?_
  refine aa_go (aa_aload0 iX4_fit_0) (aa_go (aa_getE iX4_fit_1 fl_X4_15 (sh_47 hW) rfl he) (aa_go (aa_aload1 iX4_fit_4) (aa_go (aa_cVi iX4_fit_5 (c_X6_version hW hv) (by decide) lc_X6_version lk_X4_19 (sh_7 hW) rfl rfl (Nat.le_of_ble_eq_true rfl)) ?_)))
  refine aa_go (aa_ic_eqT iX4_fit_8 (rfl)) ?_
  refine aa_vret iX4_fit_33 rfl ?_
  exact ⟨rfl, rfl⟩
theorem c_fitN47 (hW : aa_W r dy σ) (hX : XP P hs σ.1) {v : Nat} (hv : σ.1 7 15 = nI v) (he : σ.1 47 1 ≠ nI v) : aa_SX mX4_fit 2 [.ref 47, .ref 7] σ none (aa_fit σ 47 (87 + dy.length) (nI v) (2 ^ (pl_n P + pl_b P))) := by
  have hn := hX.n14
  have hb := hX.b2
  have p16 := pw16 (k := pl_n P + pl_b P) (by omega)
  have p0 := Nat.two_pow_pos (pl_n P + pl_b P)
  have hX1 : XP P hs (aa_sI σ 47 1 (nI v)).1 := hX.fr ⟨rfl, rfl, rfl⟩ (fun q h1 h2 => aa_u2_ne (by omega))
  have hW1 := (hW.sI 47 1 (nI v)).nw (.inl (1, 2 ^ (pl_n P + pl_b P))) (2 ^ (pl_n P + pl_b P))
  have hlen : (aa_sI σ 47 1 (nI v)).2.2.1.length = 87 + dy.length := hW.len
  refine aa_E_of (by decide) 0 [some (.ref 47), some (.ref 7)] rfl rfl ?_
  refine aa_go (aa_aload0 iX4_fit_0) (aa_go (aa_getI iX4_fit_1 fl_X4_15 (sh_47 hW) rfl) (aa_go (aa_aload1 iX4_fit_4) (aa_go (aa_cVi iX4_fit_5 (c_X6_version hW hv) (by decide) lc_X6_version lk_X4_19 (sh_7 hW) rfl rfl (Nat.le_of_ble_eq_true rfl)) ?_)))
  refine aa_go (aa_ic_eqF iX4_fit_8 (he)) ?_
  refine aa_go (aa_aload0 iX4_fit_11) (aa_go (aa_aload1 iX4_fit_12) (aa_go (aa_cVi iX4_fit_13 (c_X6_version hW hv) (by decide) lc_X6_version lk_X4_19 (sh_7 hW) rfl rfl (Nat.le_of_ble_eq_true rfl)) (aa_go (aa_putI iX4_fit_16 fl_X4_15 (fun h => nomatch h) (sh_47 hW) rfl ⟨rfl, rfl⟩) (aa_go (aa_aload0 iX4_fit_19) (aa_go (aa_iconst iX4_fit_20 ki_1) (aa_go (aa_aload1 iX4_fit_21) (aa_go (aa_cVi iX4_fit_22 (c_X6_size (hW.sI 47 1 (nI v)) hX1) (by decide) lc_X6_size lk_X4_24 (sh_7 hW) rfl rfl (Nat.le_of_ble_eq_true rfl)) ?_)))))))
  refine aa_go (aa_mmaxN iX4_fit_25 (by decide) lk_X4_27 (Nat.le_of_ble_eq_true rfl) (by omega) (by omega)) ?_
  refine aa_go (aa_top (y := nI (2 ^ (pl_n P + pl_b P))) (by rw [Nat.max_eq_right p0])) ?_
  refine aa_go (aa_newa (t := 1) iX4_fit_28 la_long (fun _ => rfl) (by decide) rfl (nI_nneg (by omega)) (nI_clamp (by omega)) (by show _ * 8 ≤ _; omega)) ?_
  rw [hlen]
  refine aa_go (aa_putR iX4_fit_30 fl_X4_9 (fun h => nomatch h) (sh_47 hW1) (Nat.le_of_ble_eq_true rfl) (fun _ => ⟨rfl, rfl⟩)) ?_
  refine aa_vret iX4_fit_33 rfl ?_
  exact ⟨rfl, rfl⟩
end
