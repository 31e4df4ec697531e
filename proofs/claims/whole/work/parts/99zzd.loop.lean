/-! THE LAW'S LOOP, AND ITS BEGINNING -/
theorem JI.rm {N : Nat} {σ : aa_St} (h : JI N σ) : σ.2.2.2.1 ≤ 2000 + 100 * N ∧ σ.2.2.2.2 ≤ 6000000 + 100 * N := by
  obtain ⟨P, tx, n, g, kp, lk, tl, rw, Q, r, dy, ⟨v, W, S, R, hX⟩, hM, hQ⟩ := h
  obtain ⟨c1, c2⟩ := hX.2.2.2.2.2.2.2.1
  exact ⟨by omega, by omega⟩
theorem lg_cmp5 {n i : Nat} (hn : n ≤ 320) (hi : i ≤ 1000) : nI n - nI 5 < nI i ↔ n < i + 5 := by
  by_cases h : 5 ≤ n
  · rw [nI_sub h, nI_lti (by omega) (by omega)]; omega
  · have h0 : nI n - nI 5 < 0 := by
      have : n = 0 ∨ n = 1 ∨ n = 2 ∨ n = 3 ∨ n = 4 := by omega
      rcases this with rfl | rfl | rfl | rfl | rfl <;> decide
    exact ⟨fun _ => by omega, fun _ => Int32.lt_of_lt_of_le h0 (nI_ge0 (by omega))⟩
section
variable {x : lg_X} {n : Nat} {f : Nat → Int32} {N i : Nat} {σ : aa_St} {v5 v6 v7 : Option Value}
def lg_big (x : lg_X) : Prop := ∀ σ σ1 : aa_St, σ1.2.2.2.1 ≤ 8500 → σ1.2.2.2.2 ≤ 6006500 → lg_rm x σ σ1
/-- at the head: out, or another round -/
theorem lg_head (ok : lg_ok n f x) (hn : n ≤ 320) (hi : i ≤ 1000) {E : Nat → aa_L → List Value → aa_St → Prop} (k1 : n < i + 5 → lg_V x 1348 (lg_ls i v5 v6 v7) [] σ E) (k2 : ¬ n < i + 5 → lg_V x 32 (lg_ls i v5 v6 v7) [] σ E) : lg_V x 23 (lg_ls i v5 v6 v7) [] σ E := by
  refine lg_go ok (aa_iload4 iL_law_23) (lg_go ok (aa_aload0F iL_law_25) (lg_gg (lg_len ok iL_law_26) (lg_go ok (aa_iconst (v := nI 5) iL_law_27 rfl) (lg_go ok (aa_isub iL_law_28) ?_))))
  by_cases c : n < i + 5
  · exact lg_go ok (aa_ic_gtT iL_law_29 ((lg_cmp5 hn hi).mpr c)) (k1 c)
  · exact lg_go ok (aa_ic_gtF iL_law_29 (fun q => c ((lg_cmp5 hn hi).mp q))) (k2 c)
theorem lg_round (ok : lg_ok n f x) (h : JI N σ) (hN : N ≤ 64) (hi : i + 5 ≤ n) (hn : n ≤ 320) : lg_V x 32 (lg_ls i v5 v6 v7) [] σ (lg_E i N) := by
  refine lg_go ok (aa_aload0F iL_law_32) (lg_go ok (aa_iload4 iL_law_33) (lg_gg (lg_scr ok iL_law_35 (by omega) (by omega)) (lg_go ok (aa_bipush (v := nI 63) iL_law_36 (by decide)) (lg_go ok (aa_iand iL_law_38) ?_))))
  obtain ⟨a, ha, e⟩ := i32_nat (f i)
  have hb : a &&& 63 ≤ 63 := Nat.and_le_right
  exact lg_go ok (aa_top (y := nI (a &&& 63)) (by rw [e, nI_and])) (lc_all ok h hN hi hn (by omega))
theorem lg_out (ok : lg_ok n f x) (hbg : lg_big x) (h : JI N σ) (hN : N ≤ 64) (hn : n ≤ 320) (hi : i ≤ 1000) (c : n < i + 5) (K : lg_C x 1349 (lg_ls i v5 v6 v7) [.int (nI 1)] σ) : lg_C x 23 (lg_ls i v5 v6 v7) [] σ := by
  have key : lg_V x 23 (lg_ls i v5 v6 v7) [] σ (fun pc ls st σ1 => pc = 1349 ∧ ls = lg_ls i v5 v6 v7 ∧ st = [.int (nI 1)] ∧ σ1 = σ) :=
    lg_head ok hn hi (fun _ => lg_go ok (aa_iconst (v := nI 1) iL_law_1348 rfl) (lg_end ⟨rfl, rfl, rfl, rfl⟩)) (fun q => absurd c q)
  obtain ⟨pc1, ls1, st1, σ1, ⟨rfl, rfl, rfl, rfl⟩, -, -, k3⟩ := key
  have := h.rm
  exact k3 (hbg _ _ (by omega) (by omega)) K
theorem lg_loop (ok : lg_ok n f x) (hbg : lg_big x) (hn : n ≤ 320) (K : ∀ (N i : Nat) (σ : aa_St) (v5 v6 v7 : Option Value), N ≤ 64 → JI N σ → lg_C x 1349 (lg_ls i v5 v6 v7) [.int (nI 1)] σ) :
    ∀ (t N i : Nat) (σ : aa_St) (v5 v6 v7 : Option Value), n < i + 5 + 5 * t → i = 5 * N → N ≤ 64 → JI N σ → lg_C x 23 (lg_ls i v5 v6 v7) [] σ := by
  intro t
  induction t with
  | zero => exact fun N i σ v5 v6 v7 h1 h2 h3 h4 => lg_out ok hbg h4 h3 hn (by omega) (by omega) (K N i σ v5 v6 v7 h3 h4)
  | succ t ih =>
    intro N i σ v5 v6 v7 h1 h2 h3 h4
    by_cases c : n < i + 5
    · exact lg_out ok hbg h4 h3 hn (by omega) c (K N i σ v5 v6 v7 h3 h4)
    · have key : lg_V x 23 (lg_ls i v5 v6 v7) [] σ (lg_E i N) := lg_head ok hn (by omega) (fun q => absurd q c) (fun _ => lg_round ok h4 h3 (by omega) hn)
      obtain ⟨pc1, ls1, st1, σ1, ⟨rfl, rfl, hJ, u5, u6, u7, rfl⟩, -, -, k3⟩ := key
      have := hJ.rm
      exact k3 (hbg _ _ (by omega) (by omega)) (ih (N + 1) (i + 5) σ1 u5 u6 u7 (by omega) (by omega) (by omega) hJ)
set_option maxRecDepth 20000 in
/-- the beginning: the two objects, the row of one long -/
theorem lg_begin (ok : lg_ok n f x) : lg_G x 0 [some (.float 1), none, none, none, none, none, none, none] [] (cI0, cL0, cS0, 0, 0) 23 (lg_ls 0 none none none) [] σ0 := by
  have key : lg_V x 0 [some (.float 1), none, none, none, none, none, none, none] [] (cI0, cL0, cS0, 0, 0) (fun pc ls st σ => pc = 23 ∧ ls = lg_ls 0 none none none ∧ st = [] ∧ σ = σ0) := by
    refine lg_go ok ((aa_new iL_law_0 nl_L_8).to (st2 := [.ref 0]) (σ2 := (cI0, cL0, cS1, 1, 14)) rfl (nw_tup (k := 0) _ _ rfl (fun _ => rfl) (fun _ => rfl))) ?_
    refine lg_go ok (aa_dup iL_law_3 rfl) (lg_go ok (aa_callI iL_law_4 n19_X11_init (by decide) lc_X11_init lk_L_19 rfl (Nat.le_of_ble_eq_true rfl)) (lg_go ok (aa_astore1 iL_law_7 rfl (by decide)) ?_))
    refine lg_go ok ((aa_new iL_law_8 nl_L_20).to (st2 := [.ref 63]) (σ2 := (cI9, cL1, cS137, 64, 1099)) rfl (nw_tup (k := 63) _ _ rfl (fun _ => rfl) (fun _ => rfl))) ?_
    refine lg_go ok (aa_dup iL_law_11 rfl) (lg_go ok (aa_callI iL_law_12 n20_X12_init (by decide) lc_X12_init lk_L_22 rfl (Nat.le_of_ble_eq_true rfl)) (lg_go ok (aa_astore2 iL_law_15 rfl (by decide)) ?_))
    refine lg_go ok (aa_iconst (v := nI 1) iL_law_16 rfl) ?_
    refine lg_go ok ((aa_newa (t := 1) (N := 1) iL_law_17 la_long (fun _ => rfl) (by decide) rfl (by decide) (by decide) (by decide)).to (st2 := [.ref 86]) (σ2 := (cI11, cL1, cS182, 87, 755162)) rfl (nw_tup (k := 86) _ _ rfl (fun _ => rfl) (fun _ => rfl))) ?_
    exact lg_go ok (aa_astore3 iL_law_19 rfl (by decide)) (lg_go ok (aa_iconst (v := nI 0) iL_law_20 rfl) (lg_go ok (aa_istore4 iL_law_21 rfl (by decide)) (lg_end ⟨rfl, rfl, rfl, rfl⟩)))
  obtain ⟨pc1, ls1, st1, σ1, ⟨rfl, rfl, rfl, rfl⟩, k⟩ := key
  exact k
theorem lg_whole (ok : lg_ok n f x) (hbg : lg_big x) (hn : n ≤ 320) (K : ∀ (N i : Nat) (σ : aa_St) (v5 v6 v7 : Option Value), N ≤ 64 → JI N σ → lg_C x 1349 (lg_ls i v5 v6 v7) [.int (nI 1)] σ) : lg_C x 0 [some (.float 1), none, none, none, none, none, none, none] [] (cI0, cL0, cS0, 0, 0) :=
  (lg_begin ok).2.2 (hbg _ _ (by decide) (by decide)) (lg_loop ok hbg hn K 64 0 0 σ0 none none none (by omega) rfl (by decide) ji_0)
end
