/-! THE REFERENCE: joins -/
theorem xs_a (l : List Nat) (a : Nat) (f : Nat → Nat) : xs (l ++ [a]) f = xs l f ^^^ f a := by
  rw [xs, xs, List.map_append, List.foldl_append]; rfl
theorem flt_t {c : Nat → Bool} {m : Nat} (h : c m = true) : (List.range (m + 1)).filter c = (List.range m).filter c ++ [m] := by
  rw [List.range_succ, List.filter_append]; simp [h]
theorem flt_f {c : Nat → Bool} {m : Nat} (h : c m = false) : (List.range (m + 1)).filter c = (List.range m).filter c := by
  rw [List.range_succ, List.filter_append]; simp [h]
section
variable {r : Nat → Nat} {dy : List aa_Shp} {P : pl_T} {σ : aa_St}
theorem m_joins (hW : aa_W r dy σ) (hM : MP P σ.1) {t T : Nat} (ht : t < 65536) (he : σ.1 63 10 = nI t) (hTt : ∀ i, i < pl_n P → T.testBit i = t.testBit i) : ∀ f i, pl_n P - i ≤ f → i < pl_n P → aa_SX mX12_joins (3 + f) [.ref 63, .int (nI i)] σ (some (.int (nI (jn P T i)))) σ := by
  have ok := hM.1
  have h14 := ok.1
  obtain ⟨-, a1, -, a3, -⟩ := id hM
  have p14 : 2 ^ pl_n P ≤ 16384 := Nat.pow_le_pow_right (by decide : 0 < 2) h14
  have uL : ∀ i, i < pl_n P → pl_u P i < 2 ^ pl_n P := fun i hi => Nat.lt_trans (ok.2.2.1 i hi).2.2.2 (bb_p2 hi)
  intro f
  induction f with
  | zero => intro i g1 g2; omega
  | succ f ih =>
    intro i hf hi
    have loop : ∀ d m, pl_n P - m < d → m ≤ pl_n P → i < m → aa_V mX12_joins (3 + (f + 1)) 6 [some (.ref 63), some (.int (nI i)), some (.int (nI (xs ((List.range m).filter (fun j => T.testBit j && (pl_u P j).testBit i)) (jn P T)))), some (.int (nI m))] [] σ (fun ra σ' => ra = some (.int (nI (jn P T i))) ∧ σ' = σ) := by
      intro d
      induction d with
      | zero => intro m g1; omega
      | succ d ihd =>
        intro m g1 g2 g3
        refine aa_go (aa_iload3 iX12_joins_6) (aa_go (aa_aload0 iX12_joins_7) (aa_go (aa_getE iX12_joins_8 fl_X12_78 (sh_63 hW) rfl a1) ?_))
        refine aa_ic_geN iX12_joins_11 (by omega) (by omega) (fun g4 => ?_) (fun g4 => ?_)
        · skip
          have e : m = pl_n P := by omega
          subst e
          refine aa_go (aa_iconst iX12_joins_53 ki_1) (aa_go (aa_iload2 iX12_joins_54) (aa_go (aa_iaddN iX12_joins_55 ) ?_))
          refine aa_go (aa_top (y := nI (jn P T i)) (by rw [jn_eq ok])) ?_
          refine aa_iret iX12_joins_56 rfl ?_
          exact ⟨rfl, rfl⟩
        · skip
          have ua := uL m g4
          have nxt := ihd (m + 1) (by omega) (by omega) (by omega)
          refine aa_go (aa_iload2 iX12_joins_14) (aa_go (aa_aload0 iX12_joins_15) (aa_go (aa_iload3 iX12_joins_16) (aa_go (aa_cVi iX12_joins_17 (m_isThere hW ht (by omega) he) (by omega) lc_X12_isThere lk_X12_121 (sh_63 hW) rfl rfl (Nat.le_of_ble_eq_true rfl)) ?_)))
          refine aa_if_eqB iX12_joins_20 (fun g5 => ?_) (fun g5 => ?_)
          · skip
            rw [flt_f (by rw [hTt m g4, g5]; rfl)] at nxt
            refine aa_go (aa_iconst iX12_joins_44 ki_0) (aa_go (aa_ixorN iX12_joins_45 ) ?_)
            refine aa_go (aa_top (y := nI (xs ((List.range m).filter (fun j => T.testBit j && (pl_u P j).testBit i)) (jn P T))) (by rw [Nat.xor_zero])) ?_
            refine aa_go (aa_istore2 iX12_joins_46 rfl (by decide)) (aa_go (aa_iincN3 (k := 1) iX12_joins_47 rfl (by decide)) (aa_go (aa_goto iX12_joins_50) ?_))
            exact nxt
          · skip
            refine aa_go (aa_aload0 iX12_joins_23) (aa_go (aa_getR iX12_joins_24 fl_X12_47 (sh_63 hW) rfl) (aa_go (aa_iload3 iX12_joins_27) (aa_go (aa_ialE iX12_joins_28 (sh_67 hW) (by omega) (by omega) ((a3 m g4).2.2.1)) (aa_go (aa_iload1 iX12_joins_29) (aa_go (aa_cSi iX12_joins_30 (m_has (by omega) (by omega)) (by omega) lc_X12_has lk_X12_95 rfl (Nat.le_of_ble_eq_true rfl)) ?_)))))
            refine aa_if_eqB iX12_joins_33 (fun g6 => ?_) (fun g6 => ?_)
            · skip
              rw [flt_f (by rw [g6, Bool.and_false])] at nxt
              refine aa_go (aa_iconst iX12_joins_44 ki_0) (aa_go (aa_ixorN iX12_joins_45 ) ?_)
              refine aa_go (aa_top (y := nI (xs ((List.range m).filter (fun j => T.testBit j && (pl_u P j).testBit i)) (jn P T))) (by rw [Nat.xor_zero])) ?_
              refine aa_go (aa_istore2 iX12_joins_46 rfl (by decide)) (aa_go (aa_iincN3 (k := 1) iX12_joins_47 rfl (by decide)) (aa_go (aa_goto iX12_joins_50) ?_))
              exact nxt
            · skip
              rw [flt_t (by rw [hTt m g4, g5, g6]; rfl), xs_a] at nxt
              have hS := ih m (by omega) g4
              refine aa_go (aa_aload0 iX12_joins_36) (aa_go (aa_iload3 iX12_joins_37) (aa_go (aa_cVi iX12_joins_38 (hS) (by omega) lc_X12_joins lk_X12_242 (sh_63 hW) rfl rfl (Nat.le_of_ble_eq_true rfl)) (aa_go (aa_goto iX12_joins_41) (aa_go (aa_ixorN iX12_joins_45 ) (aa_go (aa_istore2 iX12_joins_46 rfl (by decide)) (aa_go (aa_iincN3 (k := 1) iX12_joins_47 rfl (by decide)) (aa_go (aa_goto iX12_joins_50) ?_)))))))
              exact nxt
    have e0 : (List.range (i + 1)).filter (fun j => T.testBit j && (pl_u P j).testBit i) = [] := by
      rw [List.eq_nil_iff_forall_not_mem]
      intro j hj
      rw [List.mem_filter, List.mem_range, Bool.and_eq_true] at hj
      have := u_lt ok (by omega) hj.2.2
      omega
    have key : aa_V mX12_joins (3 + (f + 1)) 0 [some (.ref 63), some (.int (nI i)), none, none] [] σ (fun ra σ' => ra = some (.int (nI (jn P T i))) ∧ σ' = σ) := by
      have lp := loop (pl_n P + 1) (i + 1) (by omega) (by omega) (by omega)
      rw [e0] at lp
      refine aa_go (aa_iconst iX12_joins_0 ki_0) (aa_go (aa_istore2 iX12_joins_1 rfl (by decide)) (aa_go (aa_iload1 iX12_joins_2) (aa_go (aa_iconst iX12_joins_3 ki_1) (aa_go (aa_iaddN iX12_joins_4 ) (aa_go (aa_istore3 iX12_joins_5 rfl (by decide)) ?_)))))
      exact lp
    obtain ⟨ra, σ', ⟨rfl, rfl⟩, hS9⟩ := aa_S_of (avs := [.ref 63, .int (nI i)]) (by decide) 2 [some (.ref 63), some (.int (nI i)), none, none] rfl rfl key
    exact hS9
end
