def hst (P : pl_T) (s q : Nat) : Nat := s &&& pl_hm P q ||| bd ((2 ^ pl_b P - 1) <<< pl_n P) (pl_hm P q)
theorem hst_lt {P : pl_T} {s q : Nat} (hs : s < 2 ^ (pl_n P + pl_b P)) : hst P s q < 2 ^ (pl_n P + pl_b P) := by
  refine bb_or (bb_and_l hs) (bb_bd (shl_lt (wc := pl_b P) ?_ (by omega)))
  have := Nat.two_pow_pos (pl_b P)
  omega
def vxk (P : pl_T) (hs : List Nat) (s k : Nat) : Nat := ((hs.take k).map (fun q => vl P (hst P s q))).foldl (fun a b => a ^^^ b) 0
theorem vxk_s {P : pl_T} {hs : List Nat} {s k q : Nat} (h : hs[k]? = some q) : vxk P hs s (k + 1) = vxk P hs s k ^^^ vl P (hst P s q) := by
  rw [vxk, List.take_add_one, h, List.map_append, List.foldl_append]; rfl
theorem vxk_lt {P : pl_T} (ok : pl_ok P) (hs : List Nat) (s : Nat) : ∀ k, vxk P hs s k < 32
  | 0 => by simp [vxk]
  | k + 1 => by
    have ih := vxk_lt ok hs s k
    cases h : hs[k]? with
    | none => rw [vxk, List.take_add_one, h]; simpa [vxk] using ih
    | some q =>
      rw [vxk_s h]
      have := vl_le ok (hst P s q)
      exact Nat.xor_lt_two_pow (n := 5) ih (by omega)
def vx (P : pl_T) (hs : List Nat) (s : Nat) : Nat := vxk P hs s hs.length
def R2 (P : pl_T) (v : Nat) (r : Nat → Nat) (σ : aa_St) : Prop := σ.1 30 1 = nI v ∧ σ.2.2.1[r 2]? = some (.inl (1, 2 ^ (pl_n P + pl_b P))) ∧ KV P (σ.2.1 (r 2))
def S2 (P : pl_T) (v : Nat) (r : Nat → Nat) (σ : aa_St) : Prop := σ.1 30 1 = nI v → R2 P v r σ
section
variable {r : Nat → Nat} {dy : List aa_Shp} {σ : aa_St} {P : pl_T} {hs : List Nat} {v : Nat}
theorem c_fit2 (hW : aa_W r dy σ) (hX : XP P hs σ.1) (hv : σ.1 7 15 = nI v) (hS : S2 P v r σ) : ∃ r' dy' σ', (MX (2 ^ (pl_n P + pl_b P)) v 2 30 r dy σ r' dy' σ' ∧ R2 P v r' σ') ∧ aa_SX mX4_fit 2 [.ref 30, .ref 7] σ none σ' := by
  by_cases he : σ.1 30 1 = nI v
  · exact ⟨r, dy, σ, ⟨MX.rf hW, hS he⟩, c_fitE30 hW hv he⟩
  · have hW' := hW.fit30 (nI v) (2 ^ (pl_n P + pl_b P))
    have hM := MX.fit (N := 2 ^ (pl_n P + pl_b P)) (v := v) (j := 2) (a := 30) hW (by decide) he hW'
    refine ⟨_, _, _, ⟨hM, ?_, ?_, ?_⟩, c_fitN30 hW hX hv he⟩
    · exact fit_ver hW (by decide) _ _ _
    · rw [nup_eq]; exact fit_shape hW'
    · rw [nup_eq, fit_row hW]; exact fun s _ => Or.inl rfl
theorem c_X3_valueOf (hSG : ∀ s, s < 2 ^ (pl_n P + pl_b P) → vx P hs s = vl P s) (hW : aa_W r dy σ) (hX : XP P hs σ.1) (hv : σ.1 7 15 = nI v) (hS : S2 P v r σ) {s : Nat} (hs2 : s < 2 ^ (pl_n P + pl_b P)) : ∃ r' dy' σ', (MX (2 ^ (pl_n P + pl_b P)) v 2 30 r dy σ r' dy' σ' ∧ R2 P v r' σ') ∧ aa_SX mX3_valueOf 24 [.ref 29, .int (nI s)] σ (some (.int (nI (vl P s)))) σ' := by
  have ok := hX.ok
  have hl14 := hX.h14
  have hn := hX.n14
  have hb := hX.b2
  have p16 := pw16 (k := pl_n P + pl_b P) (by omega)
  obtain ⟨r1, dy1, σ1, ⟨hM1, hR1⟩, hS1⟩ := c_fit2 hW hX hv hS
  have hW1 := hM1.W
  have hX1 := hM1.XP (by decide) hX
  have hr2 : ∀ σ2 : aa_St, aa_W r1 dy1 σ2 → σ2.2.2.1[r1 2]? = some (.inl (1, 2 ^ (pl_n P + pl_b P))) := fun σ2 h2 => by rw [h2, ← hW1]; exact hR1.2.1
  have loop : ∀ f k (σ2 : aa_St), hs.length - k < f → k ≤ hs.length → FrL (r1 2) σ1 σ2 → KV P (σ2.2.1 (r1 2)) → aa_V mX3_valueOf 24 15 [some (.ref 29), some (.int (nI s)), some (.int (nI (vxk P hs s k))), some (.int (nI k))] [] σ2 (fun ra σ' => ra = some (.int (nI (vl P s))) ∧ (FrL (r1 2) σ1 σ' ∧ KV P (σ'.2.1 (r1 2)))) := by
    intro f
    induction f with
    | zero => intro k σ2 g1; omega
    | succ f ih =>
      intro k σ2 g1 g2 hF hK
      have hW2 := hW1.of2 hF.2.1
      have hX2 : XP P hs σ2.1 := by rw [hF.1]; exact hX1
      refine aa_go (aa_iload3 iX3_valueOf_15) (aa_go (aa_aload0 iX3_valueOf_16) (aa_go (aa_getR iX3_valueOf_17 fl_X3_31 (sh_29 hW2) rfl) (aa_go (aa_cVi iX3_valueOf_20 (c_X6_heapsInAll hW2 hX2) (by omega) lc_X6_heapsInAll lk_X3_39 (sh_7 hW2) rfl rfl (Nat.le_of_ble_eq_true rfl)) ?_)))
      refine aa_ic_geN iX3_valueOf_23 (by omega) (by omega) (fun g3 => ?_) (fun g3 => ?_)
      · skip
        have e1 : k = hs.length := by omega
        subst e1
        refine aa_go (aa_iload2 iX3_valueOf_49) ?_
        refine aa_iret iX3_valueOf_50 rfl ?_
        exact ⟨by rw [← hSG s hs2]; rfl, hF, hK⟩
      · skip
        have hk : hs[k]? = some hs[k] := List.getElem?_eq_getElem g3
        have mu := pl_mu_le ok (hst P s hs[k])
        obtain ⟨σ3, ⟨hF3, hK3⟩, hS3⟩ := c_X3_valueFrom hr2 18 (hst P s hs[k]) 0 σ2 mu (hst_lt hs2) (by omega) hW2 hX2 hK
        refine aa_go (aa_iload2 iX3_valueOf_26) (aa_go (aa_aload0 iX3_valueOf_27) (aa_go (aa_aload0 iX3_valueOf_28) (aa_go (aa_getR iX3_valueOf_29 fl_X3_31 (sh_29 hW2) rfl) (aa_go (aa_iload1 iX3_valueOf_32) (aa_go (aa_iload3 iX3_valueOf_33) (aa_go (aa_cVi iX3_valueOf_34 (c_X6_inHeap hW2 hX2 hk) (by omega) lc_X6_inHeap lk_X3_45 (sh_7 hW2) rfl rfl (Nat.le_of_ble_eq_true rfl)) (aa_go (aa_iconst iX3_valueOf_37 ki_0) ?_)))))))
        refine aa_go (aa_cVi iX3_valueOf_38 (hS3) (by omega) lc_X3_valueFrom lk_X3_49 (sh_29 hW2) rfl rfl (Nat.le_of_ble_eq_true rfl)) (aa_go (aa_ixorN iX3_valueOf_41 ) ?_)
        refine aa_go (aa_top (y := nI (vxk P hs s (k + 1))) (by rw [vxk_s hk])) ?_
        refine aa_go (aa_istore2 iX3_valueOf_42 rfl (by decide)) (aa_go (aa_iincN3 (k := 1) iX3_valueOf_43 rfl (by decide)) (aa_go (aa_goto iX3_valueOf_46) ?_))
        exact ih (k + 1) σ3 (by omega) (by omega) (hF.tr hF3) hK3
  have key : aa_V mX3_valueOf 24 0 [some (.ref 29), some (.int (nI s)), none, none] [] σ (fun ra σ' => ra = some (.int (nI (vl P s))) ∧ (FrL (r1 2) σ1 σ' ∧ KV P (σ'.2.1 (r1 2)))) := by
    refine aa_go (aa_aload0 iX3_valueOf_0) (aa_go (aa_getR iX3_valueOf_1 fl_X3_12 (sh_29 hW) rfl) (aa_go (aa_aload0 iX3_valueOf_4) (aa_go (aa_getR iX3_valueOf_5 fl_X3_31 (sh_29 hW) rfl) (aa_go (aa_cVv iX3_valueOf_8 (hS1) (by decide) lc_X4_fit lk_X3_35 (sh_30 hW) rfl rfl (Nat.le_of_ble_eq_true rfl)) ?_))))
    refine aa_go (aa_iconst iX3_valueOf_11 ki_0) (aa_go (aa_istore2 iX3_valueOf_12 rfl (by decide)) (aa_go (aa_iconst iX3_valueOf_13 ki_0) (aa_go (aa_istore3 iX3_valueOf_14 rfl (by decide)) ?_)))
    exact loop (hs.length + 1) 0 σ1 (by omega) (by omega) FrL.rf hR1.2.2
  obtain ⟨ra, σ', ⟨rfl, hF2, hK2⟩, hS9⟩ := aa_S_of (avs := [.ref 29, .int (nI s)]) (by decide) 2 [some (.ref 29), some (.int (nI s)), none, none] rfl rfl key
  exact ⟨r1, dy1, σ', ⟨hM1.tr (MX.L hW1 hF2), by rw [hF2.1]; exact hR1.1, by rw [hF2.2.1]; exact hR1.2.1, hK2⟩, hS9⟩
theorem c_X3_valuesBehind (hSG : ∀ s, s < 2 ^ (pl_n P + pl_b P) → vx P hs s = vl P s) (hW : aa_W r dy σ) (hX : XP P hs σ.1) (hv : σ.1 7 15 = nI v) (hS : S2 P v r σ) {s : Nat} (hs2 : s < 2 ^ (pl_n P + pl_b P)) : ∃ r' dy' σ', (MX (2 ^ (pl_n P + pl_b P)) v 2 30 r dy σ r' dy' σ' ∧ S2 P v r' σ') ∧ aa_SX mX3_valuesBehind 25 [.ref 29, .int (nI s)] σ (some (.int (nI (vlb P s (pl_n P + pl_b P))))) σ' := by
  have ok := hX.ok
  have hn := hX.n14
  have hb := hX.b2
  have p16 := pw16 (k := pl_n P + pl_b P) (by omega)
  have lmv := pl_mv_lt P 3 s
  have loop : ∀ f k r1 dy1 σ1, pl_n P + pl_b P - k < f → k ≤ pl_n P + pl_b P → MX (2 ^ (pl_n P + pl_b P)) v 2 30 r dy σ r1 dy1 σ1 → S2 P v r1 σ1 → aa_V mX3_valuesBehind 25 15 [some (.ref 29), some (.int (nI s)), some (.int (nI (pl_mv P 3 s))), some (.int (nI (vlb P s k))), some (.int (nI k))] [] σ1 (fun ra σ' => ra = some (.int (nI (vlb P s (pl_n P + pl_b P)))) ∧ ∃ r' dy', MX (2 ^ (pl_n P + pl_b P)) v 2 30 r dy σ r' dy' σ' ∧ S2 P v r' σ') := by
    intro f
    induction f with
    | zero => intro k r1 dy1 σ1 g1; omega
    | succ f ih =>
      intro k r1 dy1 σ1 g1 g2 hM hS1
      have hW1 := hM.W
      have hX1 := hM.XP (by decide) hX
      have hv1 : σ1.1 7 15 = nI v := by rw [hM.I (by decide) (by decide)]; exact hv
      refine aa_go (aa_iload4 iX3_valuesBehind_15) (aa_go (aa_aload0 iX3_valuesBehind_17) (aa_go (aa_getR iX3_valuesBehind_18 fl_X3_31 (sh_29 hW1) rfl) (aa_go (aa_cVi iX3_valuesBehind_21 (c_X6_steps hW1 hX1) (by decide) lc_X6_steps lk_X3_59 (sh_7 hW1) rfl rfl (Nat.le_of_ble_eq_true rfl)) ?_)))
      refine aa_ic_geN iX3_valuesBehind_24 (by omega) (by omega) (fun g3 => ?_) (fun g3 => ?_)
      · skip
        have e1 : k = pl_n P + pl_b P := by omega
        subst e1
        refine aa_go (aa_iload3 iX3_valuesBehind_61) ?_
        refine aa_iret iX3_valuesBehind_62 rfl ?_
        exact ⟨rfl, r1, dy1, hM, hS1⟩
      · skip
        refine aa_go (aa_iload2 iX3_valuesBehind_27) (aa_go (aa_iload4 iX3_valuesBehind_28) (aa_go (aa_ishrN iX3_valuesBehind_30 (by omega) (by omega)) (aa_go (aa_iconst iX3_valuesBehind_31 ki_1) (aa_go (aa_ibit iX3_valuesBehind_32) ?_))))
        refine aa_if_eqB iX3_valuesBehind_33 (fun g4 => ?_) (fun g4 => ?_)
        · skip
          rw [mv_bit g3] at g4
          refine aa_go (aa_iincN4 (k := 1) iX3_valuesBehind_55 rfl (by decide)) (aa_go (aa_goto iX3_valuesBehind_58) ?_)
          have := ih (k + 1) r1 dy1 σ1 (by omega) (by omega) hM hS1
          rw [vlb_f g4] at this
          exact this
        · skip
          rw [mv_bit g3] at g4
          have nlt := pl_nx_lt ok hs2 g3
          have vl19 := vl_le ok (pl_nx P s k)
          obtain ⟨r2, dy2, σ2, ⟨hM2, hR2⟩, hS2⟩ := c_X3_valueOf hSG hW1 hX1 hv1 hS1 nlt
          have nxt := ih (k + 1) r2 dy2 σ2 (by omega) (by omega) (hM.tr hM2) (fun _ => hR2)
          refine aa_go (aa_iload3 iX3_valuesBehind_36) (aa_go (aa_iconst iX3_valuesBehind_37 ki_1) (aa_go (aa_aload0 iX3_valuesBehind_38) (aa_go (aa_aload0 iX3_valuesBehind_39) (aa_go (aa_getR iX3_valuesBehind_40 fl_X3_31 (sh_29 hW1) rfl) (aa_go (aa_iload1 iX3_valuesBehind_43) (aa_go (aa_iload4 iX3_valuesBehind_44) (aa_go (aa_cVi iX3_valuesBehind_46 (c_X6_behind hW1 hX1 g3) (by decide) lc_X6_behind lk_X3_62 (sh_7 hW1) rfl rfl (Nat.le_of_ble_eq_true rfl)) ?_)))))))
          refine aa_go (aa_cVi iX3_valuesBehind_49 (hS2) (by decide) lc_X3_valueOf lk_X3_73 (sh_29 hW1) rfl rfl (Nat.le_of_ble_eq_true rfl)) (aa_go (aa_ishlN iX3_valuesBehind_52 (by omega)) (aa_go (aa_iorN iX3_valuesBehind_53 ) ?_))
          refine aa_go (aa_top (y := nI (vlb P s (k + 1))) (by rw [vlb_t g4, Nat.one_shiftLeft])) ?_
          refine aa_go (aa_istore3 iX3_valuesBehind_54 rfl (by decide)) (aa_go (aa_iincN4 (k := 1) iX3_valuesBehind_55 rfl (by decide)) (aa_go (aa_goto iX3_valuesBehind_58) ?_))
          exact nxt
  have key : aa_V mX3_valuesBehind 25 0 [some (.ref 29), some (.int (nI s)), none, none, none] [] σ (fun ra σ' => ra = some (.int (nI (vlb P s (pl_n P + pl_b P)))) ∧ ∃ r' dy', MX (2 ^ (pl_n P + pl_b P)) v 2 30 r dy σ r' dy' σ' ∧ S2 P v r' σ') := by
    refine aa_go (aa_aload0 iX3_valuesBehind_0) (aa_go (aa_getR iX3_valuesBehind_1 fl_X3_31 (sh_29 hW) rfl) (aa_go (aa_iload1 iX3_valuesBehind_4) (aa_go (aa_iconst iX3_valuesBehind_5 ki_3) (aa_go (aa_cVi iX3_valuesBehind_6 (c_X6_moves hW hX (by omega)) (by decide) lc_X6_moves lk_X3_56 (sh_7 hW) rfl rfl (Nat.le_of_ble_eq_true rfl)) (aa_go (aa_istore2 iX3_valuesBehind_9 rfl (by decide)) (aa_go (aa_iconst iX3_valuesBehind_10 ki_0) (aa_go (aa_istore3 iX3_valuesBehind_11 rfl (by decide)) ?_)))))))
    refine aa_go (aa_iconst iX3_valuesBehind_12 ki_0) (aa_go (aa_istore4 iX3_valuesBehind_13 rfl (by decide)) ?_)
    exact loop (pl_n P + pl_b P + 1) 0 r dy σ (by omega) (by omega) (MX.rf hW) hS
  obtain ⟨ra, σ', ⟨rfl, r', dy', h1⟩, hS9⟩ := aa_S_of (avs := [.ref 29, .int (nI s)]) (by decide) 3 [some (.ref 29), some (.int (nI s)), none, none, none] rfl rfl key
  exact ⟨r', dy', σ', h1, hS9⟩
def ftk (P : pl_T) (s t k : Nat) : Option Nat := (mlk P 3 s k).find? (fun j => vl P (pl_nx P s j) == t)
theorem c_X3_firstTo (hSG : ∀ s, s < 2 ^ (pl_n P + pl_b P) → vx P hs s = vl P s) (hW : aa_W r dy σ) (hX : XP P hs σ.1) (hv : σ.1 7 15 = nI v) (hS : S2 P v r σ) {s t : Nat} (hs2 : s < 2 ^ (pl_n P + pl_b P)) (ht : t ≤ 31) : ∃ r' dy' σ', (MX (2 ^ (pl_n P + pl_b P)) v 2 30 r dy σ r' dy' σ' ∧ S2 P v r' σ') ∧ aa_SX mX3_firstTo 25 [.ref 29, .int (nI s), .int (nI t)] σ (some (.int (oI (ftk P s t (pl_n P + pl_b P))))) σ' := by
  have ok := hX.ok
  have hn := hX.n14
  have hb := hX.b2
  have p16 := pw16 (k := pl_n P + pl_b P) (by omega)
  have lmv := pl_mv_lt P 3 s
  have done : ∀ k, k ≤ pl_n P + pl_b P → ∀ j, ftk P s t k = some j → ftk P s t (pl_n P + pl_b P) = some j := by
    intro k hk j hj
    have : ∀ d, ftk P s t (k + d) = some j := by
      intro d
      induction d with
      | zero => exact hj
      | succ d ihd =>
        cases hl : pl_lg P 3 s (k + d) with
        | false => rw [ftk, show k + (d + 1) = k + d + 1 by omega, mlk_f hl]; exact ihd
        | true => rw [ftk, show k + (d + 1) = k + d + 1 by omega, mlk_t hl, List.find?_append]; rw [ftk] at ihd; rw [ihd]; rfl
    have := this (pl_n P + pl_b P - k)
    rw [show k + (pl_n P + pl_b P - k) = pl_n P + pl_b P by omega] at this
    exact this
  have loop : ∀ f k r1 dy1 σ1, pl_n P + pl_b P - k < f → k ≤ pl_n P + pl_b P → MX (2 ^ (pl_n P + pl_b P)) v 2 30 r dy σ r1 dy1 σ1 → S2 P v r1 σ1 → ftk P s t k = none → aa_V mX3_firstTo 25 13 [some (.ref 29), some (.int (nI s)), some (.int (nI t)), some (.int (nI (pl_mv P 3 s))), some (.int (nI k))] [] σ1 (fun ra σ' => ra = some (.int (oI (ftk P s t (pl_n P + pl_b P)))) ∧ ∃ r' dy', MX (2 ^ (pl_n P + pl_b P)) v 2 30 r dy σ r' dy' σ' ∧ S2 P v r' σ') := by
    intro f
    induction f with
    | zero => intro k r1 dy1 σ1 g1; omega
    | succ f ih =>
      intro k r1 dy1 σ1 g1 g2 hM hS1 hf
      have hW1 := hM.W
      have hX1 := hM.XP (by decide) hX
      have hv1 : σ1.1 7 15 = nI v := by rw [hM.I (by decide) (by decide)]; exact hv
      refine aa_go (aa_iload4 iX3_firstTo_13) (aa_go (aa_aload0 iX3_firstTo_15) (aa_go (aa_getR iX3_firstTo_16 fl_X3_31 (sh_29 hW1) rfl) (aa_go (aa_cVi iX3_firstTo_19 (c_X6_steps hW1 hX1) (by decide) lc_X6_steps lk_X3_59 (sh_7 hW1) rfl rfl (Nat.le_of_ble_eq_true rfl)) ?_)))
      refine aa_ic_geN iX3_firstTo_22 (by omega) (by omega) (fun g3 => ?_) (fun g3 => ?_)
      · skip
        have e1 : k = pl_n P + pl_b P := by omega
        subst e1
        refine aa_go (aa_iconst iX3_firstTo_61 ki_m1) ?_
        refine aa_iret iX3_firstTo_62 rfl ?_
        exact ⟨by rw [hf]; rfl, r1, dy1, hM, hS1⟩
      · skip
        refine aa_go (aa_iload3 iX3_firstTo_25) (aa_go (aa_iload4 iX3_firstTo_26) (aa_go (aa_ishrN iX3_firstTo_28 (by omega) (by omega)) (aa_go (aa_iconst iX3_firstTo_29 ki_1) (aa_go (aa_ibit iX3_firstTo_30) ?_))))
        refine aa_if_eqB iX3_firstTo_31 (fun g4 => ?_) (fun g4 => ?_)
        · skip
          rw [mv_bit g3] at g4
          refine aa_go (aa_iincN4 (k := 1) iX3_firstTo_55 rfl (by decide)) (aa_go (aa_goto iX3_firstTo_58) ?_)
          exact ih (k + 1) r1 dy1 σ1 (by omega) (by omega) hM hS1 (by rw [ftk, mlk_f g4]; exact hf)
        · skip
          rw [mv_bit g3] at g4
          have nlt := pl_nx_lt ok hs2 g3
          have vl19 := vl_le ok (pl_nx P s k)
          obtain ⟨r2, dy2, σ2, ⟨hM2, hR2⟩, hS2⟩ := c_X3_valueOf hSG hW1 hX1 hv1 hS1 nlt
          have e9 : ftk P s t (k + 1) = if vl P (pl_nx P s k) = t then some k else none := by
            rw [ftk, mlk_t g4, List.find?_append]
            rw [ftk] at hf
            rw [hf]
            by_cases q : vl P (pl_nx P s k) = t
            · rw [if_pos q]; simp [q]
            · rw [if_neg q]; simp [q]
          refine aa_go (aa_aload0 iX3_firstTo_34) (aa_go (aa_aload0 iX3_firstTo_35) (aa_go (aa_getR iX3_firstTo_36 fl_X3_31 (sh_29 hW1) rfl) (aa_go (aa_iload1 iX3_firstTo_39) (aa_go (aa_iload4 iX3_firstTo_40) (aa_go (aa_cVi iX3_firstTo_42 (c_X6_behind hW1 hX1 g3) (by decide) lc_X6_behind lk_X3_62 (sh_7 hW1) rfl rfl (Nat.le_of_ble_eq_true rfl)) (aa_go (aa_cVi iX3_firstTo_45 (hS2) (by decide) lc_X3_valueOf lk_X3_73 (sh_29 hW1) rfl rfl (Nat.le_of_ble_eq_true rfl)) (aa_go (aa_iload2 iX3_firstTo_48) ?_)))))))
          refine aa_ic_neN iX3_firstTo_49 (by omega) (by omega) (fun g5 => ?_) (fun g5 => ?_)
          · skip
            refine aa_go (aa_iincN4 (k := 1) iX3_firstTo_55 rfl (by decide)) (aa_go (aa_goto iX3_firstTo_58) ?_)
            exact ih (k + 1) r2 dy2 σ2 (by omega) (by omega) (hM.tr hM2) (fun _ => hR2) (by rw [e9, if_neg g5])
          · skip
            refine aa_go (aa_iload4 iX3_firstTo_52) ?_
            refine aa_iret iX3_firstTo_54 rfl ?_
            exact ⟨by rw [done (k + 1) (by omega) k (by rw [e9, if_pos g5])]; rfl, r2, dy2, hM.tr hM2, fun _ => hR2⟩
  have key : aa_V mX3_firstTo 25 0 [some (.ref 29), some (.int (nI s)), some (.int (nI t)), none, none] [] σ (fun ra σ' => ra = some (.int (oI (ftk P s t (pl_n P + pl_b P)))) ∧ ∃ r' dy', MX (2 ^ (pl_n P + pl_b P)) v 2 30 r dy σ r' dy' σ' ∧ S2 P v r' σ') := by
    refine aa_go (aa_aload0 iX3_firstTo_0) (aa_go (aa_getR iX3_firstTo_1 fl_X3_31 (sh_29 hW) rfl) (aa_go (aa_iload1 iX3_firstTo_4) (aa_go (aa_iconst iX3_firstTo_5 ki_3) (aa_go (aa_cVi iX3_firstTo_6 (c_X6_moves hW hX (by omega)) (by decide) lc_X6_moves lk_X3_56 (sh_7 hW) rfl rfl (Nat.le_of_ble_eq_true rfl)) (aa_go (aa_istore3 iX3_firstTo_9 rfl (by decide)) (aa_go (aa_iconst iX3_firstTo_10 ki_0) (aa_go (aa_istore4 iX3_firstTo_11 rfl (by decide)) ?_)))))))
    exact loop (pl_n P + pl_b P + 1) 0 r dy σ (by omega) (by omega) (MX.rf hW) hS rfl
  obtain ⟨ra, σ', ⟨rfl, r', dy', h1⟩, hS9⟩ := aa_S_of (avs := [.ref 29, .int (nI s), .int (nI t)]) (by decide) 2 [some (.ref 29), some (.int (nI s)), some (.int (nI t)), none, none] rfl rfl key
  exact ⟨r', dy', σ', h1, hS9⟩
end
