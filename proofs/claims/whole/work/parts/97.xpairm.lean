/-! THE REFERENCE: pairs -/
def pz : Option Nat → Int32
  | none => iZ (-1)
  | some q => nI q
def fz1 (P : pl_T) (π : Nat → Option Nat) (x y z : Nat) : Bool := match π z with
  | none => true
  | some q => ((pl_u P x).testBit z == (pl_u P y).testBit q) && ((pl_u P z).testBit x == (pl_u P q).testBit y)
def fz (P : pl_T) (π : Nat → Option Nat) (x y k : Nat) : Bool := (List.range k).all (fz1 P π x y)
def lo1 (a : Nat) : Nat := ((List.range 14).find? (fun i => a.testBit i)).getD 0
def prM (P : pl_T) : Nat → Nat → Nat → (Nat → Option Nat) → Bool
  | 0, a, _, _ => decide (a = 0)
  | f + 1, a, b, π => decide (a = 0) || (List.range (pl_n P)).any (fun y => (b.testBit y && fz P π (lo1 a) y (pl_n P)) && prM P f (bd a (2 ^ lo1 a)) (bd b (2 ^ y)) (fun z => if z = lo1 a then some y else π z))
theorem lo1_spec {a : Nat} (h : a ≠ 0) (ha : a < 16384) : lo1 a < 14 ∧ a.testBit (lo1 a) = true ∧ ∀ j, j < lo1 a → a.testBit j = false := by
  obtain ⟨k, hk⟩ := ex_bit h
  obtain ⟨m, h1, h2, h3⟩ := ex_low k hk
  have m14 : m < 14 := by
    apply Classical.byContradiction
    intro c
    rw [bb_hi (k := 14) ha (by omega)] at h2
    simp at h2
  have e : lo1 a = m := by
    have : (List.range 14).find? (fun i => a.testBit i) = some m := by
      rw [List.find?_range_eq_some]
      exact ⟨h2, List.mem_range.mpr m14, fun j hj => by rw [h3 j hj]; rfl⟩
    rw [lo1, this]; rfl
  rw [e]; exact ⟨m14, h2, h3⟩
theorem fz_s (P : pl_T) (π : Nat → Option Nat) (x y k : Nat) : fz P π x y (k + 1) = (fz P π x y k && fz1 P π x y k) := by
  rw [fz, List.range_succ, List.all_append, fz]; simp
theorem fz_no {P : pl_T} {π : Nat → Option Nat} {x y k n : Nat} (h : fz P π x y k = false) (hk : k ≤ n) : fz P π x y n = false := by
  induction n with
  | zero => rw [show k = 0 by omega] at h; exact h
  | succ n ih =>
    by_cases e : k = n + 1
    · rw [← e]; exact h
    · rw [fz_s, ih (by omega)]; rfl
theorem tn_inj {a b : Bool} (h : a.toNat = b.toNat) : a = b := by cases a <;> cases b <;> simp_all
theorem cn_bd1 {a x k : Nat} (hx : x < k) (h : a.testBit x = true) : pl_cn (bd a (2 ^ x)) k < pl_cn a k :=
  cn_lt k (fun i _ hi => by rw [bd_bit] at hi; simp at hi; exact hi.1) ⟨x, hx, h, by rw [bd_bit, bb_tp]; simp⟩
section
variable {r : Nat → Nat} {dy : List aa_Shp} {P : pl_T}
theorem m_pairs : ∀ f a b (π : Nat → Option Nat) (σ : aa_St), pl_cn a 14 ≤ f → a < 2 ^ pl_n P → b < 2 ^ pl_n P → aa_W r dy σ → MP P σ.1 → (∀ z, z < 14 → σ.1 79 z = pz (π z)) → (∀ z q, π z = some q → q < pl_n P) → (∀ z, a.testBit z = true → π z = none) →
    ∃ σ' : aa_St, (FrI 79 σ σ' ∧ (prM P f a b π = false → ∀ z, z < 14 → σ'.1 79 z = σ.1 79 z)) ∧ aa_SX mX12_pairs (3 + f) [.ref 63, .int (nI a), .int (nI b)] σ (some (.int (nI (prM P f a b π).toNat))) σ' := by
  intro f
  induction f with
  | zero =>
    intro a b π σ hf ha hb hW hM hp hq hn
    have h14 := hM.1.1
    have p14 : 2 ^ pl_n P ≤ 16384 := Nat.pow_le_pow_right (by decide : 0 < 2) h14
    have a0 : a = 0 := by
      apply Classical.byContradiction
      intro c
      obtain ⟨l1, l2, -⟩ := lo1_spec c (by omega)
      have := cn_pos 14 l1 l2
      omega
    subst a0
    refine ⟨σ, ⟨FrI.rf, fun _ _ _ => rfl⟩, ?_⟩
    refine aa_E_of (by decide) 5 [some (.ref 63), some (.int (nI 0)), some (.int (nI b)), none, none, none, none, none] rfl rfl ?_
    refine aa_go (aa_iload1 iX12_pairs_0) ?_
    refine aa_if_neN iX12_pairs_1 (by omega) (fun g1 => ?_) (fun g1 => ?_)
    · skip
      omega
    · skip
      refine aa_go (aa_iconst iX12_pairs_4 ki_1) ?_
      refine aa_zretT iX12_pairs_5 rfl ?_
      exact ⟨rfl, rfl⟩
  | succ f ih =>
    intro a b π σ hf ha hb hW hM hp hq hn
    have ok := hM.1
    have h14 := ok.1
    have p14 : 2 ^ pl_n P ≤ 16384 := Nat.pow_le_pow_right (by decide : 0 < 2) h14
    have uL : ∀ i, i < pl_n P → pl_u P i < 2 ^ pl_n P := fun i hi => Nat.lt_trans (ok.2.2.1 i hi).2.2.2 (bb_p2 hi)
    have key : aa_V mX12_pairs (3 + (f + 1)) 0 [some (.ref 63), some (.int (nI a)), some (.int (nI b)), none, none, none, none, none] [] σ (fun ra σ' => ra = some (.int (nI (prM P (f + 1) a b π).toNat)) ∧ FrI 79 σ σ' ∧ (prM P (f + 1) a b π = false → ∀ z, z < 14 → σ'.1 79 z = σ.1 79 z)) := by
      refine aa_go (aa_iload1 iX12_pairs_0) ?_
      refine aa_if_neN iX12_pairs_1 (by omega) (fun g1 => ?_) (fun g1 => ?_)
      · skip
        obtain ⟨l1, l2, l3⟩ := lo1_spec g1 (by omega)
        have pe : prM P (f + 1) a b π = (List.range (pl_n P)).any (fun y => (b.testBit y && fz P π (lo1 a) y (pl_n P)) && prM P f (bd a (2 ^ lo1 a)) (bd b (2 ^ y)) (fun z => if z = lo1 a then some y else π z)) := by rw [prM, decide_eq_false g1, Bool.false_or]
        have cd := cn_bd1 l1 l2
        generalize hx : lo1 a = x at l1 l2 l3 pe cd
        have xn : x < pl_n P := by
          apply Classical.byContradiction
          intro c
          rw [bb_hi ha (by omega)] at l2
          simp at l2
        have ux := uL x xn
        have loop : ∀ d y (σ1 : aa_St) y5 y6 y7, pl_n P - y < d → y ≤ pl_n P → FrI 79 σ σ1 → (∀ z, z < 14 → σ1.1 79 z = σ.1 79 z) → (List.range y).any (fun y => (b.testBit y && fz P π x y (pl_n P)) && prM P f (bd a (2 ^ x)) (bd b (2 ^ y)) (fun z => if z = x then some y else π z)) = false → aa_V mX12_pairs (3 + (f + 1)) 14 [some (.ref 63), some (.int (nI a)), some (.int (nI b)), some (.int (nI x)), some (.int (nI y)), y5, y6, y7] [] σ1 (fun ra σ' => ra = some (.int (nI (prM P (f + 1) a b π).toNat)) ∧ FrI 79 σ σ' ∧ (prM P (f + 1) a b π = false → ∀ z, z < 14 → σ'.1 79 z = σ.1 79 z)) := by
          intro d
          induction d with
          | zero => intro y σ1 y5 y6 y7 k1; omega
          | succ d ihd =>
            intro y σ1 y5 y6 y7 k1 k2 hF hc hno
            have hW1 := hF.W hW
            have hM1 : MP P σ1.1 := hM.fr (by rw [hF.2 63 (by decide)]) (by rw [hF.2 63 (by decide)]) (fun x hx => hF.2 x (by omega))
            obtain ⟨-, a1, -, a3, -⟩ := id hM1
            refine aa_go (aa_iload4 iX12_pairs_14) (aa_go (aa_aload0 iX12_pairs_16) (aa_go (aa_getE iX12_pairs_17 fl_X12_78 (sh_63 hW1) rfl a1) ?_))
            refine aa_ic_geN iX12_pairs_20 (by omega) (by omega) (fun k3 => ?_) (fun k3 => ?_)
            · skip
              have e : y = pl_n P := by omega
              subst e
              refine aa_go (aa_iconst iX12_pairs_195 ki_0) ?_
              refine aa_zretF iX12_pairs_196 rfl ?_
              exact ⟨by rw [pe, hno]; rfl, hF, fun _ => hc⟩
            · skip
              have uy := uL y k3
              have nxt : ∀ (σ2 : aa_St) y5 y6 y7, FrI 79 σ σ2 → (∀ z, z < 14 → σ2.1 79 z = σ.1 79 z) → ((b.testBit y && fz P π x y (pl_n P)) && prM P f (bd a (2 ^ x)) (bd b (2 ^ y)) (fun z => if z = x then some y else π z)) = false → aa_V mX12_pairs (3 + (f + 1)) 189 [some (.ref 63), some (.int (nI a)), some (.int (nI b)), some (.int (nI x)), some (.int (nI y)), y5, y6, y7] [] σ2 (fun ra σ' => ra = some (.int (nI (prM P (f + 1) a b π).toNat)) ∧ FrI 79 σ σ' ∧ (prM P (f + 1) a b π = false → ∀ z, z < 14 → σ'.1 79 z = σ.1 79 z)) := by
                intro σ2 y5 y6 y7 hF2 hc2 hn2
                refine aa_go (aa_iincN4 (k := 1) iX12_pairs_189 rfl (by decide)) (aa_go (aa_goto iX12_pairs_192) ?_)
                refine ihd (y + 1) σ2 _ _ _ (by omega) (by omega) hF2 hc2 ?_
                rw [List.range_succ, List.any_append, hno]
                simp only [List.any_cons, List.any_nil, hn2]; rfl
              have fit : ∀ (ok : Bool) y6 y7, ok = (b.testBit y && fz P π x y (pl_n P)) → aa_V mX12_pairs (3 + (f + 1)) 145 [some (.ref 63), some (.int (nI a)), some (.int (nI b)), some (.int (nI x)), some (.int (nI y)), some (.int (nI ok.toNat)), y6, y7] [] σ1 (fun ra σ' => ra = some (.int (nI (prM P (f + 1) a b π).toNat)) ∧ FrI 79 σ σ' ∧ (prM P (f + 1) a b π = false → ∀ z, z < 14 → σ'.1 79 z = σ.1 79 z)) := by
                intro okb y6 y7 hok
                refine aa_go (aa_iload5 iX12_pairs_145) ?_
                refine aa_if_eqB iX12_pairs_147 (fun m1 => ?_) (fun m1 => ?_)
                · skip
                  exact nxt σ1 _ _ _ hF hc (by rw [← hok, m1]; rfl)
                · skip
                  have hWs := hW1.sI 79 x (nI y)
                  have hMs : MP P (aa_sI σ1 79 x (nI y)).1 := hM1.fr (by rw [sI_ne (by decide)]) (by rw [sI_ne (by decide)]) (fun q hq => by funext k; rw [sI_ne (by omega)])
                  obtain ⟨σ2, ⟨hF2, hc2⟩, hS2⟩ := ih (bd a (2 ^ x)) (bd b (2 ^ y)) (fun z => if z = x then some y else π z) (aa_sI σ1 79 x (nI y)) (by omega) (bb_bd ha) (bb_bd hb) hWs hMs (fun z hz => by
                    rw [sI_at]
                    by_cases c : z = x
                    · rw [if_pos c]; simp only [if_pos c]; rfl
                    · rw [if_neg c]; simp only [if_neg c]; rw [hc z hz]; exact hp z hz) (fun z q hzq => by
                    by_cases c : z = x
                    · simp only [if_pos c] at hzq; cases hzq; exact k3
                    · simp only [if_neg c] at hzq; exact hq z q hzq) (fun z hz => by
                    rw [bd_bit, bb_tp] at hz
                    simp at hz
                    simp only [if_neg (fun e : z = x => hz.2 e.symm)]
                    exact hn z hz.1)
                  have e1 : (1 <<< x : Nat) = 2 ^ x := by rw [Nat.shiftLeft_eq, Nat.one_mul]
                  have e2 : (1 <<< y : Nat) = 2 ^ y := by rw [Nat.shiftLeft_eq, Nat.one_mul]
                  have hF3 : FrI 79 σ σ2 := (hF.s x (nI y)).tr hF2
                  have hW2 := hF3.W hW
                  rw [← e1, ← e2] at hS2
                  refine aa_go (aa_aload0 iX12_pairs_150) (aa_go (aa_getR iX12_pairs_151 fl_X12_245 (sh_63 hW1) rfl) (aa_go (aa_iload3 iX12_pairs_154) (aa_go (aa_iload4 iX12_pairs_155) (aa_go (aa_iasN iX12_pairs_157 (sh_79 hW1) (by omega) (by omega)) ?_))))
                  refine aa_go (aa_aload0 iX12_pairs_158) (aa_go (aa_iload1 iX12_pairs_159) (aa_go (aa_iconst iX12_pairs_160 ki_1) (aa_go (aa_iload3 iX12_pairs_161) (aa_go (aa_ishlN iX12_pairs_162 (by omega)) (aa_go (aa_iconst iX12_pairs_163 ki_m1) (aa_go (aa_ixor iX12_pairs_164) (aa_go (aa_iandC iX12_pairs_165) ?_)))))))
                  refine aa_go (aa_iload2 iX12_pairs_166) (aa_go (aa_iconst iX12_pairs_167 ki_1) (aa_go (aa_iload4 iX12_pairs_168) (aa_go (aa_ishlN iX12_pairs_170 (by omega)) (aa_go (aa_iconst iX12_pairs_171 ki_m1) (aa_go (aa_ixor iX12_pairs_172) (aa_go (aa_iandC iX12_pairs_173) (aa_go (aa_cVi iX12_pairs_174 (hS2) (by omega) lc_X12_pairs lk_X12_248 (sh_63 hWs) rfl rfl (Nat.le_of_ble_eq_true rfl)) ?_)))))))
                  rw [e1, e2]
                  refine aa_if_eqB iX12_pairs_177 (fun m2 => ?_) (fun m2 => ?_)
                  · skip
                    refine aa_go (aa_aload0 iX12_pairs_182) (aa_go (aa_getR iX12_pairs_183 fl_X12_245 (sh_63 hW2) rfl) (aa_go (aa_iload3 iX12_pairs_186) (aa_go (aa_iconst iX12_pairs_187 ki_m1) (aa_go (aa_iasN iX12_pairs_188 (sh_79 hW2) (by omega) (by omega)) ?_))))
                    refine nxt _ _ _ _ (hF3.s x _) (fun z hz => ?_) (by rw [← hok, m1, m2]; rfl)
                    rw [sI_at]
                    by_cases c : z = x
                    · rw [if_pos c, c, hp x l1, hn x l2]; rfl
                    · rw [if_neg c, hc2 m2 z hz, sI_at, if_neg c]; exact hc z hz
                  · skip
                    have pt : prM P (f + 1) a b π = true := by
                      rw [pe, List.any_eq_true]
                      exact ⟨y, List.mem_range.mpr k3, by rw [← hok, m1, m2]; rfl⟩
                    refine aa_go (aa_iconst iX12_pairs_180 ki_1) ?_
                    refine aa_zretT iX12_pairs_181 rfl ?_
                    exact ⟨by rw [pt]; rfl, hF3, fun q => by rw [pt] at q; simp at q⟩
              have inner : ∀ d2 z (okb : Bool) y7, pl_n P - z < d2 → z ≤ pl_n P → okb = (b.testBit y && fz P π x y z) → aa_V mX12_pairs (3 + (f + 1)) 34 [some (.ref 63), some (.int (nI a)), some (.int (nI b)), some (.int (nI x)), some (.int (nI y)), some (.int (nI okb.toNat)), some (.int (nI z)), y7] [] σ1 (fun ra σ' => ra = some (.int (nI (prM P (f + 1) a b π).toNat)) ∧ FrI 79 σ σ' ∧ (prM P (f + 1) a b π = false → ∀ z, z < 14 → σ'.1 79 z = σ.1 79 z)) := by
                intro d2
                induction d2 with
                | zero => intro z okb y7 n1; omega
                | succ d2 ih2 =>
                  intro z okb y7 n1 n2 hok
                  refine aa_go (aa_iload6 iX12_pairs_34) (aa_go (aa_aload0 iX12_pairs_36) (aa_go (aa_getE iX12_pairs_37 fl_X12_78 (sh_63 hW1) rfl a1) ?_))
                  refine aa_ic_geN iX12_pairs_40 (by omega) (by omega) (fun n3 => ?_) (fun n3 => ?_)
                  · skip
                    have e : z = pl_n P := by omega
                    subst e
                    exact fit okb _ _ hok
                  · skip
                    refine aa_go (aa_iload5 iX12_pairs_43) ?_
                    refine aa_if_eqB iX12_pairs_45 (fun n4 => ?_) (fun n4 => ?_)
                    · skip
                      refine fit okb _ _ ?_
                      rw [hok] at n4
                      rw [hok, n4]
                      cases q : b.testBit y with
                      | false => rfl
                      | true => rw [q, Bool.true_and] at n4; rw [fz_no n4 n2]; rfl
                    · skip
                      have uz := uL z n3
                      have nx2 : ∀ o : Bool, o = fz1 P π x y z → ∀ y7, aa_V mX12_pairs (3 + (f + 1)) 34 [some (.ref 63), some (.int (nI a)), some (.int (nI b)), some (.int (nI x)), some (.int (nI y)), some (.int (nI o.toNat)), some (.int (nI (z + 1))), y7] [] σ1 (fun ra σ' => ra = some (.int (nI (prM P (f + 1) a b π).toNat)) ∧ FrI 79 σ σ' ∧ (prM P (f + 1) a b π = false → ∀ z, z < 14 → σ'.1 79 z = σ.1 79 z)) := by
                        intro o ho y7
                        refine ih2 (z + 1) o y7 (by omega) (by omega) ?_
                        rw [fz_s, ← Bool.and_assoc, ← hok, n4, Bool.true_and, ho]
                      have pzv := hc z (by omega)
                      rw [hp z (by omega)] at pzv
                      cases e : π z with
                      | none =>
                        rw [e] at pzv
                        have pzv2 : σ1.1 79 z = iZ (-1) := pzv
                        refine aa_go (aa_aload0 iX12_pairs_48) (aa_go (aa_getR iX12_pairs_49 fl_X12_245 (sh_63 hW1) rfl) (aa_go (aa_iload6 iX12_pairs_52) (aa_go (aa_ialE iX12_pairs_54 (sh_79 hW1) (by omega) (by omega) (pzv2)) ?_)))
                        refine aa_if_lt iX12_pairs_55 (fun n5 => ?_) (fun n5 => ?_)
                        · skip
                          refine aa_go (aa_iconst iX12_pairs_62 ki_0) (aa_go (aa_istore7 iX12_pairs_63 rfl (by decide)) (aa_go (aa_iload7 iX12_pairs_65) ?_))
                          refine aa_if_eqN iX12_pairs_67 (by omega) (fun n6 => ?_) (fun n6 => ?_)
                          · skip
                            refine aa_go (aa_iconst iX12_pairs_132 ki_1) (aa_go (aa_goto iX12_pairs_133) (aa_go (aa_istore5 iX12_pairs_137 rfl (by decide)) (aa_go (aa_iincN6 (k := 1) iX12_pairs_139 rfl (by decide)) (aa_go (aa_goto iX12_pairs_142) ?_))))
                            exact nx2 true (by rw [fz1, e]) _
                          · skip
                            omega
                        · skip
                          exact absurd (show iZ (-1) < 0 by decide) n5
                      | some q =>
                        rw [e] at pzv
                        have pzv2 : σ1.1 79 z = nI q := pzv
                        have qn := hq z q e
                        have uq := uL q qn
                        have b1 : ((pl_u P x).testBit z).toNat ≤ 1 := Bool.toNat_le _
                        have b2 : ((pl_u P y).testBit q).toNat ≤ 1 := Bool.toNat_le _
                        have b3 : ((pl_u P z).testBit x).toNat ≤ 1 := Bool.toNat_le _
                        have b4 : ((pl_u P q).testBit y).toNat ≤ 1 := Bool.toNat_le _
                        have f1 : fz1 P π x y z = (((pl_u P x).testBit z == (pl_u P y).testBit q) && ((pl_u P z).testBit x == (pl_u P q).testBit y)) := by rw [fz1, e]
                        refine aa_go (aa_aload0 iX12_pairs_48) (aa_go (aa_getR iX12_pairs_49 fl_X12_245 (sh_63 hW1) rfl) (aa_go (aa_iload6 iX12_pairs_52) (aa_go (aa_ialE iX12_pairs_54 (sh_79 hW1) (by omega) (by omega) (pzv2)) ?_)))
                        refine aa_go (aa_if_ltN iX12_pairs_55 (by omega)) ?_
                        refine aa_go (aa_iconst iX12_pairs_58 ki_1) (aa_go (aa_goto iX12_pairs_59) (aa_go (aa_istore7 iX12_pairs_63 rfl (by decide)) (aa_go (aa_iload7 iX12_pairs_65) ?_)))
                        refine aa_if_eqN iX12_pairs_67 (by omega) (fun n6 => ?_) (fun n6 => ?_)
                        · skip
                          omega
                        · skip
                          refine aa_go (aa_aload0 iX12_pairs_70) (aa_go (aa_getR iX12_pairs_71 fl_X12_47 (sh_63 hW1) rfl) (aa_go (aa_iload3 iX12_pairs_74) (aa_go (aa_ialE iX12_pairs_75 (sh_67 hW1) (by omega) (by omega) ((a3 x xn).2.2.1)) (aa_go (aa_iload6 iX12_pairs_76) (aa_go (aa_cSi iX12_pairs_78 (m_has (by omega) (by omega)) (by omega) lc_X12_has lk_X12_95 rfl (Nat.le_of_ble_eq_true rfl)) (aa_go (aa_aload0 iX12_pairs_81) (aa_go (aa_getR iX12_pairs_82 fl_X12_47 (sh_63 hW1) rfl) ?_)))))))
                          refine aa_go (aa_iload4 iX12_pairs_85) (aa_go (aa_ialE iX12_pairs_87 (sh_67 hW1) (by omega) (by omega) ((a3 y k3).2.2.1)) (aa_go (aa_aload0 iX12_pairs_88) (aa_go (aa_getR iX12_pairs_89 fl_X12_245 (sh_63 hW1) rfl) (aa_go (aa_iload6 iX12_pairs_92) (aa_go (aa_ialE iX12_pairs_94 (sh_79 hW1) (by omega) (by omega) (pzv2)) (aa_go (aa_cSi iX12_pairs_95 (m_has (by omega) (by omega)) (by omega) lc_X12_has lk_X12_95 rfl (Nat.le_of_ble_eq_true rfl)) ?_))))))
                          refine aa_ic_neN iX12_pairs_98 (by omega) (by omega) (fun n7 => ?_) (fun n7 => ?_)
                          · skip
                            refine aa_go (aa_iconst iX12_pairs_136 ki_0) (aa_go (aa_istore5 iX12_pairs_137 rfl (by decide)) (aa_go (aa_iincN6 (k := 1) iX12_pairs_139 rfl (by decide)) (aa_go (aa_goto iX12_pairs_142) ?_)))
                            exact nx2 false (by rw [f1, beq_eq_false_iff_ne.mpr (fun h => n7 (by rw [h]))]; rfl) _
                          · skip
                            refine aa_go (aa_aload0 iX12_pairs_101) (aa_go (aa_getR iX12_pairs_102 fl_X12_47 (sh_63 hW1) rfl) (aa_go (aa_iload6 iX12_pairs_105) (aa_go (aa_ialE iX12_pairs_107 (sh_67 hW1) (by omega) (by omega) ((a3 z n3).2.2.1)) (aa_go (aa_iload3 iX12_pairs_108) (aa_go (aa_cSi iX12_pairs_109 (m_has (by omega) (by omega)) (by omega) lc_X12_has lk_X12_95 rfl (Nat.le_of_ble_eq_true rfl)) (aa_go (aa_aload0 iX12_pairs_112) (aa_go (aa_getR iX12_pairs_113 fl_X12_47 (sh_63 hW1) rfl) ?_)))))))
                            refine aa_go (aa_aload0 iX12_pairs_116) (aa_go (aa_getR iX12_pairs_117 fl_X12_245 (sh_63 hW1) rfl) (aa_go (aa_iload6 iX12_pairs_120) (aa_go (aa_ialE iX12_pairs_122 (sh_79 hW1) (by omega) (by omega) (pzv2)) (aa_go (aa_ialE iX12_pairs_123 (sh_67 hW1) (by omega) (by omega) ((a3 q qn).2.2.1)) (aa_go (aa_iload4 iX12_pairs_124) (aa_go (aa_cSi iX12_pairs_126 (m_has (by omega) (by omega)) (by omega) lc_X12_has lk_X12_95 rfl (Nat.le_of_ble_eq_true rfl)) ?_))))))
                            have n8 : (pl_u P x).testBit z = (pl_u P y).testBit q := tn_inj n7
                            refine aa_ic_neN iX12_pairs_129 (by omega) (by omega) (fun n9 => ?_) (fun n9 => ?_)
                            · skip
                              refine aa_go (aa_iconst iX12_pairs_136 ki_0) (aa_go (aa_istore5 iX12_pairs_137 rfl (by decide)) (aa_go (aa_iincN6 (k := 1) iX12_pairs_139 rfl (by decide)) (aa_go (aa_goto iX12_pairs_142) ?_)))
                              exact nx2 false (by rw [f1, show ((pl_u P z).testBit x == (pl_u P q).testBit y) = false from beq_eq_false_iff_ne.mpr (fun h => n9 (by rw [h])), Bool.and_false]) _
                            · skip
                              have n10 : (pl_u P z).testBit x = (pl_u P q).testBit y := tn_inj n9
                              refine aa_go (aa_iconst iX12_pairs_132 ki_1) (aa_go (aa_goto iX12_pairs_133) (aa_go (aa_istore5 iX12_pairs_137 rfl (by decide)) (aa_go (aa_iincN6 (k := 1) iX12_pairs_139 rfl (by decide)) (aa_go (aa_goto iX12_pairs_142) ?_))))
                              exact nx2 true (by rw [f1, n8, n10]; simp) _
              refine aa_go (aa_iload2 iX12_pairs_23) (aa_go (aa_iload4 iX12_pairs_24) (aa_go (aa_cSi iX12_pairs_26 (m_has (by omega) (by omega)) (by omega) lc_X12_has lk_X12_95 rfl (Nat.le_of_ble_eq_true rfl)) (aa_go (aa_istore5 iX12_pairs_29 rfl (by decide)) (aa_go (aa_iconst iX12_pairs_31 ki_0) (aa_go (aa_istore6 iX12_pairs_32 rfl (by decide)) ?_)))))
              exact inner (pl_n P + 1) 0 (b.testBit y) _ (by omega) (by omega) (by rw [fz]; simp)
        refine aa_go (aa_iload1 iX12_pairs_6) (aa_go (aa_cSi iX12_pairs_7 (c_ntz (lb_nI (by omega) l2 l3)) (by omega) lc_J6_numberOfTrailingZeros_0f7a4 lk_X12_217 rfl (Nat.le_of_ble_eq_true rfl)) (aa_go (aa_istore3 iX12_pairs_10 rfl (by decide)) (aa_go (aa_iconst iX12_pairs_11 ki_0) (aa_go (aa_istore4 iX12_pairs_12 rfl (by decide)) ?_))))
        exact loop (pl_n P + 1) 0 σ _ _ _ (by omega) (by omega) FrI.rf (fun _ _ => rfl) rfl
      · skip
        have pt : prM P (f + 1) a b π = true := by rw [prM, decide_eq_true (by omega)]; rfl
        refine aa_go (aa_iconst iX12_pairs_4 ki_1) ?_
        refine aa_zretT iX12_pairs_5 rfl ?_
        exact ⟨by rw [pt]; rfl, FrI.rf, fun _ _ _ => rfl⟩
    obtain ⟨ra, σ', ⟨rfl, h1⟩, hS9⟩ := aa_S_of (avs := [.ref 63, .int (nI a), .int (nI b)]) (by decide) 5 [some (.ref 63), some (.int (nI a)), some (.int (nI b)), none, none, none, none, none] rfl rfl key
    exact ⟨σ', h1, hS9⟩
end
