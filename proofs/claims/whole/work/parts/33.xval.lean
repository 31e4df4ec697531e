/-! VALUES: the least number to which no step leads -/
def lz (b : Nat) : Nat := ((List.range (b + 1)).find? (fun k => !b.testBit k)).getD 0
theorem lz_spec (b : Nat) : b.testBit (lz b) = false ∧ ∀ j, j < lz b → b.testBit j = true := by
  have h0 : b.testBit b = false := bb_hi (Nat.lt_two_pow_self) (Nat.le_refl _)
  cases h : (List.range (b + 1)).find? (fun k => !b.testBit k) with
  | none =>
    rw [List.find?_eq_none] at h
    have := h b (List.mem_range.mpr (by omega))
    rw [h0] at this
    exact absurd rfl this
  | some k =>
    rw [List.find?_range_eq_some] at h
    obtain ⟨h1, h2, h3⟩ := h
    rw [lz, show (List.range (b + 1)).find? (fun k => !b.testBit k) = some k from List.find?_range_eq_some.mpr ⟨h1, h2, h3⟩]
    refine ⟨by simpa using h1, fun j hj => ?_⟩
    have := h3 j hj
    simpa using this
theorem lz_eq {b k : Nat} (h : b.testBit k = false) (h2 : ∀ j, j < k → b.testBit j = true) : lz b = k := by
  obtain ⟨g, g2⟩ := lz_spec b
  rcases Nat.lt_trichotomy (lz b) k with c | c | c
  · rw [h2 _ c] at g; exact absurd g (by decide)
  · exact c
  · rw [g2 _ c] at h; exact absurd h (by decide)
def orB (l : List Nat) (b : Nat) : Nat := l.foldl (fun b x => b ||| 2 ^ x) b
theorem orB_bit (l : List Nat) : ∀ b i, (orB l b).testBit i = (b.testBit i || decide (i ∈ l)) := by
  induction l with
  | nil => intro b i; simp [orB]
  | cons a t ih =>
    intro b i
    show (orB t (b ||| 2 ^ a)).testBit i = _
    rw [ih, Nat.testBit_or, bb_tp]
    by_cases c : a = i
    · subst c; simp
    · simp [c, show ¬ i = a from fun q => c q.symm]
def vlG (_ _ : Nat) (l : List (Nat × Nat)) : Nat := lz (orB (l.map (fun x => x.2)) 0)
def vl (P : pl_T) (s : Nat) : Nat := gv P vlG (fun h => h) 0 3 s
def vlb (P : pl_T) (s k : Nat) : Nat := orB ((mlk P 3 s k).map (fun j => vl P (pl_nx P s j))) 0
theorem vl_eq {P : pl_T} (ok : pl_ok P) (s : Nat) : vl P s = lz (vlb P s (pl_n P + pl_b P)) := by
  rw [vl, gv_eq ok, vlG, vlb, mlk_all, List.map_map]
  rfl
theorem vlb_t {P : pl_T} {s k : Nat} (hl : pl_lg P 3 s k = true) : vlb P s (k + 1) = vlb P s k ||| 2 ^ vl P (pl_nx P s k) := by
  rw [vlb, mlk_t hl, List.map_append, orB, List.foldl_append]; rfl
theorem vlb_f {P : pl_T} {s k : Nat} (hl : pl_lg P 3 s k = false) : vlb P s (k + 1) = vlb P s k := by
  rw [vlb, mlk_f hl]; rfl
theorem vl_mu {P : pl_T} (ok : pl_ok P) : ∀ m s, pl_mu P s ≤ m → vl P s ≤ pl_mu P s := by
  intro m
  induction m using Nat.strongRecOn with
  | ind m ih =>
    intro s hm
    have hs := lz_spec (vlb P s (pl_n P + pl_b P))
    rw [← vl_eq ok] at hs
    by_cases c : vl P s = 0
    · omega
    · have h1 := hs.2 (vl P s - 1) (by omega)
      rw [vlb, orB_bit] at h1
      simp only [Nat.zero_testBit, Bool.false_or, decide_eq_true_eq] at h1
      obtain ⟨j, hj, e⟩ := List.mem_map.mp h1
      have hl := pl_ML_mem.mp hj
      have mu := pl_mu_lt ok hl
      have := ih (pl_mu P (pl_nx P s j)) (by omega) (pl_nx P s j) (Nat.le_refl _)
      omega
theorem vl_le {P : pl_T} (ok : pl_ok P) (s : Nat) : vl P s ≤ 18 := Nat.le_trans (vl_mu ok _ s (Nat.le_refl _)) (pl_mu_le ok s)
theorem vlb_lt {P : pl_T} (ok : pl_ok P) (s k : Nat) : vlb P s k < 2 ^ 19 := by
  apply bb_lt
  intro i hi
  rw [vlb, orB_bit]
  simp only [Nat.zero_testBit, Bool.false_or, decide_eq_false_iff_not]
  intro h
  obtain ⟨j, _, e⟩ := List.mem_map.mp h
  have := vl_le ok (pl_nx P s j)
  omega
def KVs (P : pl_T) (s : Nat) (x : Int64) : Prop := x = lN 0 ∨ x = lN (vl P s + 1)
def KV (P : pl_T) (f : Nat → Int64) : Prop := ∀ s, s < 2 ^ (pl_n P + pl_b P) → KVs P s (f s)
theorem KV.set {P : pl_T} {σ : aa_St} {q s : Nat} {x : Int64} (h : KV P (σ.2.1 q)) (hx : KVs P s x) : KV P ((aa_sL σ q s x).2.1 q) := by
  intro t ht
  show KVs P t (aa_u2 σ.2.1 q s x q t)
  rw [aa_u2_eq]
  show KVs P t (if t = s then x else σ.2.1 q t)
  by_cases c : t = s
  · rw [if_pos c, c]; exact hx
  · rw [if_neg c]; exact h t ht
section
variable {r : Nat → Nat} {dy : List aa_Shp} {P : pl_T} {hs : List Nat}
theorem c_X3_valueFrom (hr2 : ∀ σ : aa_St, aa_W r dy σ → σ.2.2.1[r 2]? = some (.inl (1, 2 ^ (pl_n P + pl_b P)))) : ∀ m s dp (σ : aa_St), pl_mu P s ≤ m → s < 2 ^ (pl_n P + pl_b P) → dp + pl_mu P s ≤ 40 → aa_W r dy σ → XP P hs σ.1 → KV P (σ.2.1 (r 2)) →
    ∃ σ' : aa_St, (FrL (r 2) σ σ' ∧ KV P (σ'.2.1 (r 2))) ∧ aa_SX mX3_valueFrom (5 + m) [.ref 29, .int (nI s), .int (nI dp)] σ (some (.int (nI (vl P s)))) σ' := by
  intro m
  induction m using Nat.strongRecOn with
  | ind m ih =>
    intro s dp σ hm hs2 hdp hW hX hKV
    have ok := hX.ok
    have hn := hX.n14
    have hb := hX.b2
    have p16 := pw16 (k := pl_n P + pl_b P) (by omega)
    have hs_r2 := hr2 σ hW
    have lmv := pl_mv_lt P 3 s
    have vl18 := vl_le ok s
    have loop : ∀ f k (σ1 : aa_St) x3, pl_n P + pl_b P - k < f → k ≤ pl_n P + pl_b P → FrL (r 2) σ σ1 → KV P (σ1.2.1 (r 2)) → aa_V mX3_valueFrom (5 + m) 52 [some (.ref 29), some (.int (nI s)), some (.int (nI dp)), some (.long (lN x3)), none, some (.int (nI (pl_mv P 3 s))), some (.int (nI (pl_n P + pl_b P))), some (.int (nI (vlb P s k))), some (.int (nI k))] [] σ1 (fun r1 σ' => r1 = some (.int (nI (vl P s))) ∧ (FrL (r 2) σ σ' ∧ KV P (σ'.2.1 (r 2)))) := by
      intro f
      induction f with
      | zero => intro k σ1 x3 g1; omega
      | succ f ihf =>
        intro k σ1 x3 g1 g2 hF hKV1
        have hW1 := hW.of2 hF.2.1
        have hX1 : XP P hs σ1.1 := by rw [hF.1]; exact hX
        have hs_r2 := hr2 σ1 hW1
        have b19 := vlb_lt ok s k
        refine aa_go (aa_iload8 iX3_valueFrom_52) (aa_go (aa_iload6 iX3_valueFrom_54) ?_)
        refine aa_ic_geN iX3_valueFrom_56 (by omega) (by omega) (fun g3 => ?_) (fun g3 => ?_)
        · skip
          have e1 : k = pl_n P + pl_b P := by omega
          have sp := lz_spec (vlb P s k)
          rw [e1, ← vl_eq ok] at sp
          rw [e1]
          refine aa_go (aa_iload7 iX3_valueFrom_99) (aa_go (aa_iconst iX3_valueFrom_101 ki_m1) (aa_go (aa_ixor iX3_valueFrom_102) (aa_go (aa_cSi iX3_valueFrom_103 (c_X6_lowest (lb_not (by omega) sp.1 sp.2)) (by omega) lc_X6_lowest lk_X3_65 rfl (Nat.le_of_ble_eq_true rfl)) (aa_go (aa_istore8 iX3_valueFrom_106 rfl (by decide)) (aa_go (aa_aload0 iX3_valueFrom_108) (aa_go (aa_getR iX3_valueFrom_109 fl_X3_12 (sh_29 hW1) rfl) (aa_go (aa_iload1 iX3_valueFrom_112) ?_)))))))
          refine aa_go (aa_iload8 iX3_valueFrom_113) (aa_go (aa_iconst iX3_valueFrom_115 ki_1) (aa_go (aa_iaddN iX3_valueFrom_116 ) (aa_go (aa_i2lN iX3_valueFrom_117 (by omega)) (aa_go (aa_cVv iX3_valueFrom_118 (c_set30 hW1 hs_r2 (by omega) hs2 _) (by omega) lc_X4_set lk_X3_69 (sh_30 hW1) rfl rfl (Nat.le_of_ble_eq_true rfl)) (aa_go (aa_iload8 iX3_valueFrom_121) ?_)))))
          refine aa_iret iX3_valueFrom_123 rfl ?_
          exact ⟨rfl, hF.sL s _, hKV1.set (Or.inr rfl)⟩
        · skip
          refine aa_go (aa_iload5 iX3_valueFrom_59) (aa_go (aa_iload8 iX3_valueFrom_61) (aa_go (aa_ishrN iX3_valueFrom_63 (by omega) (by omega)) (aa_go (aa_iconst iX3_valueFrom_64 ki_1) (aa_go (aa_ibit iX3_valueFrom_65) ?_))))
          refine aa_if_eqB iX3_valueFrom_66 (fun g5 => ?_) (fun g5 => ?_)
          · skip
            rw [mv_bit g3] at g5
            refine aa_go (aa_iincN8 (k := 1) iX3_valueFrom_93 rfl (by decide)) (aa_go (aa_goto iX3_valueFrom_96) ?_)
            have := ihf (k + 1) σ1 x3 (by omega) (by omega) hF hKV1
            rw [vlb_f g5] at this
            exact this
          · skip
            rw [mv_bit g3] at g5
            have mu := pl_mu_lt ok g5
            have nlt := pl_nx_lt ok hs2 g3
            have vl19 := vl_le ok (pl_nx P s k)
            obtain ⟨σ2, ⟨hF2, hKV2⟩, hS2⟩ := ih (pl_mu P (pl_nx P s k)) (by omega) (pl_nx P s k) (dp + 1) σ1 (Nat.le_refl _) nlt (by omega) hW1 hX1 hKV1
            refine aa_go (aa_iload7 iX3_valueFrom_69) (aa_go (aa_iconst iX3_valueFrom_71 ki_1) (aa_go (aa_aload0 iX3_valueFrom_72) (aa_go (aa_aload0 iX3_valueFrom_73) (aa_go (aa_getR iX3_valueFrom_74 fl_X3_31 (sh_29 hW1) rfl) (aa_go (aa_iload1 iX3_valueFrom_77) (aa_go (aa_iload8 iX3_valueFrom_78) (aa_go (aa_cVi iX3_valueFrom_80 (c_X6_behind hW1 hX1 g3) (by omega) lc_X6_behind lk_X3_62 (sh_7 hW1) rfl rfl (Nat.le_of_ble_eq_true rfl)) ?_)))))))
            refine aa_go (aa_iload2 iX3_valueFrom_83) (aa_go (aa_iconst iX3_valueFrom_84 ki_1) (aa_go (aa_iaddN iX3_valueFrom_85 ) (aa_go (aa_cVi iX3_valueFrom_86 (hS2) (by omega) lc_X3_valueFrom lk_X3_49 (sh_29 hW1) rfl rfl (Nat.le_of_ble_eq_true rfl)) (aa_go (aa_ishlN iX3_valueFrom_89 (by omega)) (aa_go (aa_iorN iX3_valueFrom_90 ) ?_)))))
            refine aa_go (aa_top (y := nI (vlb P s (k + 1))) (by rw [vlb_t g5, Nat.one_shiftLeft])) ?_
            refine aa_go (aa_istore7 iX3_valueFrom_91 rfl (by decide)) (aa_go (aa_iincN8 (k := 1) iX3_valueFrom_93 rfl (by decide)) (aa_go (aa_goto iX3_valueFrom_96) ?_))
            exact ihf (k + 1) σ2 x3 (by omega) (by omega) (hF.tr hF2) hKV2
    have key : aa_V mX3_valueFrom (5 + m) 0 [some (.ref 29), some (.int (nI s)), some (.int (nI dp)), none, none, none, none, none, none] [] σ (fun r1 σ' => r1 = some (.int (nI (vl P s))) ∧ (FrL (r 2) σ σ' ∧ KV P (σ'.2.1 (r 2)))) := by
      have start : ∀ w, σ.2.1 (r 2) s = lN w → (w = 0 ∨ w = vl P s + 1) → aa_V mX3_valueFrom (5 + m) 0 [some (.ref 29), some (.int (nI s)), some (.int (nI dp)), none, none, none, none, none, none] [] σ (fun r1 σ' => r1 = some (.int (nI (vl P s))) ∧ (FrL (r 2) σ σ' ∧ KV P (σ'.2.1 (r 2)))) := by
        intro w hw hw2
        refine aa_go (aa_aload0 iX3_valueFrom_0) (aa_go (aa_getR iX3_valueFrom_1 fl_X3_12 (sh_29 hW) rfl) (aa_go (aa_iload1 iX3_valueFrom_4) (aa_go (aa_cVl iX3_valueFrom_5 (hw ▸ c_at30 hW hs_r2 (by omega) hs2) (by omega) lc_X4_at lk_X3_52 (sh_30 hW) rfl rfl (Nat.le_of_ble_eq_true rfl)) (aa_go (aa_lstore3 iX3_valueFrom_8 rfl (by decide)) (aa_go (aa_lload3 iX3_valueFrom_9) (aa_go (aa_lconst iX3_valueFrom_10 kl_0) (aa_go (aa_lcmp iX3_valueFrom_11) ?_)))))))
        refine aa_if_neC iX3_valueFrom_12 (by omega) (by omega) (fun h1 => ?_) (fun h1 => ?_)
        · skip
          have h2 : w = vl P s + 1 := hw2.resolve_left h1
          refine aa_go (aa_lload3 iX3_valueFrom_21) (aa_go (aa_l2iN iX3_valueFrom_22) (aa_go (aa_iconst iX3_valueFrom_23 ki_1) (aa_go (aa_isubN iX3_valueFrom_24 (by omega)) ?_)))
          refine aa_iret iX3_valueFrom_25 rfl ?_
          exact ⟨by rw [h2]; rfl, FrL.rf, hKV⟩
        · skip
          refine aa_go (aa_iload2 iX3_valueFrom_15) (aa_go (aa_bipush iX3_valueFrom_16 kb_40) ?_)
          refine aa_ic_leN iX3_valueFrom_18 (by omega) (by omega) (fun h2 => ?_) (fun h2 => ?_)
          · skip
            refine aa_go (aa_aload0 iX3_valueFrom_26) (aa_go (aa_getR iX3_valueFrom_27 fl_X3_31 (sh_29 hW) rfl) (aa_go (aa_iload1 iX3_valueFrom_30) (aa_go (aa_iconst iX3_valueFrom_31 ki_3) (aa_go (aa_cVi iX3_valueFrom_32 (c_X6_moves hW hX (by omega)) (by omega) lc_X6_moves lk_X3_56 (sh_7 hW) rfl rfl (Nat.le_of_ble_eq_true rfl)) (aa_go (aa_istore5 iX3_valueFrom_35 rfl (by decide)) (aa_go (aa_aload0 iX3_valueFrom_37) (aa_go (aa_getR iX3_valueFrom_38 fl_X3_31 (sh_29 hW) rfl) ?_)))))))
            refine aa_go (aa_cVi iX3_valueFrom_41 (c_X6_steps hW hX) (by omega) lc_X6_steps lk_X3_59 (sh_7 hW) rfl rfl (Nat.le_of_ble_eq_true rfl)) (aa_go (aa_istore6 iX3_valueFrom_44 rfl (by decide)) (aa_go (aa_iconst iX3_valueFrom_46 ki_0) (aa_go (aa_istore7 iX3_valueFrom_47 rfl (by decide)) (aa_go (aa_iconst iX3_valueFrom_49 ki_0) (aa_go (aa_istore8 iX3_valueFrom_50 rfl (by decide)) ?_)))))
            exact loop (pl_n P + pl_b P + 1) 0 σ w (by omega) (by omega) FrL.rf hKV
          · skip
            omega
      rcases hKV s hs2 with h | h
      · exact start 0 h (Or.inl rfl)
      · exact start _ h (Or.inr rfl)
    obtain ⟨r1, σ', ⟨rfl, h1⟩, hS⟩ := aa_S_of (avs := [.ref 29, .int (nI s), .int (nI dp)]) (by decide) 6 [some (.ref 29), some (.int (nI s)), some (.int (nI dp)), none, none, none, none, none, none] rfl rfl key
    exact ⟨σ', h1, hS⟩
end
