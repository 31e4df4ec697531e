/-! ALL THE STATES THAT A STATE LEADS TO -/
def rc (P : pl_T) (x y : Nat × Nat) : Prop := ∀ S : Nat × Nat → Prop, S x → (∀ z, S z → ∀ j, pl_lg P z.2 z.1 j = true → S (pl_nx P z.1 j, 1 - z.2)) → S y
theorem rc.rf {P : pl_T} (x : Nat × Nat) : rc P x x := fun _ h _ => h
theorem rc.st {P : pl_T} {x y : Nat × Nat} {j : Nat} (hl : pl_lg P x.2 x.1 j = true) (h : rc P (pl_nx P x.1 j, 1 - x.2) y) : rc P x y := fun S h1 h2 => h S (h2 x h1 j hl) h2
/-- what a visit of x adds -/
def vr (P : pl_T) (x : Nat × Nat) (L L' : List (Nat × Nat)) : Prop := (∀ y, y ∈ L → y ∈ L') ∧ x ∈ L' ∧ ∀ y, y ∈ L' → y ∉ L → rc P x y ∧ ∀ j, pl_lg P y.2 y.1 j = true → (pl_nx P y.1 j, 1 - y.2) ∈ L'
def lo (P : pl_T) (e : Nat) (L : List (Nat × Nat)) : Nat := (L.filter (fun y => !wi P e y.2 y.1)).length
def MKs (W : Nat) (L : List (Nat × Nat)) (s : Nat) (x : Int64) : Prop := ∃ v, x = lN v ∧ v >>> 2 ≤ W ∧ ∀ h, h ≤ 1 → (decide (v >>> 2 = W) && v.testBit h) = decide ((s, h) ∈ L)
def MK (P : pl_T) (W : Nat) (L : List (Nat × Nat)) (f : Nat → Int64) : Prop := ∀ s, s < 2 ^ (pl_n P + pl_b P) → MKs W L s (f s)
/-- the walk under way -/
def VI (P : pl_T) (hs : List Nat) (r : Nat → Nat) (dy : List aa_Shp) (W e : Nat) (L : List (Nat × Nat)) (σ : aa_St) : Prop := aa_W r dy σ ∧ XP P hs σ.1 ∧ KI P (σ.2.1 (r 0)) ∧ MK P W L (σ.2.1 (r 1)) ∧ L.Nodup ∧ σ.1 24 3 = nI W ∧ σ.1 24 4 = nI L.length ∧ σ.1 24 5 = nI (lo P e L)
def FrV (r : Nat → Nat) (σ σ' : aa_St) : Prop := σ'.2.2 = σ.2.2 ∧ (∀ x, x ≠ 24 → σ'.1 x = σ.1 x) ∧ (∀ k, k ≠ 4 → k ≠ 5 → σ'.1 24 k = σ.1 24 k) ∧ (∀ x, x ≠ r 0 → x ≠ r 1 → σ'.2.1 x = σ.2.1 x)
theorem FrV.rf {r : Nat → Nat} {σ : aa_St} : FrV r σ σ := ⟨rfl, fun _ _ => rfl, fun _ _ _ => rfl, fun _ _ _ => rfl⟩
theorem FrV.tr {r : Nat → Nat} {σ σ1 σ2 : aa_St} (h : FrV r σ σ1) (g : FrV r σ1 σ2) : FrV r σ σ2 := ⟨g.1.trans h.1, fun x hx => (g.2.1 x hx).trans (h.2.1 x hx), fun k h1 h2 => (g.2.2.1 k h1 h2).trans (h.2.2.1 k h1 h2), fun x h1 h2 => (g.2.2.2 x h1 h2).trans (h.2.2.2 x h1 h2)⟩
theorem FrV.sI {r : Nat → Nat} {σ σ1 : aa_St} (h : FrV r σ σ1) {k : Nat} (hk : k = 4 ∨ k = 5) (x : Int32) : FrV r σ (aa_sI σ1 24 k x) := by
  refine ⟨h.1, fun a ha => (aa_u2_ne ha).trans (h.2.1 a ha), fun q h1 h2 => ?_, h.2.2.2⟩
  show aa_u2 σ1.1 24 k x 24 q = _
  rw [aa_u2_eq]
  show (if q = k then _ else σ1.1 24 q) = _
  rw [if_neg (by omega)]
  exact h.2.2.1 q h1 h2
theorem FrV.sL {r : Nat → Nat} {σ σ1 : aa_St} (h : FrV r σ σ1) (k : Nat) (x : Int64) : FrV r σ (aa_sL σ1 (r 1) k x) := ⟨h.1, h.2.1, h.2.2.1, fun a h0 h1 => (aa_u2_ne h1).trans (h.2.2.2 a h0 h1)⟩
theorem FrV.L {r : Nat → Nat} {σ σ1 σ2 : aa_St} (h : FrV r σ σ1) (hF : FrL (r 0) σ1 σ2) : FrV r σ σ2 := ⟨hF.2.1.trans h.1, fun x hx => by rw [hF.1]; exact h.2.1 x hx, fun k h1 h2 => by rw [hF.1]; exact h.2.2.1 k h1 h2, fun x h0 h1 => (hF.2.2 x h0).trans (h.2.2.2 x h0 h1)⟩
theorem MKs_add {W s h v b : Nat} {L : List (Nat × Nat)} (hh : h ≤ 1) (hv : v >>> 2 ≤ W) (hK : ∀ h, h ≤ 1 → (decide (v >>> 2 = W) && v.testBit h) = decide ((s, h) ∈ L)) (hb : b = if v >>> 2 = W then v else W <<< 2) : MKs W ((s, h) :: L) s (lN (b ||| 1 <<< h)) := by
  have b2 : b >>> 2 = W := by
    rw [hb]
    split
    · assumption
    · rw [Nat.shiftLeft_shiftRight]
  have h4 : (1 <<< h) >>> 2 = 0 := by
    rcases (show h = 0 ∨ h = 1 by omega) with rfl | rfl <;> rfl
  have e2 : (b ||| 1 <<< h) >>> 2 = W := by rw [Nat.shiftRight_or_distrib, b2, h4, Nat.or_zero]
  have bb : ∀ q, q ≤ 1 → b.testBit q = decide ((s, q) ∈ L) := by
    intro q hq
    have := hK q hq
    rw [hb]
    by_cases c : v >>> 2 = W
    · rw [if_pos c]; simpa [c] using this
    · rw [if_neg c, ← this, Nat.testBit_shiftLeft]; simp [c, show ¬ 2 ≤ q by omega]
  refine ⟨_, rfl, by omega, fun q hq => ?_⟩
  rw [e2, Nat.testBit_or, bb q hq, Nat.one_shiftLeft, bb_tp]
  by_cases c : h = q
  · subst c; simp
  · simp [c, show ¬ q = h from fun x => c x.symm]
theorem MKs_keep {W s h t : Nat} {L : List (Nat × Nat)} {x : Int64} (hne : t ≠ s) (hK : MKs W L t x) : MKs W ((s, h) :: L) t x := by
  obtain ⟨v, h1, h2, h3⟩ := hK
  refine ⟨v, h1, h2, fun q hq => ?_⟩
  rw [h3 q hq]
  simp [hne]
theorem MK.set {P : pl_T} {σ : aa_St} {q s h W : Nat} {L : List (Nat × Nat)} {x : Int64} (hM : MK P W L (σ.2.1 q)) (hx : MKs W ((s, h) :: L) s x) : MK P W ((s, h) :: L) ((aa_sL σ q s x).2.1 q) := by
  intro t ht
  show MKs W _ t (aa_u2 σ.2.1 q s x q t)
  rw [aa_u2_eq]
  show MKs W _ t (if t = s then x else σ.2.1 q t)
  by_cases c : t = s
  · rw [if_pos c, c]; exact hx
  · rw [if_neg c]; exact MKs_keep c (hM t ht)
section
variable {r : Nat → Nat} {dy : List aa_Shp} {P : pl_T} {hs : List Nat}
theorem c_X9_visit (hr0 : ∀ σ : aa_St, aa_W r dy σ → σ.2.2.1[r 0]? = some (.inl (1, 2 ^ (pl_n P + pl_b P)))) (hr1 : ∀ σ : aa_St, aa_W r dy σ → σ.2.2.1[r 1]? = some (.inl (1, 2 ^ (pl_n P + pl_b P)))) (hne : r 0 ≠ r 1) {W e : Nat} (hw28 : W < 2 ^ 28) (he : e ≤ 1) : ∀ m s h dp (σ : aa_St) L, pl_mu P s ≤ m → s < 2 ^ (pl_n P + pl_b P) → h ≤ 1 → dp + pl_mu P s ≤ 40 → VI P hs r dy W e L σ →
    ∃ σ' : aa_St, (FrV r σ σ' ∧ ∃ L', vr P (s, h) L L' ∧ VI P hs r dy W e L' σ') ∧ aa_SX mX9_visit (30 + m) [.ref 24, .int (nI s), .int (nI h), .int (nI e), .int (nI dp)] σ none σ' := by
  intro m
  induction m using Nat.strongRecOn with
  | ind m ih =>
    intro s h dp σ L hm hs2 hh hdp hVI
    obtain ⟨hW, hX, hKI, hMK, hnd, hwk, hre, hlo⟩ := hVI
    have ok := hX.ok
    have hn := hX.n14
    have hb := hX.b2
    have p16 := pw16 (k := pl_n P + pl_b P) (by omega)
    have hs_r0 := hr0 σ hW
    have hs_r1 := hr1 σ hW
    obtain ⟨v, hv, hvW, hK⟩ := hMK s hs2
    have hv30 : v < 2 ^ 31 := by
      have : v >>> 2 = v / 4 := Nat.shiftRight_eq_div_pow v 2
      omega
    have lmv := pl_mv_lt P h s
    have mu18 := pl_mu_le ok s
    have loop : ∀ f k (σ1 : aa_St) L1 x5 x7, pl_n P + pl_b P - k < f → k ≤ pl_n P + pl_b P → FrV r σ σ1 → VI P hs r dy W e L1 σ1 → (∀ y, y ∈ (s, h) :: L → y ∈ L1) → (∀ j, j < k → pl_lg P h s j = true → (pl_nx P s j, 1 - h) ∈ L1) → (∀ y, y ∈ L1 → y ∉ (s, h) :: L → rc P (s, h) y ∧ ∀ j, pl_lg P y.2 y.1 j = true → (pl_nx P y.1 j, 1 - y.2) ∈ L1) → aa_V mX9_visit (30 + m) 124 [some (.ref 24), some (.int (nI s)), some (.int (nI h)), some (.int (nI e)), some (.int (nI dp)), some (.long (lN x5)), none, some (.long (lN x7)), none, some (.int (nI (pl_mv P h s))), some (.int (nI (pl_n P + pl_b P))), some (.int (nI k))] [] σ1 (fun r1 σ' => r1 = none ∧ (FrV r σ σ' ∧ ∃ L', vr P (s, h) L L' ∧ VI P hs r dy W e L' σ')) := by
      intro f
      induction f with
      | zero => intro k σ1 L1 x5 x7 g1; omega
      | succ f ihf =>
        intro k σ1 L1 x5 x7 g1 g2 hF hV1 i1 i2 i3
        obtain ⟨hW1, hX1, -⟩ := id hV1
        refine aa_go (aa_iload11 iX9_visit_124) (aa_go (aa_iload10 iX9_visit_126) ?_)
        refine aa_ic_geN iX9_visit_128 (by omega) (by omega) (fun g3 => ?_) (fun g3 => ?_)
        · skip
          have e1 : k = pl_n P + pl_b P := by omega
          refine aa_vret iX9_visit_169 rfl ?_
          refine ⟨rfl, hF, L1, ⟨fun y hy => i1 y (List.mem_cons_of_mem _ hy), i1 _ List.mem_cons_self, fun y hy hyL => ?_⟩, hV1⟩
          by_cases c : y = (s, h)
          · subst c
            exact ⟨rc.rf _, fun j hj => i2 j (by have := pl_lg_lt hj; omega) hj⟩
          · exact i3 y hy (fun q => by rcases List.mem_cons.mp q with q | q; exact c q; exact hyL q)
        · skip
          refine aa_go (aa_iload9 iX9_visit_131) (aa_go (aa_iload11 iX9_visit_133) (aa_go (aa_ishrN iX9_visit_135 (by omega) (by omega)) (aa_go (aa_iconst iX9_visit_136 ki_1) (aa_go (aa_ibit iX9_visit_137) ?_))))
          refine aa_if_eqB iX9_visit_138 (fun g5 => ?_) (fun g5 => ?_)
          · skip
            rw [mv_bit g3] at g5
            refine aa_go (aa_iincN11 (k := 1) iX9_visit_163 rfl (by decide)) (aa_go (aa_goto iX9_visit_166) ?_)
            refine ihf (k + 1) σ1 L1 x5 x7 (by omega) (by omega) hF hV1 i1 (fun j hj hl => ?_) i3
            by_cases c : j = k
            · rw [c, g5] at hl; exact absurd hl (by decide)
            · exact i2 j (by omega) hl
          · skip
            rw [mv_bit g3] at g5
            have mu := pl_mu_lt ok g5
            have nlt := pl_nx_lt ok hs2 g3
            obtain ⟨σ2, ⟨hF2, L2, hv2, hV2⟩, hS2⟩ := ih (pl_mu P (pl_nx P s k)) (by omega) (pl_nx P s k) (1 - h) (dp + 1) σ1 L1 (Nat.le_refl _) nlt (by omega) (by omega) hV1
            refine aa_go (aa_aload0 iX9_visit_141) (aa_go (aa_aload0 iX9_visit_142) (aa_go (aa_getR iX9_visit_143 fl_X9_31 (sh_24 hW1) rfl) (aa_go (aa_iload1 iX9_visit_146) (aa_go (aa_iload11 iX9_visit_147) (aa_go (aa_cVi iX9_visit_149 (c_X6_behind hW1 hX1 g3) (by omega) lc_X6_behind lk_X9_57 (sh_7 hW1) rfl rfl (Nat.le_of_ble_eq_true rfl)) (aa_go (aa_iconst iX9_visit_152 ki_1) (aa_go (aa_iload2 iX9_visit_153) ?_)))))))
            refine aa_go (aa_isubN iX9_visit_154 (by omega)) (aa_go (aa_iload3 iX9_visit_155) (aa_go (aa_iload4 iX9_visit_156) (aa_go (aa_iconst iX9_visit_158 ki_1) (aa_go (aa_iaddN iX9_visit_159 ) (aa_go (aa_cVv iX9_visit_160 (hS2) (by omega) lc_X9_visit lk_X9_87 (sh_24 hW1) rfl rfl (Nat.le_of_ble_eq_true rfl)) (aa_go (aa_iincN11 (k := 1) iX9_visit_163 rfl (by decide)) (aa_go (aa_goto iX9_visit_166) ?_)))))))
            refine ihf (k + 1) σ2 L2 x5 x7 (by omega) (by omega) (hF.tr hF2) hV2 (fun y hy => hv2.1 y (i1 y hy)) (fun j hj hl => ?_) (fun y hy hyL => ?_)
            · by_cases c : j = k
              · rw [c]; exact hv2.2.1
              · exact hv2.1 _ (i2 j (by omega) hl)
            · by_cases c : y ∈ L1
              · exact ⟨(i3 y c hyL).1, fun j hj => hv2.1 _ ((i3 y c hyL).2 j hj)⟩
              · have := hv2.2.2 y hy c
                exact ⟨rc.st (x := (s, h)) g5 this.1, this.2⟩
    -- from 35
    have tail : ∀ b, b = (if v >>> 2 = W then v else W <<< 2) → aa_V mX9_visit (30 + m) 35 [some (.ref 24), some (.int (nI s)), some (.int (nI h)), some (.int (nI e)), some (.int (nI dp)), some (.long (lN v)), none, none, none, none, none, none] [.long (lN b)] σ (fun r1 σ' => r1 = none ∧ (FrV r σ σ' ∧ ∃ L', vr P (s, h) L L' ∧ VI P hs r dy W e L' σ')) := by
      intro b hb0
      have hb31 : b < 2 ^ 31 := by
        rw [hb0]
        split
        · exact hv30
        · rw [Nat.shiftLeft_eq]; omega
      have bbit : b.testBit h = decide ((s, h) ∈ L) := by
        have := hK h hh
        rw [hb0]
        by_cases c : v >>> 2 = W
        · rw [if_pos c]; simpa [c] using this
        · rw [if_neg c, ← this, Nat.testBit_shiftLeft]; simp [c, show ¬ 2 ≤ h by omega]
      have hM1 := hMK.set (q := r 1) (MKs_add hh hvW hK hb0)
      refine aa_go (aa_lstore7 iX9_visit_35 rfl (by decide)) (aa_go (aa_lload7 iX9_visit_37) (aa_go (aa_iload2 iX9_visit_39) (aa_go (aa_lshrN iX9_visit_40 (by omega) (by omega)) (aa_go (aa_lconst iX9_visit_41 kl_1) (aa_go (aa_landN iX9_visit_42 ) ?_)))))
      refine aa_go (aa_topl (y := lN (b.testBit h).toNat) (by rw [bb_bit])) ?_
      have hb1 : (b.testBit h).toNat < 2 := by cases b.testBit h <;> decide
      refine aa_go (aa_lconst iX9_visit_43 kl_0) (aa_go (aa_lcmp iX9_visit_44) ?_)
      refine aa_if_neC iX9_visit_45 (by omega) (by omega) (fun h1 => ?_) (fun h1 => ?_)
      · skip
        refine aa_vret iX9_visit_55 rfl ?_
        refine ⟨rfl, FrV.rf, L, ⟨fun y hy => hy, ?_, fun y hy hyL => absurd hy hyL⟩, hW, hX, hKI, hMK, hnd, hwk, hre, hlo⟩
        rw [bbit] at h1
        by_cases c : (s, h) ∈ L
        · exact c
        · simp [c] at h1
      · skip
        have hnot : (s, h) ∉ L := by
          intro c
          rw [bbit] at h1
          simp [c] at h1
        have hnd1 : ((s, h) :: L).Nodup := List.nodup_cons.mpr ⟨hnot, hnd⟩
        refine aa_go (aa_iload4 iX9_visit_48) (aa_go (aa_bipush iX9_visit_50 kb_40) ?_)
        refine aa_ic_leN iX9_visit_52 (by omega) (by omega) (fun h2 => ?_) (fun h2 => ?_)
        · skip
          have hWa := (hW.sL (r 1) s (lN (b ||| 1 <<< h)))
          have hWb := hWa.sI 24 4 (nI (L.length + 1))
          have hXb : XP P hs (aa_sI (aa_sL σ (r 1) s (lN (b ||| 1 <<< h))) 24 4 (nI (L.length + 1))).1 := hX.fr ⟨rfl, rfl, rfl⟩ (fun q h1 h2 => aa_u2_ne (by omega))
          have hKb : KI P ((aa_sI (aa_sL σ (r 1) s (lN (b ||| 1 <<< h))) 24 4 (nI (L.length + 1))).2.1 (r 0)) := by
            show KI P (aa_u2 σ.2.1 (r 1) s (lN (b ||| 1 <<< h)) (r 0))
            rw [aa_u2_ne hne]; exact hKI
          obtain ⟨σ2, ⟨hF2, hK2⟩, hS2⟩ := c_X9_victoryFrom hr0 he (pl_mu P s) s h 0 _ (Nat.le_refl _) hs2 hh (by omega) hWb hXb hKb
          have hW2 := hWb.of2 hF2.2.1
          have hX2 : XP P hs σ2.1 := by rw [hF2.1]; exact hXb
          have hMK2 : MK P W ((s, h) :: L) (σ2.2.1 (r 1)) := by rw [hF2.2.2 (r 1) hne.symm]; exact hM1
          have hwk2 : σ2.1 24 3 = nI W := by rw [hF2.1]; exact hwk
          have hre2 : σ2.1 24 4 = nI ((s, h) :: L).length := by rw [hF2.1]; rfl
          have hlo2 : σ2.1 24 5 = nI (lo P e L) := by rw [hF2.1]; exact hlo
          have hFV2 : FrV r σ σ2 := ((FrV.rf.sL s _).sI (Or.inl rfl) _).L hF2
          refine aa_go (aa_aload0 iX9_visit_56) (aa_go (aa_getR iX9_visit_57 fl_X9_18 (sh_24 hW) rfl) (aa_go (aa_iload1 iX9_visit_60) (aa_go (aa_lload7 iX9_visit_61) (aa_go (aa_lconst iX9_visit_63 kl_1) (aa_go (aa_iload2 iX9_visit_64) (aa_go (aa_lshlN iX9_visit_65 (by omega)) (aa_go (aa_lorN iX9_visit_66 ) ?_)))))))
          refine aa_go (aa_cVv iX9_visit_67 (c_set27 hW hs_r1 (by omega) hs2 _) (by omega) lc_X4_set lk_X9_60 (sh_27 hW) rfl rfl (Nat.le_of_ble_eq_true rfl)) ?_
          refine aa_go (aa_aload0 iX9_visit_70) (aa_go (aa_dup iX9_visit_71 rfl) (aa_go (aa_getE iX9_visit_72 fl_X9_25 (sh_24 hWa) rfl hre) (aa_go (aa_iconst iX9_visit_75 ki_1) (aa_go (aa_iaddN iX9_visit_76 ) (aa_go (aa_putI iX9_visit_77 fl_X9_25 (fun h => nomatch h) (sh_24 hWa) rfl ⟨rfl, rfl⟩) ?_)))))
          refine aa_go (aa_aload0 iX9_visit_80) (aa_go (aa_iload1 iX9_visit_81) (aa_go (aa_iload2 iX9_visit_82) (aa_go (aa_iload3 iX9_visit_83) (aa_go (aa_iconst iX9_visit_84 ki_0) (aa_go (aa_cVi iX9_visit_85 (hS2) (by omega) lc_X9_victoryFrom lk_X9_39 (sh_24 hWb) rfl rfl (Nat.le_of_ble_eq_true rfl)) ?_)))))
          refine aa_if_neB iX9_visit_88 (fun h3 => ?_) (fun h3 => ?_)
          · skip
            have e9 : lo P e ((s, h) :: L) = lo P e L := by rw [lo, List.filter_cons_of_neg (by simp [h3])]; rfl
            refine aa_go (aa_aload0 iX9_visit_101) (aa_go (aa_getR iX9_visit_102 fl_X9_31 (sh_24 hW2) rfl) (aa_go (aa_iload1 iX9_visit_105) (aa_go (aa_iload2 iX9_visit_106) (aa_go (aa_cVi iX9_visit_107 (c_X6_moves hW2 hX2 (by omega)) (by omega) lc_X6_moves lk_X9_47 (sh_7 hW2) rfl rfl (Nat.le_of_ble_eq_true rfl)) (aa_go (aa_istore9 iX9_visit_110 rfl (by decide)) (aa_go (aa_aload0 iX9_visit_112) (aa_go (aa_getR iX9_visit_113 fl_X9_31 (sh_24 hW2) rfl) ?_)))))))
            refine aa_go (aa_cVi iX9_visit_116 (c_X6_steps hW2 hX2) (by omega) lc_X6_steps lk_X9_53 (sh_7 hW2) rfl rfl (Nat.le_of_ble_eq_true rfl)) (aa_go (aa_istore10 iX9_visit_119 rfl (by decide)) (aa_go (aa_iconst iX9_visit_121 ki_0) (aa_go (aa_istore11 iX9_visit_122 rfl (by decide)) ?_)))
            exact loop (pl_n P + pl_b P + 1) 0 σ2 ((s, h) :: L) _ _ (by omega) (by omega) hFV2 ⟨hW2, hX2, hK2, hMK2, hnd1, hwk2, hre2, by rw [e9]; exact hlo2⟩ (fun y hy => hy) (fun j hj => absurd hj (by omega)) (fun y hy hyL => absurd hy hyL)
          · skip
            have e9 : lo P e ((s, h) :: L) = lo P e L + 1 := by rw [lo, List.filter_cons_of_pos (by simp [h3])]; rfl
            have hW3 := hW2.sI 24 5 (nI (lo P e L + 1))
            have hX3 : XP P hs (aa_sI σ2 24 5 (nI (lo P e L + 1))).1 := hX2.fr ⟨rfl, rfl, rfl⟩ (fun q h1 h2 => aa_u2_ne (by omega))
            refine aa_go (aa_aload0 iX9_visit_91) (aa_go (aa_dup iX9_visit_92 rfl) (aa_go (aa_getE iX9_visit_93 fl_X9_28 (sh_24 hW2) rfl hlo2) (aa_go (aa_iconst iX9_visit_96 ki_1) (aa_go (aa_iaddN iX9_visit_97 ) (aa_go (aa_putI iX9_visit_98 fl_X9_28 (fun h => nomatch h) (sh_24 hW2) rfl ⟨rfl, rfl⟩) ?_)))))
            refine aa_go (aa_aload0 iX9_visit_101) (aa_go (aa_getR iX9_visit_102 fl_X9_31 (sh_24 hW3) rfl) (aa_go (aa_iload1 iX9_visit_105) (aa_go (aa_iload2 iX9_visit_106) (aa_go (aa_cVi iX9_visit_107 (c_X6_moves hW3 hX3 (by omega)) (by omega) lc_X6_moves lk_X9_47 (sh_7 hW3) rfl rfl (Nat.le_of_ble_eq_true rfl)) (aa_go (aa_istore9 iX9_visit_110 rfl (by decide)) (aa_go (aa_aload0 iX9_visit_112) (aa_go (aa_getR iX9_visit_113 fl_X9_31 (sh_24 hW3) rfl) ?_)))))))
            refine aa_go (aa_cVi iX9_visit_116 (c_X6_steps hW3 hX3) (by omega) lc_X6_steps lk_X9_53 (sh_7 hW3) rfl rfl (Nat.le_of_ble_eq_true rfl)) (aa_go (aa_istore10 iX9_visit_119 rfl (by decide)) (aa_go (aa_iconst iX9_visit_121 ki_0) (aa_go (aa_istore11 iX9_visit_122 rfl (by decide)) ?_)))
            exact loop (pl_n P + pl_b P + 1) 0 (aa_sI σ2 24 5 (nI (lo P e L + 1))) ((s, h) :: L) _ _ (by omega) (by omega) (hFV2.sI (Or.inr rfl) _) ⟨hW3, hX3, hK2, hMK2, hnd1, hwk2, hre2, by rw [e9]; rfl⟩ (fun y hy => hy) (fun j hj => absurd hj (by omega)) (fun y hy hyL => absurd hy hyL)
        · skip
          omega
    have key : aa_V mX9_visit (30 + m) 0 [some (.ref 24), some (.int (nI s)), some (.int (nI h)), some (.int (nI e)), some (.int (nI dp)), none, none, none, none, none, none, none] [] σ (fun r1 σ' => r1 = none ∧ (FrV r σ σ' ∧ ∃ L', vr P (s, h) L L' ∧ VI P hs r dy W e L' σ')) := by
      refine aa_go (aa_aload0 iX9_visit_0) (aa_go (aa_getR iX9_visit_1 fl_X9_18 (sh_24 hW) rfl) (aa_go (aa_iload1 iX9_visit_4) (aa_go (aa_cVl iX9_visit_5 (hv ▸ c_at27 hW hs_r1 (by omega) hs2) (by omega) lc_X4_at lk_X9_43 (sh_27 hW) rfl rfl (Nat.le_of_ble_eq_true rfl)) (aa_go (aa_lstore5 iX9_visit_8 rfl (by decide)) (aa_go (aa_lload5 iX9_visit_10) (aa_go (aa_iconst iX9_visit_12 ki_2) (aa_go (aa_lshrN iX9_visit_13 (by omega) (by omega)) ?_)))))))
      refine aa_go (aa_aload0 iX9_visit_14) (aa_go (aa_getE iX9_visit_15 fl_X9_21 (sh_24 hW) rfl hwk) (aa_go (aa_i2lN iX9_visit_18 (by omega)) (aa_go (aa_lcmp iX9_visit_19) ?_)))
      refine aa_if_neC iX9_visit_20 (by omega) (by omega) (fun h1 => ?_) (fun h1 => ?_)
      · skip
        refine aa_go (aa_aload0 iX9_visit_28) (aa_go (aa_getE iX9_visit_29 fl_X9_21 (sh_24 hW) rfl hwk) (aa_go (aa_i2lN iX9_visit_32 (by omega)) (aa_go (aa_iconst iX9_visit_33 ki_2) (aa_go (aa_lshlN iX9_visit_34 (by omega)) ?_))))
        exact tail _ (by rw [if_neg h1])
      · skip
        refine aa_go (aa_lload5 iX9_visit_23) (aa_go (aa_goto iX9_visit_25) ?_)
        exact tail _ (by rw [if_pos h1])
    obtain ⟨r1, σ', ⟨rfl, h1⟩, hS⟩ := aa_S_of (avs := [.ref 24, .int (nI s), .int (nI h), .int (nI e), .int (nI dp)]) (by decide) 7 [some (.ref 24), some (.int (nI s)), some (.int (nI h)), some (.int (nI e)), some (.int (nI dp)), none, none, none, none, none, none, none] rfl rfl key
    exact ⟨σ', h1, hS⟩
end
