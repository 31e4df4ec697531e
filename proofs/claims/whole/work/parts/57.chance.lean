/-! CHANCES, of few things, with a notary -/
def CH : Nat := 518400000000
theorem CH_eq : CH = 518400000000 := rfl
def chS (cl h : Nat) (a : Nat × Nat) (x : Nat × Nat) : Nat × Nat := (a.1 + x.2, if cl = h then max a.2 x.2 else min a.2 x.2)
def ch0 (cl h : Nat) : Nat × Nat := (0, if cl = h then 0 else CH)
def chR (c n : Nat) (a : Nat × Nat) : Nat := ((10 - c) * n * a.2 + c * a.1) / (10 * n)
def chE (cl e h : Nat) : Nat := if decide (cl = h) = decide (e = 1) then CH else 0
def chG (cl c e : Nat) (h _ : Nat) (l : List (Nat × Nat)) : Nat := if l.isEmpty then chE cl e h else chR c l.length (l.foldl (chS cl h) (ch0 cl h))
def ch (P : pl_T) (cl c e h s : Nat) : Nat := gv P (chG cl c e) (fun h => 1 - h) 0 h s
def chA (P : pl_T) (cl c e h s : Nat) (l : List Nat) : Nat × Nat := (l.map (fun j => (j, ch P cl c e (1 - h) (pl_nx P s j)))).foldl (chS cl h) (ch0 cl h)
theorem chA_c (P : pl_T) (cl c e h s : Nat) (l : List Nat) (j : Nat) : chA P cl c e h s (l ++ [j]) = chS cl h (chA P cl c e h s l) (j, ch P cl c e (1 - h) (pl_nx P s j)) := by
  rw [chA, List.map_append, List.foldl_append]; rfl
theorem ch_eq {P : pl_T} (ok : pl_ok P) (cl c e h s : Nat) : ch P cl c e h s = if pl_ML P h s = [] then chE cl e h else chR c (pl_ML P h s).length (chA P cl c e h s (pl_ML P h s)) := by
  rw [ch, gv_eq ok, chG, List.length_map]
  cases q : pl_ML P h s with
  | nil => rfl
  | cons a l => rfl
theorem chR_le {c n : Nat} {a : Nat × Nat} (hc : c ≤ 10) (hn : 0 < n) (h1 : a.1 ≤ n * CH) (h2 : a.2 ≤ CH) : chR c n a ≤ CH := by
  rw [chR]
  apply Nat.div_le_of_le_mul
  have e1 : (10 - c) * n * a.2 ≤ (10 - c) * n * CH := Nat.mul_le_mul_left _ h2
  have e2 : c * a.1 ≤ c * (n * CH) := Nat.mul_le_mul_left _ h1
  have e3 : (10 - c) * n * CH + c * (n * CH) = 10 * n * CH := by
    rw [Nat.mul_assoc, Nat.mul_assoc, ← Nat.add_mul, show 10 - c + c = 10 by omega]
  omega
theorem chA_le {P : pl_T} (cl c e h s : Nat) (hb : ∀ j, pl_lg P h s j = true → ch P cl c e (1 - h) (pl_nx P s j) ≤ CH) : ∀ l : List Nat, (∀ j, j ∈ l → pl_lg P h s j = true) → (chA P cl c e h s l).1 ≤ l.length * CH ∧ (chA P cl c e h s l).2 ≤ CH := by
  refine lrec ?_ ?_
  · intro _
    refine ⟨Nat.zero_le _, ?_⟩
    show (if cl = h then 0 else CH) ≤ CH
    split <;> omega
  · intro l j ih hl
    have i1 := ih (fun x hx => hl x (List.mem_append_left _ hx))
    have i2 := hb j (hl j (by simp))
    rw [chA_c, List.length_append, List.length_singleton, Nat.add_mul, chS]
    refine ⟨by show _ + _ ≤ _; omega, ?_⟩
    show (if cl = h then max _ _ else min _ _) ≤ CH
    split
    · exact Nat.max_le.mpr ⟨i1.2, i2⟩
    · exact Nat.le_trans (Nat.min_le_left _ _) i1.2
theorem ch_le {P : pl_T} (ok : pl_ok P) {cl c e : Nat} (hc : c ≤ 10) : ∀ m h s, pl_mu P s ≤ m → ch P cl c e h s ≤ CH := by
  intro m
  induction m using Nat.strongRecOn with
  | ind m ih =>
    intro h s hm
    rw [ch_eq ok]
    split
    · unfold chE; split <;> omega
    · rename_i q
      have hl : 0 < (pl_ML P h s).length := List.length_pos_iff.mpr q
      have := chA_le cl c e h s (fun j hj => by
        have mu := pl_mu_lt ok hj
        exact ih (pl_mu P (pl_nx P s j)) (by omega) (1 - h) (pl_nx P s j) (Nat.le_refl _)) (pl_ML P h s) (fun j hj => pl_ML_mem.mp hj)
      exact chR_le hc hl this.1 this.2
theorem ch_CH {P : pl_T} (ok : pl_ok P) {cl c e : Nat} (hc : c ≤ 10) (h s : Nat) : ch P cl c e h s ≤ CH := ch_le ok hc _ h s (Nat.le_refl _)
theorem lN_max {x y : Nat} (hx : x < 9223372036854775808) (hy : y < 9223372036854775808) : (if lN y < lN x then lN x else lN y) = lN (max x y) := by
  by_cases c : y < x
  · rw [if_pos ((lN_lt' hy hx).mpr c), Nat.max_eq_left (by omega)]
  · rw [if_neg (fun q => c ((lN_lt' hy hx).mp q)), Nat.max_eq_right (by omega)]
theorem lN_min {x y : Nat} (hx : x < 9223372036854775808) (hy : y < 9223372036854775808) : (if lN y < lN x then lN y else lN x) = lN (min x y) := by
  by_cases c : y < x
  · rw [if_pos ((lN_lt' hy hx).mpr c), Nat.min_eq_right (by omega)]
  · rw [if_neg (fun q => c ((lN_lt' hy hx).mp q)), Nat.min_eq_left (by omega)]
def CC (P : pl_T) (T cl c e : Nat) (N : Nat) (f : Nat → Int64) : Prop := ∀ p h, h ≤ 1 → 2 * p + h < N → f (2 * p + h) = lN (ch P cl c e h (ex T p))
section
variable {r : Nat → Nat} {dy : List aa_Shp} {σ : aa_St} {P : pl_T} {hs : List Nat} {T cl c e : Nat}
theorem CC.set {N : Nat} {p h : Nat} (hM : CC P T cl c e (2 * p + h) (σ.2.1 45)) (hN : N = 2 * p + h + 1) (hh : h ≤ 1) : CC P T cl c e N ((aa_sL σ 45 (2 * p + h) (lN (ch P cl c e h (ex T p)))).2.1 45) := by
  intro p' h' hh' hlt
  rw [sL_at]
  by_cases c : 2 * p' + h' = 2 * p + h
  · rw [if_pos c, show p' = p by omega, show h' = h by omega]
  · rw [if_neg c]; exact hM p' h' hh' (by omega)
theorem CC.mo {N N' : Nat} {f : Nat → Int64} (h : CC P T cl c e N f) (hN : N' ≤ N) : CC P T cl c e N' f := fun p h' hh hl => h p h' hh (by omega)
theorem c_X1_hire (hW : aa_W r dy σ) (a b d : Int32) : aa_SX mX1_hire 1 [.ref 41, .int a, .int b, .int d] σ none (aa_sI (aa_sI (aa_sI σ 41 6 a) 41 7 b) 41 8 d) := by
  refine aa_E_of (by decide) 0 [some (.ref 41), some (.int (a)), some (.int (b)), some (.int (d))] rfl rfl ?_
  refine aa_go (aa_aload0 iX1_hire_0) (aa_go (aa_iload1 iX1_hire_1) (aa_go (aa_putI iX1_hire_2 fl_X1_29 (fun h => nomatch h) (sh_41 hW) rfl ⟨rfl, rfl⟩) (aa_go (aa_aload0 iX1_hire_5) (aa_go (aa_iload2 iX1_hire_6) (aa_go (aa_putI iX1_hire_7 fl_X1_32 (fun h => nomatch h) (sh_41 hW) rfl ⟨rfl, rfl⟩) (aa_go (aa_aload0 iX1_hire_10) (aa_go (aa_iload3 iX1_hire_11) ?_)))))))
  refine aa_go (aa_putI iX1_hire_12 fl_X1_35 (fun h => nomatch h) (sh_41 hW) rfl ⟨rfl, rfl⟩) ?_
  refine aa_vret iX1_hire_15 rfl ?_
  exact ⟨rfl, rfl⟩
theorem c_X1_chanceOf (hW : aa_W r dy σ) (hX : XP P hs σ.1) (hb0 : pl_b P = 0) (hF : FO P T 41 σ.1) (h6 : pl_cn T 14 ≤ 6) (hcl : σ.1 41 6 = nI cl) (hcl1 : cl ≤ 1) (hcc : σ.1 41 7 = nI c) (hc10 : c ≤ 10) (hee : σ.1 41 8 = nI e) (he1 : e ≤ 1) {p h : Nat} (hp : p < 2 ^ pl_cn T 14) (hh : h ≤ 1) (hM : CC P T cl c e (2 * p) (σ.2.1 45)) : aa_SX mX1_chanceOf 4 [.ref 41, .int (nI p), .int (nI h)] σ (some (.long (lN (ch P cl c e h (ex T p))))) σ := by
  have ok := hX.ok
  have hT := hF.1
  have hn := hX.n14
  have h8 := hF.2.1
  have p64 : p < 64 := Nat.lt_of_lt_of_le hp (pw_lt (n := 6) h6)
  have fl := ft_l P T p h h8
  have cn32 := ft_c32 P T p h
  have hz := ft_0 (p := p) (h := h) hT hn hb0
  have e2 := ch_eq (P := P) ok cl c e h (ex T p)
  rw [← ftl_all hT hn hb0] at e2 hz
  have len8 : pl_cn (ft P T p h) 32 ≤ 6 := by
    rw [cn_up (ft_lt (P := P) (T := T) (p := p) (h := h)) (by omega)]
    exact Nat.le_trans (cn_le _ _) h6
  have CHe := CH_eq
  have loop : ∀ f k y10, 0 < pl_cn (ft P T p h) 32 → pl_cn T 14 - k < f → k ≤ pl_cn T 14 → aa_V mX1_chanceOf 4 78 [some (.ref 41), some (.int (nI p)), some (.int (nI h)), some (.int (nI (ft P T p h))), some (.int (nI (pl_cn (ft P T p h) 32))), some (.long (lN (chA P cl c e h (ex T p) (ftl P T p h k)).1)), none, some (.long (lN (chA P cl c e h (ex T p) (ftl P T p h k)).2)), none, some (.int (nI k)), y10, none] [] σ (fun ra σ' => ra = some (.long (lN (ch P cl c e h (ex T p)))) ∧ σ' = σ) := by
    intro f
    induction f with
    | zero => intro k y10 g0 g1; omega
    | succ f ih =>
      intro k y10 g0 g1 g2
      have hmem : ∀ j, j ∈ ftl P T p h k → pl_lg P h (ex T p) j = true := by
        intro j hj
        rw [ftl, List.mem_map] at hj
        obtain ⟨i, hi, rfl⟩ := hj
        rw [List.mem_filter, List.mem_range] at hi
        rw [← ft_bit hT (by omega)]; exact hi.2
      have bd := chA_le cl c e h (ex T p) (fun j _ => ch_CH ok hc10 (1 - h) (pl_nx P (ex T p) j)) _ hmem
      have ll : (ftl P T p h k).length ≤ 6 := by rw [ftl_len]; exact Nat.le_trans (cn_le _ _) (by omega)
      have bd3 : (ftl P T p h k).length * CH ≤ 6 * CH := Nat.mul_le_mul_right _ ll
      refine aa_go (aa_iload9 iX1_chanceOf_78) (aa_go (aa_aload0 iX1_chanceOf_80) (aa_go (aa_getE iX1_chanceOf_81 fl_X1_25 (sh_41 hW) rfl hF.2.2.1.1) ?_))
      refine aa_ic_geN iX1_chanceOf_84 (by omega) (by omega) (fun g3 => ?_) (fun g3 => ?_)
      · skip
        have e1 : k = pl_cn T 14 := by omega
        subst e1
        have g5 : ftl P T p h (pl_cn T 14) ≠ [] := fun q => by rw [q] at cn32; simp at cn32; omega
        rw [if_neg g5, ← cn32] at e2
        have b1 : (10 - c) * pl_cn (ft P T p h) 32 ≤ 10 * 6 := Nat.mul_le_mul (by omega) len8
        have b2 : (10 - c) * pl_cn (ft P T p h) 32 * (chA P cl c e h (ex T p) (ftl P T p h (pl_cn T 14))).2 ≤ 10 * 6 * CH := Nat.mul_le_mul b1 bd.2
        have b3 : c * (chA P cl c e h (ex T p) (ftl P T p h (pl_cn T 14))).1 ≤ 10 * (6 * CH) := Nat.mul_le_mul hc10 (by omega)
        refine aa_go (aa_bipush iX1_chanceOf_152 kb_10) (aa_go (aa_aload0 iX1_chanceOf_154) (aa_go (aa_getE iX1_chanceOf_155 fl_X1_32 (sh_41 hW) rfl hcc) (aa_go (aa_isubN iX1_chanceOf_158 (by omega)) (aa_go (aa_iload4 iX1_chanceOf_159) (aa_go (aa_imulN iX1_chanceOf_161 ) (aa_go (aa_i2lN iX1_chanceOf_162 (by omega)) (aa_go (aa_lload7 iX1_chanceOf_163) ?_)))))))
        refine aa_go (aa_lmulN iX1_chanceOf_165 ) (aa_go (aa_aload0 iX1_chanceOf_166) (aa_go (aa_getE iX1_chanceOf_167 fl_X1_32 (sh_41 hW) rfl hcc) (aa_go (aa_i2lN iX1_chanceOf_170 (by omega)) (aa_go (aa_lload5 iX1_chanceOf_171) (aa_go (aa_lmulN iX1_chanceOf_173 ) (aa_go (aa_laddN iX1_chanceOf_174 ) (aa_go (aa_bipush iX1_chanceOf_175 kb_10) ?_)))))))
        refine aa_go (aa_iload4 iX1_chanceOf_177) (aa_go (aa_imulN iX1_chanceOf_179 ) (aa_go (aa_i2lN iX1_chanceOf_180 (by omega)) (aa_go (aa_ldivN iX1_chanceOf_181 (by omega) (by omega) (by omega)) ?_)))
        refine aa_lret iX1_chanceOf_182 rfl ?_
        exact ⟨by rw [e2, chR], rfl⟩
      · skip
        refine aa_go (aa_iload3 iX1_chanceOf_87) (aa_go (aa_iload9 iX1_chanceOf_88) (aa_go (aa_ishrN iX1_chanceOf_90 (by omega) (by omega)) (aa_go (aa_iconst iX1_chanceOf_91 ki_1) (aa_go (aa_ibit iX1_chanceOf_92) ?_))))
        refine aa_if_eqB iX1_chanceOf_93 (fun g4 => ?_) (fun g4 => ?_)
        · skip
          refine aa_go (aa_iincN9 (k := 1) iX1_chanceOf_146 rfl (by decide)) (aa_go (aa_goto iX1_chanceOf_149) ?_)
          have := ih (k + 1) y10 g0 (by omega) (by omega)
          rw [ftl_f g4] at this
          exact this
        · skip
          have fbl := fb_less g3 g4
          have fb1 : fb P T p k < 64 := by omega
          have e5 := hM (fb P T p k) (1 - h) (by omega) (by omega)
          rw [fb_ex hT g3] at e5
          have chl := ch_CH (cl := cl) (c := c) (e := e) ok hc10 (1 - h) (pl_nx P (ex T p) (fk T k))
          have nxt := ih (k + 1) (some (.long (lN (ch P cl c e (1 - h) (pl_nx P (ex T p) (fk T k)))))) g0 (by omega) (by omega)
          rw [ftl_t g4, chA_c, chS] at nxt
          refine aa_go (aa_aload0 iX1_chanceOf_96) (aa_go (aa_aload0 iX1_chanceOf_97) (aa_go (aa_iload1 iX1_chanceOf_98) (aa_go (aa_iload9 iX1_chanceOf_99) (aa_go (aa_cVi iX1_chanceOf_101 (c_X1_behind41 hW hF g3) (by decide) lc_X1_behind lk_X1_78 (sh_41 hW) rfl rfl (Nat.le_of_ble_eq_true rfl)) (aa_go (aa_iconst iX1_chanceOf_104 ki_1) (aa_go (aa_iload2 iX1_chanceOf_105) (aa_go (aa_isubN iX1_chanceOf_106 (by omega)) ?_)))))))
          refine aa_go (aa_cVl iX1_chanceOf_107 (e5 ▸ c_X1_cell hW (by omega)) (by decide) lc_X1_cell lk_X1_74 (sh_41 hW) rfl rfl (Nat.le_of_ble_eq_true rfl)) (aa_go (aa_lstore10 iX1_chanceOf_110 rfl (by decide)) (aa_go (aa_lload5 iX1_chanceOf_112) (aa_go (aa_lload10 iX1_chanceOf_114) (aa_go (aa_laddN iX1_chanceOf_116 ) (aa_go (aa_lstore5 iX1_chanceOf_117 rfl (by decide)) (aa_go (aa_aload0 iX1_chanceOf_119) (aa_go (aa_getE iX1_chanceOf_120 fl_X1_29 (sh_41 hW) rfl hcl) ?_)))))))
          refine aa_go (aa_iload2 iX1_chanceOf_123) ?_
          refine aa_ic_neN iX1_chanceOf_124 (by omega) (by omega) (fun g5 => ?_) (fun g5 => ?_)
          · skip
            rw [if_neg g5] at nxt
            refine aa_go (aa_lload7 iX1_chanceOf_137) (aa_go (aa_lload10 iX1_chanceOf_139) (aa_go (aa_mminL iX1_chanceOf_141 (by omega) lk_X1_102 (Nat.le_of_ble_eq_true rfl)) ?_))
            refine aa_go (aa_topl (y := lN (min (chA P cl c e h (ex T p) (ftl P T p h k)).2 (ch P cl c e (1 - h) (pl_nx P (ex T p) (fk T k))))) (lN_min (by omega) (by omega))) ?_
            refine aa_go (aa_lstore7 iX1_chanceOf_144 rfl (by decide)) (aa_go (aa_iincN9 (k := 1) iX1_chanceOf_146 rfl (by decide)) (aa_go (aa_goto iX1_chanceOf_149) ?_))
            exact nxt
          · skip
            rw [if_pos g5] at nxt
            refine aa_go (aa_lload7 iX1_chanceOf_127) (aa_go (aa_lload10 iX1_chanceOf_129) (aa_go (aa_mmaxL iX1_chanceOf_131 (by omega) lk_X1_96 (Nat.le_of_ble_eq_true rfl)) (aa_go (aa_goto iX1_chanceOf_134) ?_)))
            refine aa_go (aa_topl (y := lN (max (chA P cl c e h (ex T p) (ftl P T p h k)).2 (ch P cl c e (1 - h) (pl_nx P (ex T p) (fk T k))))) (lN_max (by omega) (by omega))) ?_
            refine aa_go (aa_lstore7 iX1_chanceOf_144 rfl (by decide)) (aa_go (aa_iincN9 (k := 1) iX1_chanceOf_146 rfl (by decide)) (aa_go (aa_goto iX1_chanceOf_149) ?_))
            exact nxt
  have fin : ∀ a b : Bool, a = decide (cl = h) → b = decide (e = 1) → pl_cn (ft P T p h) 32 = 0 → aa_V mX1_chanceOf 4 44 [some (.ref 41), some (.int (nI p)), some (.int (nI h)), some (.int (nI (ft P T p h))), some (.int (nI (pl_cn (ft P T p h) 32))), none, none, none, none, none, none, none] [.int (nI b.toNat), .int (nI a.toNat)] σ (fun ra σ' => ra = some (.long (lN (ch P cl c e h (ex T p)))) ∧ σ' = σ) := by
    intro a b ha hb g0
    have t1 : a.toNat ≤ 1 := Bool.toNat_le _
    have t2 : b.toNat ≤ 1 := Bool.toNat_le _
    have g5 : ftl P T p h (pl_cn T 14) = [] := List.length_eq_zero_iff.mp (by rw [← cn32]; exact g0)
    rw [if_pos g5, chE, ← ha, ← hb] at e2
    refine aa_ic_neN iX1_chanceOf_44 (by omega) (by omega) (fun h1 => ?_) (fun h1 => ?_)
    · skip
      refine aa_go (aa_lconst iX1_chanceOf_53 kl_0) ?_
      refine aa_lret iX1_chanceOf_54 rfl ?_
      exact ⟨by rw [e2, if_neg (fun q => h1 (by rw [q]))], rfl⟩
    · skip
      refine aa_go (aa_ldc2 iX1_chanceOf_47 ld_X1_94) (aa_go (aa_goto iX1_chanceOf_50) ?_)
      refine aa_lret iX1_chanceOf_54 rfl ?_
      refine ⟨?_, rfl⟩
      rw [e2, if_pos]
      · rfl
      · cases a <;> cases b <;> first | rfl | exact absurd h1 (by decide)
  have mid : ∀ a : Bool, a = decide (cl = h) → pl_cn (ft P T p h) 32 = 0 → aa_V mX1_chanceOf 4 31 [some (.ref 41), some (.int (nI p)), some (.int (nI h)), some (.int (nI (ft P T p h))), some (.int (nI (pl_cn (ft P T p h) 32))), none, none, none, none, none, none, none] [.int (nI a.toNat)] σ (fun ra σ' => ra = some (.long (lN (ch P cl c e h (ex T p)))) ∧ σ' = σ) := by
    intro a ha g0
    refine aa_go (aa_aload0 iX1_chanceOf_31) (aa_go (aa_getE iX1_chanceOf_32 fl_X1_35 (sh_41 hW) rfl hee) (aa_go (aa_iconst iX1_chanceOf_35 ki_1) ?_))
    refine aa_ic_neN iX1_chanceOf_36 (by omega) (by omega) (fun h1 => ?_) (fun h1 => ?_)
    · skip
      refine aa_go (aa_iconst iX1_chanceOf_43 ki_0) ?_
      exact fin a false ha (decide_eq_false h1).symm g0
    · skip
      refine aa_go (aa_iconst iX1_chanceOf_39 ki_1) (aa_go (aa_goto iX1_chanceOf_40) ?_)
      exact fin a true ha (decide_eq_true h1).symm g0
  have key : aa_V mX1_chanceOf 4 0 [some (.ref 41), some (.int (nI p)), some (.int (nI h)), none, none, none, none, none, none, none, none, none] [] σ (fun ra σ' => ra = some (.long (lN (ch P cl c e h (ex T p)))) ∧ σ' = σ) := by
    refine aa_go (aa_aload0 iX1_chanceOf_0) (aa_go (aa_iload1 iX1_chanceOf_1) (aa_go (aa_iload2 iX1_chanceOf_2) (aa_go (aa_cVi iX1_chanceOf_3 (c_X1_takes41 hW hF hh) (by decide) lc_X1_takes lk_X1_77 (sh_41 hW) rfl rfl (Nat.le_of_ble_eq_true rfl)) (aa_go (aa_istore3 iX1_chanceOf_6 rfl (by decide)) (aa_go (aa_iload3 iX1_chanceOf_7) (aa_go (aa_cSi iX1_chanceOf_8 (c_bitCount (by omega)) (by decide) lc_J6_bitCount_0f7a4 lk_X1_86 rfl (Nat.le_of_ble_eq_true rfl)) (aa_go (aa_istore4 iX1_chanceOf_11 rfl (by decide)) ?_)))))))
    refine aa_go (aa_iload4 iX1_chanceOf_13) ?_
    refine aa_if_neN iX1_chanceOf_15 (by omega) (fun h1 => ?_) (fun h1 => ?_)
    · skip
      refine aa_go (aa_lconst iX1_chanceOf_55 kl_0) (aa_go (aa_lstore5 iX1_chanceOf_56 rfl (by decide)) (aa_go (aa_aload0 iX1_chanceOf_58) (aa_go (aa_getE iX1_chanceOf_59 fl_X1_29 (sh_41 hW) rfl hcl) (aa_go (aa_iload2 iX1_chanceOf_62) ?_))))
      refine aa_ic_neN iX1_chanceOf_63 (by omega) (by omega) (fun h2 => ?_) (fun h2 => ?_)
      · skip
        refine aa_go (aa_ldc2 iX1_chanceOf_70 ld_X1_94) ?_
        refine aa_go (aa_topl (y := lN CH) (rfl)) ?_
        refine aa_go (aa_lstore7 iX1_chanceOf_73 rfl (by decide)) (aa_go (aa_iconst iX1_chanceOf_75 ki_0) (aa_go (aa_istore9 iX1_chanceOf_76 rfl (by decide)) ?_))
        have := loop (pl_cn T 14 + 1) 0 none (by omega) (by omega) (by omega)
        rw [show chA P cl c e h (ex T p) (ftl P T p h 0) = (0, CH) from by show ch0 cl h = _; rw [ch0, if_neg h2]] at this
        exact this
      · skip
        refine aa_go (aa_lconst iX1_chanceOf_66 kl_0) (aa_go (aa_goto iX1_chanceOf_67) (aa_go (aa_lstore7 iX1_chanceOf_73 rfl (by decide)) (aa_go (aa_iconst iX1_chanceOf_75 ki_0) (aa_go (aa_istore9 iX1_chanceOf_76 rfl (by decide)) ?_))))
        have := loop (pl_cn T 14 + 1) 0 none (by omega) (by omega) (by omega)
        rw [show chA P cl c e h (ex T p) (ftl P T p h 0) = (0, 0) from by show ch0 cl h = _; rw [ch0, if_pos h2]] at this
        exact this
    · skip
      refine aa_go (aa_aload0 iX1_chanceOf_18) (aa_go (aa_getE iX1_chanceOf_19 fl_X1_29 (sh_41 hW) rfl hcl) (aa_go (aa_iload2 iX1_chanceOf_22) ?_))
      refine aa_ic_neN iX1_chanceOf_23 (by omega) (by omega) (fun h2 => ?_) (fun h2 => ?_)
      · skip
        refine aa_go (aa_iconst iX1_chanceOf_30 ki_0) ?_
        exact mid false (decide_eq_false h2).symm h1
      · skip
        refine aa_go (aa_iconst iX1_chanceOf_26 ki_1) (aa_go (aa_goto iX1_chanceOf_27) ?_)
        exact mid true (decide_eq_true h2).symm h1
  obtain ⟨ra, σ', ⟨rfl, rfl⟩, hS9⟩ := aa_S_of (avs := [.ref 41, .int (nI p), .int (nI h)]) (by decide) 9 [some (.ref 41), some (.int (nI p)), some (.int (nI h)), none, none, none, none, none, none, none, none, none] rfl rfl key
  exact hS9
theorem c_X1_chance (hW : aa_W r dy σ) (hX : XP P hs σ.1) (hb0 : pl_b P = 0) (hT : T < 2 ^ pl_n P) (h6 : pl_cn T 14 ≤ 6) (hcl : σ.1 41 6 = nI cl) (hcl1 : cl ≤ 1) (hcc : σ.1 41 7 = nI c) (hc10 : c ≤ 10) (hee : σ.1 41 8 = nI e) (he1 : e ≤ 1) {t : Nat} (ht : t ≤ 1) : ∃ σ' : aa_St, FrW [41, 42, 43, 44] 45 σ σ' ∧ aa_SX mX1_chance 5 [.ref 41, .int (nI T), .int (nI t)] σ (some (.long (lN (ch P cl c e t T)))) σ' := by
  have hn := hX.n14
  have T14 : T < 2 ^ 14 := Nat.lt_of_lt_of_le hT (pw_lt hn)
  have c64 : 2 ^ pl_cn T 14 ≤ 64 := pw_lt (n := 6) h6
  have c1 := pw_pos (pl_cn T 14)
  obtain ⟨σ0, ⟨hF0, hO0, h05⟩, hS0⟩ := c_X1_lay41 hW hX hT (by omega)
  have loop : ∀ f p (σ1 : aa_St), 2 ^ pl_cn T 14 - p < f → p ≤ 2 ^ pl_cn T 14 → FrW [41, 42, 43, 44] 45 σ σ1 → FO P T 41 σ1.1 → (∀ k, k ≠ 5 → σ1.1 41 k = σ.1 41 k) → CC P T cl c e (2 * p) (σ1.2.1 45) → aa_V mX1_chance 5 7 [some (.ref 41), some (.int (nI T)), some (.int (nI t)), some (.int (nI p))] [] σ1 (fun ra σ' => ra = some (.long (lN (ch P cl c e t T))) ∧ FrW [41, 42, 43, 44] 45 σ σ') := by
    intro f
    induction f with
    | zero => intro p σ1 g1; omega
    | succ f ih =>
      intro p σ1 g1 g2 hF hO h05 hM
      have hW1 := hW.of2 hF.2.2
      have hX1 : XP P hs σ1.1 := (FrA.XP (σ := σ) (σ' := (σ1.1, σ.2)) (A := [41, 42, 43, 44]) ⟨rfl, hF.1⟩ hX (by decide))
      have a6 : σ1.1 41 6 = nI cl := by rw [h05 6 (by decide)]; exact hcl
      have a7 : σ1.1 41 7 = nI c := by rw [h05 7 (by decide)]; exact hcc
      have a8 : σ1.1 41 8 = nI e := by rw [h05 8 (by decide)]; exact hee
      refine aa_go (aa_iload3 iX1_chance_7) (aa_go (aa_aload0 iX1_chance_8) (aa_go (aa_cVi iX1_chance_9 (c_X1_all41 hW1 hO.2.2.1) (by decide) lc_X1_all lk_X1_62 (sh_41 hW1) rfl rfl (Nat.le_of_ble_eq_true rfl)) ?_))
      refine aa_ic_gtN iX1_chance_12 (by omega) (by omega) (fun g3 => ?_) (fun g3 => ?_)
      · skip
        have e1 : p = 2 ^ pl_cn T 14 := by omega
        have e2 := hM (2 ^ pl_cn T 14 - 1) t ht (by omega)
        rw [ex_all T14] at e2
        refine aa_go (aa_aload0 iX1_chance_45) (aa_go (aa_aload0 iX1_chance_46) (aa_go (aa_cVi iX1_chance_47 (c_X1_all41 hW1 hO.2.2.1) (by decide) lc_X1_all lk_X1_62 (sh_41 hW1) rfl rfl (Nat.le_of_ble_eq_true rfl)) (aa_go (aa_iload2 iX1_chance_50) (aa_go (aa_cVl iX1_chance_51 (e2 ▸ c_X1_cell hW1 (by omega)) (by decide) lc_X1_cell lk_X1_74 (sh_41 hW1) rfl rfl (Nat.le_of_ble_eq_true rfl)) ?_))))
        refine aa_lret iX1_chance_54 rfl ?_
        exact ⟨rfl, hF⟩
      · skip
        have hp : p < 2 ^ pl_cn T 14 := by omega
        have hM0 : CC P T cl c e (2 * p + 0) (σ1.2.1 45) := hM
        have hM1 := hM0.set (N := 2 * p + 1) rfl (by omega)
        have hMx : CC P T cl c e (2 * p) ((aa_sL σ1 45 (2 * p + 0) (lN (ch P cl c e 0 (ex T p)))).2.1 45) := hM1.mo (by omega)
        have hW2 := hW1.sL 45 (2 * p + 0) (lN (ch P cl c e 0 (ex T p)))
        refine aa_go (aa_aload0 iX1_chance_15) (aa_go (aa_iload3 iX1_chance_16) (aa_go (aa_iconst iX1_chance_17 ki_0) (aa_go (aa_aload0 iX1_chance_18) (aa_go (aa_iload3 iX1_chance_19) (aa_go (aa_iconst iX1_chance_20 ki_0) (aa_go (aa_cVl iX1_chance_21 (c_X1_chanceOf hW1 hX1 hb0 hO h6 a6 hcl1 a7 hc10 a8 he1 hp (by omega) hM) (by decide) lc_X1_chanceOf lk_X1_91 (sh_41 hW1) rfl rfl (Nat.le_of_ble_eq_true rfl)) (aa_go (aa_cVv iX1_chance_24 (c_X1_set hW1 (by omega) _) (by decide) lc_X1_set lk_X1_70 (sh_41 hW1) rfl rfl (Nat.le_of_ble_eq_true rfl)) ?_)))))))
        refine aa_go (aa_aload0 iX1_chance_27) (aa_go (aa_iload3 iX1_chance_28) (aa_go (aa_iconst iX1_chance_29 ki_1) (aa_go (aa_aload0 iX1_chance_30) (aa_go (aa_iload3 iX1_chance_31) (aa_go (aa_iconst iX1_chance_32 ki_1) (aa_go (aa_cVl iX1_chance_33 (c_X1_chanceOf hW2 hX1 hb0 hO h6 a6 hcl1 a7 hc10 a8 he1 hp (by omega) hMx) (by decide) lc_X1_chanceOf lk_X1_91 (sh_41 hW2) rfl rfl (Nat.le_of_ble_eq_true rfl)) (aa_go (aa_cVv iX1_chance_36 (c_X1_set hW2 (by omega) _) (by decide) lc_X1_set lk_X1_70 (sh_41 hW2) rfl rfl (Nat.le_of_ble_eq_true rfl)) ?_)))))))
        refine aa_go (aa_iincN3 (k := 1) iX1_chance_39 rfl (by decide)) (aa_go (aa_goto iX1_chance_42) ?_)
        exact ih (p + 1) _ (by omega) (by omega) ((hF.sL _ _).sL _ _) hO h05 (hM1.set (p := p) (h := 1) (by omega) (by omega))
  have key : aa_V mX1_chance 5 0 [some (.ref 41), some (.int (nI T)), some (.int (nI t)), none] [] σ (fun ra σ' => ra = some (.long (lN (ch P cl c e t T))) ∧ FrW [41, 42, 43, 44] 45 σ σ') := by
    refine aa_go (aa_aload0 iX1_chance_0) (aa_go (aa_iload1 iX1_chance_1) (aa_go (aa_cVv iX1_chance_2 (hS0) (by decide) lc_X1_lay lk_X1_58 (sh_41 hW) rfl rfl (Nat.le_of_ble_eq_true rfl)) (aa_go (aa_iconst iX1_chance_5 ki_0) (aa_go (aa_istore3 iX1_chance_6 rfl (by decide)) ?_))))
    exact loop (2 ^ pl_cn T 14 + 1) 0 σ0 (by omega) (by omega) hF0.FrW hO0 h05 (fun p h _ hl => by omega)
  obtain ⟨ra, σ', ⟨rfl, h1⟩, hS9⟩ := aa_S_of (avs := [.ref 41, .int (nI T), .int (nI t)]) (by decide) 1 [some (.ref 41), some (.int (nI T)), some (.int (nI t)), none] rfl rfl key
  exact ⟨σ', h1, hS9⟩
end
