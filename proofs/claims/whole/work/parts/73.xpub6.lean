/-! PUBLIC METHODS, sixth part: games told, followed -/
def jmv (a b c k : Nat) : Nat := (if k < 5 then a else if k < 10 then b else c) >>> (6 * (k % 5)) &&& 63
def jgS (P : pl_T) (k m : Nat) (x : Nat × Nat × Nat) : Option (Nat × Nat × Nat) := (pl_sp P m).bind (fun j => if pl_lg P (k % 2) x.1 j then some (pl_nx P x.1 j, x.2.1 + (if k % 2 = 0 then pl_wo P (bd x.1 (pl_nx P x.1 j)) else 0), x.2.2 + (if k % 2 = 0 then 0 else pl_wo P (bd x.1 (pl_nx P x.1 j)))) else none)
def jgs (P : pl_T) (a b c : Nat) : Nat → Option (Nat × Nat × Nat)
  | 0 => some (2 ^ pl_n P - 1, 0, 0)
  | k + 1 => (jgs P a b c k).bind (jgS P k (jmv a b c k))
/-- what judge() answers -/
def JR (P : pl_T) (n a b c : Nat) (ra : Int32) (x y : Nat) : Prop := (∃ s, jgs P a b c n = some (s, x, y) ∧ ra = -2) ∨ (∃ k s, k < n ∧ jgs P a b c k = some (s, x, y) ∧ jgs P a b c (k + 1) = none ∧ ra = nI k)
theorem pl_sp_lt {P : pl_T} {m j : Nat} (h : pl_sp P m = some j) : j < pl_n P + pl_b P := by
  unfold pl_sp at h
  split at h
  · cases h; omega
  · split at h
    · cases h; omega
    · split at h
      · cases h; omega
      · simp at h
theorem jgs_lt {P : pl_T} (ok : pl_ok P) {a b c : Nat} : ∀ k s x y, jgs P a b c k = some (s, x, y) → s < 2 ^ (pl_n P + pl_b P) ∧ x ≤ 126 * k ∧ y ≤ 126 * k
  | 0, s, x, y, h => by
    cases h
    have := pw_pos (pl_n P)
    have : 2 ^ pl_n P ≤ 2 ^ (pl_n P + pl_b P) := pw_lt (by omega)
    exact ⟨by omega, by omega, by omega⟩
  | k + 1, s, x, y, h => by
    rw [jgs] at h
    cases q : jgs P a b c k with
    | none => rw [q] at h; simp at h
    | some z =>
      obtain ⟨s1, x1, y1⟩ := z
      have ih := jgs_lt ok k s1 x1 y1 q
      rw [q] at h
      replace h : jgS P k (jmv a b c k) (s1, x1, y1) = some (s, x, y) := h
      rw [jgS] at h
      cases q2 : pl_sp P (jmv a b c k) with
      | none => rw [q2] at h; simp at h
      | some j =>
        rw [q2] at h
        replace h : (if pl_lg P (k % 2) s1 j then some (pl_nx P s1 j, x1 + (if k % 2 = 0 then pl_wo P (bd s1 (pl_nx P s1 j)) else 0), y1 + (if k % 2 = 0 then 0 else pl_wo P (bd s1 (pl_nx P s1 j)))) else none) = some (s, x, y) := h
        split at h
        · cases h
          have w := pl_wo_le ok (bd s1 (pl_nx P s1 j))
          refine ⟨pl_nx_lt ok ih.1 (pl_sp_lt q2), ?_, ?_⟩ <;> split <;> omega
        · simp at h
def frc (P : pl_T) : Nat → Nat → Nat → List Nat
  | 0, _, _ => []
  | f + 1, h, s => match pl_ML P h s with
    | [j] => j :: frc P f (1 - h) (pl_nx P s j)
    | _ => []
theorem ML_low {P : pl_T} (ok : pl_ok P) {h s j : Nat} (e : pl_ML P h s = [j]) : lb (nI (pl_mv P h s)) j ∧ j < pl_n P + pl_b P ∧ pl_lg P h s j = true := by
  have hl : pl_lg P h s j = true := pl_ML_mem.mp (by rw [e]; simp)
  have jl := pl_lg_lt hl
  have h1 := ok.1
  have h2 := ok.2.1
  refine ⟨lb_nI (by omega) (by rw [mv_bit jl]; exact hl) (fun i hi => ?_), jl, hl⟩
  rw [mv_bit (by omega)]
  cases q : pl_lg P h s i with
  | false => rfl
  | true =>
    have : i ∈ pl_ML P h s := pl_ML_mem.mpr q
    rw [e] at this
    simp at this
    omega
def hpw (P : pl_T) (th : Nat) : Nat → List Nat × Nat
  | 0 => ([], th)
  | k + 1 => if (hpw P th k).2.testBit k then ((hpw P th k).1 ++ [vl P (jtP P (pl_hp P (hpw P th k).2 k))], bd (hpw P th k).2 (pl_hp P (hpw P th k).2 k)) else hpw P th k
theorem hpw_le (P : pl_T) {th : Nat} (ht : th < 2 ^ pl_n P) : ∀ k, (hpw P th k).1.length ≤ k ∧ (hpw P th k).2 < 2 ^ pl_n P
  | 0 => ⟨Nat.le_refl _, ht⟩
  | k + 1 => by
    have ih := hpw_le P ht k
    rw [hpw]
    split
    · exact ⟨by rw [List.length_append]; simp; omega, bb_bd ih.2⟩
    · exact ⟨by omega, ih.2⟩
def grf (P : pl_T) (t : Nat) : Nat → Nat → Nat × Nat × Nat → Nat × Nat × Nat
  | 0, k, x => (k, x.2)
  | f + 1, k, x => match (gdk P ((t + k) % 2) x.1 (pl_n P)).2 with
    | none => (k, x.2)
    | some j => grf P t f (k + 1) (pl_nx P x.1 j, x.2.1 + (if k % 2 = 0 then pl_wo P (bd x.1 (pl_nx P x.1 j)) else 0), x.2.2 + (if k % 2 = 0 then 0 else pl_wo P (bd x.1 (pl_nx P x.1 j))))
theorem gdk_lt {P : pl_T} {h s j : Nat} : ∀ k, (gdk P h s k).2 = some j → j < k
  | 0, q => by simp [gdk] at q
  | k + 1, q => by
    rw [gdk] at q
    split at q
    · cases q; omega
    · have := gdk_lt k q; omega
theorem rw2_up {k : Nat} (hk : k % 2 = 0 ∨ k % 2 = 1) (x y w : Nat) : rw2 x y (k % 2) + (w : Int) = rw2 ((x + (if k % 2 = 0 then w else 0) : Nat)) ((y + (if k % 2 = 0 then 0 else w) : Nat)) (k % 2) := by
  rcases hk with e | e <;> rw [e] <;> simp [rw2]
section
variable {v W S R : Nat} {r : Nat → Nat} {dy : List aa_Shp} {σ σ' : aa_St} {P : pl_T} {tx tx' : Nat → Nat} {n n' : Nat} {g g' : gm_T} {kp kp' : Nat → Option gm_T} {lk lk' tl tl' : Nat} {rw rw' : Nat → Int} {N : Nat}
/-- one of two numbers grows -/
theorem XIv.up2 {k x y w : Nat} (h : XIv P tx n g kp lk 2 (rw2 x y) N v W S R r dy σ) : XIv P tx n g kp lk 2 (rw2 ((x + (if k % 2 = 0 then w else 0) : Nat)) ((y + (if k % 2 = 0 then 0 else w) : Nat))) N v W S R r dy (aa_sL σ 56 (k % 2) (lZ (rw2 x y (k % 2)) + lN w)) ∧ CF r σ r (aa_sL σ 56 (k % 2) (lZ (rw2 x y (k % 2)) + lN w)) := by
  obtain ⟨t1, t2, t3⟩ := h.T.2.2.2.2
  refine h.num (FrN.rf.l _ _) ⟨t1, t2, fun i hi => ?_⟩
  rw [sL_at]
  by_cases c : i = k % 2
  · rw [if_pos c, c, lZ_N, lZ_add, rw2_up (by omega)]
  · rw [if_neg c, t3 i hi]
    congr 1
    rcases (show i = 0 ∨ i = 1 by omega) with rfl | rfl
    · rw [rw2, rw2, if_pos rfl, if_pos rfl, if_neg (by omega)]; rfl
    · rw [rw2, rw2, if_neg (by decide), if_neg (by decide), if_pos (by omega)]; rfl
theorem p_judge (h : XIv P tx n g kp lk tl rw N v W S R r dy σ) {m a b c : Nat} (hm : m ≤ 15) (ha : a < 4294967296) (hb : b < 4294967296) (hc : c < 4294967296) : ∃ (ra : Int32) (x y : Nat) (σ' : aa_St), (JR P m a b c ra x y ∧ XI P tx n g kp lk 2 (rw2 x y) N r dy σ' ∧ CF r σ r σ') ∧ aa_SX mX11_judge 100 [.ref 0, .int (nI m), .int (nI a), .int (nI b), .int (nI c)] σ (some (.int ra)) σ' := by
  have ok := h.ok
  have p16 := h.p16
  have hn := h.X.n14
  have hb2 := h.X.b2
  have loop : ∀ f k s x y (σ1 : aa_St) y7 y8, m - k < f → k ≤ m → jgs P a b c k = some (s, x, y) → XIv P tx n g kp lk 2 (rw2 x y) N v W S R r dy σ1 → CF r σ r σ1 → aa_V mX11_judge 100 30 [some (.ref 0), some (.int (nI m)), some (.int (nI a)), some (.int (nI b)), some (.int (nI c)), some (.int (nI s)), some (.int (nI k)), y7, y8] [] σ1 (fun ra σ' => ∃ z x y, ra = some (.int z) ∧ JR P m a b c z x y ∧ XI P tx n g kp lk 2 (rw2 x y) N r dy σ' ∧ CF r σ r σ') := by
    intro f
    induction f with
    | zero => intro k s x y σ1 y7 y8 g1; omega
    | succ f ih =>
      intro k s x y σ1 y7 y8 g1 g2 hj h1 f1
      have jl := jgs_lt ok k s x y hj
      refine aa_go (aa_iload6 iX11_judge_30) (aa_go (aa_iload1 iX11_judge_32) ?_)
      refine aa_ic_geN iX11_judge_33 (by omega) (by omega) (fun g3 => ?_) (fun g3 => ?_)
      · skip
        have e1 : k = m := by omega
        subst e1
        refine aa_go (aa_bipush iX11_judge_150 kb_m2) ?_
        refine aa_iret iX11_judge_152 rfl ?_
        exact ⟨_, x, y, rfl, Or.inl ⟨s, hj, rfl⟩, h1.to, f1⟩
      · skip
        have tail : ∀ sel, sel < 4294967296 → sel = (if k < 5 then a else if k < 10 then b else c) → aa_V mX11_judge 100 63 [some (.ref 0), some (.int (nI m)), some (.int (nI a)), some (.int (nI b)), some (.int (nI c)), some (.int (nI s)), some (.int (nI k)), y7, y8] [.int (nI sel), .ref 7] σ1 (fun ra σ' => ∃ z x y, ra = some (.int z) ∧ JR P m a b c z x y ∧ XI P tx n g kp lk 2 (rw2 x y) N r dy σ' ∧ CF r σ r σ') := by
          intro sel hsel esel
          have ml : jmv a b c k < 64 := Nat.lt_of_le_of_lt Nat.and_le_right (by omega)
          have e5 : jgs P a b c (k + 1) = jgS P k (jmv a b c k) (s, x, y) := by rw [jgs, hj]; rfl
          have hS1 := c_X6_step h1.1 h1.X ml
          cases q : pl_sp P (jmv a b c k) with
          | none =>
            rw [q] at hS1
            have hS2 : aa_SX mX6_step 2 [.ref 7, .int (nI (jmv a b c k))] σ1 (some (.int (-1))) σ1 := hS1
            refine aa_go (aa_bipush iX11_judge_63 kb_6) (aa_go (aa_iload6 iX11_judge_65) (aa_go (aa_iconst iX11_judge_67 ki_5) (aa_go (aa_iremN iX11_judge_68 (by omega) (by omega) (by omega)) (aa_go (aa_imulN iX11_judge_69 ) (aa_go (aa_iushrN iX11_judge_70 (by omega) (by omega)) (aa_go (aa_bipush iX11_judge_71 kb_63) (aa_go (aa_iandN iX11_judge_73 ) ?_)))))))
            refine aa_go (aa_top (y := nI (jmv a b c k)) (by rw [jmv, ← esel])) ?_
            refine aa_go (aa_cVi iX11_judge_74 (hS2) (by decide) lc_X6_step lk_X11_188 (sh_7 h1.1) rfl rfl (Nat.le_of_ble_eq_true rfl)) (aa_go (aa_istore7 iX11_judge_77 rfl (by decide)) (aa_go (aa_aload0 iX11_judge_79) (aa_go (aa_getR iX11_judge_80 fl_X11_19 (sh_0 h1.1) rfl) (aa_go (aa_iload5 iX11_judge_83) (aa_go (aa_iload6 iX11_judge_85) (aa_go (aa_iconst iX11_judge_87 ki_1) (aa_go (aa_iandN iX11_judge_88 ) ?_)))))))
            refine aa_go (aa_iload7 iX11_judge_89) (aa_go (aa_cVi iX11_judge_91 (c_X6_canM h1.1) (by decide) lc_X6_can lk_X11_194 (sh_7 h1.1) rfl rfl (Nat.le_of_ble_eq_true rfl)) ?_)
            refine aa_if_neB iX11_judge_94 (fun g4 => ?_) (fun g4 => ?_)
            · skip
              exact absurd g4 (by decide)
            · skip
              refine aa_go (aa_iload6 iX11_judge_97) ?_
              refine aa_iret iX11_judge_99 rfl ?_
              exact ⟨_, x, y, rfl, Or.inr ⟨k, s, g3, hj, by rw [e5, jgS, q]; rfl, rfl⟩, h1.to, f1⟩
          | some j =>
            rw [q] at hS1
            have hS2 : aa_SX mX6_step 2 [.ref 7, .int (nI (jmv a b c k))] σ1 (some (.int (nI j))) σ1 := hS1
            have jl2 := pl_sp_lt q
            have nlt := pl_nx_lt ok jl.1 jl2
            have bdl : bd s (pl_nx P s j) < 2147483648 := Nat.lt_of_lt_of_le (bb_bd jl.1) (by omega)
            have wl := pl_wo_le ok (bd s (pl_nx P s j))
            have e6 : jgS P k (jmv a b c k) (s, x, y) = if pl_lg P (k % 2) s j then some (pl_nx P s j, x + (if k % 2 = 0 then pl_wo P (bd s (pl_nx P s j)) else 0), y + (if k % 2 = 0 then 0 else pl_wo P (bd s (pl_nx P s j)))) else none := by rw [jgS, q]; rfl
            have t3 := h1.T.2.2.2.2.2.2 (k % 2) (by omega)
            obtain ⟨h2, f2⟩ := h1.up2 (k := k) (w := pl_wo P (bd s (pl_nx P s j)))
            refine aa_go (aa_bipush iX11_judge_63 kb_6) (aa_go (aa_iload6 iX11_judge_65) (aa_go (aa_iconst iX11_judge_67 ki_5) (aa_go (aa_iremN iX11_judge_68 (by omega) (by omega) (by omega)) (aa_go (aa_imulN iX11_judge_69 ) (aa_go (aa_iushrN iX11_judge_70 (by omega) (by omega)) (aa_go (aa_bipush iX11_judge_71 kb_63) (aa_go (aa_iandN iX11_judge_73 ) ?_)))))))
            refine aa_go (aa_top (y := nI (jmv a b c k)) (by rw [jmv, ← esel])) ?_
            refine aa_go (aa_cVi iX11_judge_74 (hS2) (by decide) lc_X6_step lk_X11_188 (sh_7 h1.1) rfl rfl (Nat.le_of_ble_eq_true rfl)) (aa_go (aa_istore7 iX11_judge_77 rfl (by decide)) (aa_go (aa_aload0 iX11_judge_79) (aa_go (aa_getR iX11_judge_80 fl_X11_19 (sh_0 h1.1) rfl) (aa_go (aa_iload5 iX11_judge_83) (aa_go (aa_iload6 iX11_judge_85) (aa_go (aa_iconst iX11_judge_87 ki_1) (aa_go (aa_iandN iX11_judge_88 ) ?_)))))))
            refine aa_go (aa_top (y := nI (k % 2)) (by rw [Nat.and_one_is_mod])) ?_
            refine aa_go (aa_iload7 iX11_judge_89) (aa_go (aa_cVi iX11_judge_91 (c_X6_can h1.1 h1.X (h := k % 2) (by omega) (by omega)) (by decide) lc_X6_can lk_X11_194 (sh_7 h1.1) rfl rfl (Nat.le_of_ble_eq_true rfl)) ?_)
            refine aa_if_neB iX11_judge_94 (fun g4 => ?_) (fun g4 => ?_)
            · skip
              have lg : pl_lg P (k % 2) s j = true := by
                rw [Bool.and_eq_true] at g4; exact g4.2
              rw [lg, if_pos rfl] at e6
              refine aa_go (aa_aload0 iX11_judge_100) (aa_go (aa_getR iX11_judge_101 fl_X11_19 (sh_0 h1.1) rfl) (aa_go (aa_iload5 iX11_judge_104) (aa_go (aa_iload7 iX11_judge_106) (aa_go (aa_cVi iX11_judge_108 (c_X6_behind h1.1 h1.X jl2) (by decide) lc_X6_behind lk_X11_214 (sh_7 h1.1) rfl rfl (Nat.le_of_ble_eq_true rfl)) (aa_go (aa_istore8 iX11_judge_111 rfl (by decide)) (aa_go (aa_aload0 iX11_judge_113) (aa_go (aa_getR iX11_judge_114 fl_X11_89 (sh_0 h1.1) rfl) ?_)))))))
              refine aa_go (aa_iload6 iX11_judge_117) (aa_go (aa_iconst iX11_judge_119 ki_1) (aa_go (aa_iandN iX11_judge_120 ) ?_))
              refine aa_go (aa_top (y := nI (k % 2)) (by rw [Nat.and_one_is_mod])) ?_
              refine aa_go (aa_dup2 iX11_judge_121 rfl rfl) (aa_go (aa_lalE iX11_judge_122 (sh_56 h1.1) (by omega) (by omega) (t3)) (aa_go (aa_aload0 iX11_judge_123) (aa_go (aa_getR iX11_judge_124 fl_X11_19 (sh_0 h1.1) rfl) (aa_go (aa_iload5 iX11_judge_127) (aa_go (aa_iload8 iX11_judge_129) (aa_go (aa_iconst iX11_judge_131 ki_m1) (aa_go (aa_ixor iX11_judge_132) ?_)))))))
              refine aa_go (aa_iandC iX11_judge_133) (aa_go (aa_cVi iX11_judge_134 (c_X6_worthOf h1.1 h1.X bdl) (by decide) lc_X6_worthOf lk_X11_171 (sh_7 h1.1) rfl rfl (Nat.le_of_ble_eq_true rfl)) (aa_go (aa_i2lN iX11_judge_137 (by omega)) (aa_go (aa_ladd iX11_judge_138) (aa_go (aa_lasN iX11_judge_139 (sh_56 h1.1) (by omega) (by omega)) (aa_go (aa_iload8 iX11_judge_140) (aa_go (aa_istore5 iX11_judge_142 rfl (by decide)) (aa_go (aa_iincN6 (k := 1) iX11_judge_144 rfl (by decide)) ?_)))))))
              refine aa_go (aa_goto iX11_judge_147) ?_
              exact ih (k + 1) (pl_nx P s j) _ _ _ _ _ (by omega) (by omega) (by rw [e5, e6]) h2 (f1.tr f2)
            · skip
              have lg : pl_lg P (k % 2) s j = false := by
                rw [decide_eq_true jl2] at g4; exact g4
              refine aa_go (aa_iload6 iX11_judge_97) ?_
              refine aa_iret iX11_judge_99 rfl ?_
              exact ⟨_, x, y, rfl, Or.inr ⟨k, s, g3, hj, by rw [e5, e6, lg]; rfl, rfl⟩, h1.to, f1⟩
        refine aa_go (aa_aload0 iX11_judge_36) (aa_go (aa_getR iX11_judge_37 fl_X11_19 (sh_0 h1.1) rfl) (aa_go (aa_iload6 iX11_judge_40) (aa_go (aa_iconst iX11_judge_42 ki_5) ?_)))
        refine aa_ic_geN iX11_judge_43 (by omega) (by omega) (fun g4 => ?_) (fun g4 => ?_)
        · skip
          refine aa_go (aa_iload6 iX11_judge_50) (aa_go (aa_bipush iX11_judge_52 kb_10) ?_)
          refine aa_ic_geN iX11_judge_54 (by omega) (by omega) (fun g5 => ?_) (fun g5 => ?_)
          · skip
            refine aa_go (aa_iload4 iX11_judge_61) ?_
            exact tail c hc (by rw [if_neg (by omega), if_neg (by omega)])
          · skip
            refine aa_go (aa_iload3 iX11_judge_57) (aa_go (aa_goto iX11_judge_58) ?_)
            exact tail b hb (by rw [if_neg (by omega), if_pos g5])
        · skip
          refine aa_go (aa_iload2 iX11_judge_46) (aa_go (aa_goto iX11_judge_47) ?_)
          exact tail a ha (by rw [if_pos g4])
  have key : aa_V mX11_judge 100 0 [some (.ref 0), some (.int (nI m)), some (.int (nI a)), some (.int (nI b)), some (.int (nI c)), none, none, none, none] [] σ (fun ra σ' => ∃ z x y, ra = some (.int z) ∧ JR P m a b c z x y ∧ XI P tx n g kp lk 2 (rw2 x y) N r dy σ' ∧ CF r σ r σ') := by
    obtain ⟨h2, f2⟩ := h.tell2 0 0
    refine aa_go (aa_iload1 iX11_judge_0) ?_
    refine aa_go (aa_if_ltN iX11_judge_1 (by omega)) ?_
    refine aa_go (aa_iload1 iX11_judge_4) (aa_go (aa_bipush iX11_judge_5 kb_15) ?_)
    refine aa_ic_leN iX11_judge_7 (by omega) (by omega) (fun g1 => ?_) (fun g1 => ?_)
    · skip
      refine aa_go (aa_aload0 iX11_judge_12) (aa_go (aa_lconst iX11_judge_13 kl_0) (aa_go (aa_lconst iX11_judge_14 kl_0) (aa_go (aa_cVv iX11_judge_15 (c_tell2 h.1 _ _) (by decide) lc_X11_tell_ lk_X11_207 (sh_0 h.1) rfl rfl (Nat.le_of_ble_eq_true rfl)) ?_)))
      refine aa_go (aa_aload0 iX11_judge_18) (aa_go (aa_getR iX11_judge_19 fl_X11_19 (sh_0 h2.1) rfl) (aa_go (aa_cVi iX11_judge_22 (c_X6_first h2.1 h2.X) (by decide) lc_X6_first lk_X11_211 (sh_7 h2.1) rfl rfl (Nat.le_of_ble_eq_true rfl)) (aa_go (aa_istore5 iX11_judge_25 rfl (by decide)) (aa_go (aa_iconst iX11_judge_27 ki_0) (aa_go (aa_istore6 iX11_judge_28 rfl (by decide)) ?_)))))
      exact loop (m + 1) 0 _ 0 0 _ _ _ (by omega) (by omega) rfl h2 f2
    · skip
      omega
  obtain ⟨ra, σ', ⟨z, x, y, rfl, h1⟩, hS9⟩ := aa_S_of (avs := [.ref 0, .int (nI m), .int (nI a), .int (nI b), .int (nI c)]) (by decide) 4 [some (.ref 0), some (.int (nI m)), some (.int (nI a)), some (.int (nI b)), some (.int (nI c)), none, none, none, none] rfl rfl key
  exact ⟨z, x, y, σ', h1, hS9⟩
theorem p_judgeB (hW : aa_W r dy σ) {m a b c : Int32} (hm : m < 0 ∨ nI 15 < m) : aa_SX mX11_judge 100 [.ref 0, .int m, .int a, .int b, .int c] σ (some (.int (-1))) σ := by
  refine aa_E_of (by decide) 4 [some (.ref 0), some (.int (m)), some (.int (a)), some (.int (b)), some (.int (c)), none, none, none, none] rfl rfl ?_
  refine aa_go (aa_iload1 iX11_judge_0) ?_
  refine aa_if_lt iX11_judge_1 (fun g1 => ?_) (fun g1 => ?_)
  · skip
    refine aa_go (aa_iconst iX11_judge_10 ki_m1) ?_
    refine aa_iret iX11_judge_11 rfl ?_
    exact ⟨rfl, rfl⟩
  · skip
    refine aa_go (aa_iload1 iX11_judge_4) (aa_go (aa_bipush iX11_judge_5 kb_15) ?_)
    refine aa_ic_le iX11_judge_7 (fun g2 => ?_) (fun g2 => ?_)
    · skip
      rcases hm with q | q
      · exact absurd q g1
      · exact absurd q (Int32.not_lt.mpr g2)
    · skip
      refine aa_go (aa_iconst iX11_judge_10 ki_m1) ?_
      refine aa_iret iX11_judge_11 rfl ?_
      exact ⟨rfl, rfl⟩
def frR (P : pl_T) (L : List Nat) : Nat → Int := fun i => pl_mo P (L.getD i 0)
theorem p_forced (h : XIv P tx n g kp lk tl rw N v W S R r dy σ) : ∃ σ', (XI P tx n g kp lk (frc P 20 (gtn g) (gst g)).length (frR P (frc P 20 (gtn g) (gst g))) N r dy σ' ∧ CF r σ r σ') ∧ aa_SX mX11_forced 100 [.ref 0] σ (some (.int (nI (frc P 20 (gtn g) (gst g)).length))) σ' := by
  have ok := h.ok
  have p16 := h.p16
  have hn := h.X.n14
  have hb2 := h.X.b2
  have loop : ∀ f k s t L (σ1 : aa_St) y4 y5, k + f = 20 → L.length = k → frc P 20 (gtn g) (gst g) = L ++ frc P f t s → s < 2 ^ (pl_n P + pl_b P) → t ≤ 1 → XIv P tx n g kp lk k (frR P L) N v W S R r dy σ1 → CF r σ r σ1 → aa_V mX11_forced 100 23 [some (.ref 0), some (.int (nI s)), some (.int (nI t)), some (.int (nI k)), y4, y5] [] σ1 (fun ra σ' => ra = some (.int (nI (frc P 20 (gtn g) (gst g)).length)) ∧ XI P tx n g kp lk (frc P 20 (gtn g) (gst g)).length (frR P (frc P 20 (gtn g) (gst g))) N r dy σ' ∧ CF r σ r σ') := by
    intro f
    induction f with
    | zero =>
      intro k s t L σ1 y4 y5 hk hL hfr hs ht h1 f1
      rw [frc, List.append_nil] at hfr
      have t1 := h1.T.2.2.2.2.1
      rw [hfr, hL]
      refine aa_go (aa_iload3 iX11_forced_23) (aa_go (aa_bipush iX11_forced_24 kb_20) ?_)
      refine aa_ic_geN iX11_forced_26 (by omega) (by omega) (fun g3 => ?_) (fun g3 => ?_)
      · skip
        refine aa_go (aa_aload0 iX11_forced_103) (aa_go (aa_getE iX11_forced_104 fl_X11_93 (sh_0 h1.1) rfl t1) ?_)
        refine aa_iret iX11_forced_107 rfl ?_
        exact ⟨rfl, h1.to, f1⟩
      · skip
        omega
    | succ f ih =>
      intro k s t L σ1 y4 y5 hk hL hfr hs ht h1 f1
      have t1 := h1.T.2.2.2.2.1
      have lmv := pl_mv_lt P t s
      have cm := cn_mv ok t s
      have cm32 := cn_le (pl_mv P t s) 32
      refine aa_go (aa_iload3 iX11_forced_23) (aa_go (aa_bipush iX11_forced_24 kb_20) ?_)
      refine aa_ic_geN iX11_forced_26 (by omega) (by omega) (fun g3 => ?_) (fun g3 => ?_)
      · skip
        omega
      · skip
        refine aa_go (aa_aload0 iX11_forced_29) (aa_go (aa_getR iX11_forced_30 fl_X11_19 (sh_0 h1.1) rfl) (aa_go (aa_iload1 iX11_forced_33) (aa_go (aa_iload2 iX11_forced_34) (aa_go (aa_cVi iX11_forced_35 (c_X6_moves h1.1 h1.X (by omega)) (by decide) lc_X6_moves lk_X11_182 (sh_7 h1.1) rfl rfl (Nat.le_of_ble_eq_true rfl)) (aa_go (aa_istore4 iX11_forced_38 rfl (by decide)) (aa_go (aa_iload4 iX11_forced_40) (aa_go (aa_cSi iX11_forced_42 (c_bitCount (by omega)) (by decide) lc_J6_bitCount_0f7a4 lk_X11_252 rfl (Nat.le_of_ble_eq_true rfl)) ?_)))))))
        refine aa_go (aa_iconst iX11_forced_45 ki_1) ?_
        refine aa_ic_eqN iX11_forced_46 (by omega) (by omega) (fun g4 => ?_) (fun g4 => ?_)
        · skip
          rw [cm] at g4
          obtain ⟨j, ej⟩ := List.length_eq_one_iff.mp g4
          obtain ⟨lb1, jl, lg⟩ := ML_low ok ej
          have nlt := pl_nx_lt ok hs jl
          have ml : pl_mo P j < 28 := by
            unfold pl_mo
            split
            · omega
            · have := h1.X.kn (k := j - pl_n P) (by omega); omega
          have hfr2 : frc P 20 (gtn g) (gst g) = (L ++ [j]) ++ frc P f (1 - t) (pl_nx P s j) := by rw [hfr, frc, ej, List.append_assoc]; rfl
          have hN : NB (k + 1) (frR P (L ++ [j])) (aa_sI (aa_sL σ1 56 k (lN (pl_mo P j))) 0 13 (nI (k + 1))) := by
            refine ⟨sI_eq, by omega, fun i hi => ?_⟩
            show (aa_sL σ1 56 k (lN (pl_mo P j))).2.1 56 i = _
            rw [sL_at, frR]
            by_cases c : i = k
            · rw [if_pos c, c, List.getD_eq_getElem?_getD, List.getElem?_append_right (by omega), hL, Nat.sub_self]; rfl
            · rw [if_neg c, h1.T.2.2.2.2.2.2 i (by omega), frR, List.getD_eq_getElem?_getD, List.getD_eq_getElem?_getD, List.getElem?_append_left (by omega)]
          obtain ⟨h2, f2⟩ := h1.num ((FrN.rf.l _ _).s _ _) hN
          refine aa_go (aa_iload4 iX11_forced_52) (aa_go (aa_cSi iX11_forced_54 (c_X6_lowest lb1) (by decide) lc_X6_lowest lk_X11_257 rfl (Nat.le_of_ble_eq_true rfl)) (aa_go (aa_istore5 iX11_forced_57 rfl (by decide)) (aa_go (aa_aload0 iX11_forced_59) (aa_go (aa_getR iX11_forced_60 fl_X11_89 (sh_0 h1.1) rfl) (aa_go (aa_iload3 iX11_forced_63) (aa_go (aa_aload0 iX11_forced_64) (aa_go (aa_getR iX11_forced_65 fl_X11_19 (sh_0 h1.1) rfl) ?_)))))))
          refine aa_go (aa_iload5 iX11_forced_68) (aa_go (aa_cVi iX11_forced_70 (c_X6_moveOf h1.1 h1.X jl) (by decide) lc_X6_moveOf lk_X11_236 (sh_7 h1.1) rfl rfl (Nat.le_of_ble_eq_true rfl)) (aa_go (aa_i2lN iX11_forced_73 (by omega)) (aa_go (aa_lasN iX11_forced_74 (sh_56 h1.1) (by omega) (by omega)) (aa_go (aa_aload0 iX11_forced_75) (aa_go (aa_iload3 iX11_forced_76) (aa_go (aa_iconst iX11_forced_77 ki_1) (aa_go (aa_iaddN iX11_forced_78 ) ?_)))))))
          refine aa_go (aa_putI iX11_forced_79 fl_X11_93 (fun h => nomatch h) (sh_0 h1.1) rfl ⟨rfl, rfl⟩) ?_
          refine aa_go (aa_aload0 iX11_forced_82) (aa_go (aa_getR iX11_forced_83 fl_X11_19 (sh_0 h2.1) rfl) (aa_go (aa_iload1 iX11_forced_86) (aa_go (aa_iload5 iX11_forced_87) (aa_go (aa_cVi iX11_forced_89 (c_X6_behind h2.1 h2.X jl) (by decide) lc_X6_behind lk_X11_214 (sh_7 h2.1) rfl rfl (Nat.le_of_ble_eq_true rfl)) (aa_go (aa_istore1 iX11_forced_92 rfl (by decide)) (aa_go (aa_iconst iX11_forced_93 ki_1) (aa_go (aa_iload2 iX11_forced_94) ?_)))))))
          refine aa_go (aa_isubN iX11_forced_95 (by omega)) (aa_go (aa_istore2 iX11_forced_96 rfl (by decide)) (aa_go (aa_iincN3 (k := 1) iX11_forced_97 rfl (by decide)) (aa_go (aa_goto iX11_forced_100) ?_)))
          exact ih (k + 1) (pl_nx P s j) (1 - t) (L ++ [j]) _ _ _ (by omega) (by rw [List.length_append, hL]; rfl) hfr2 nlt (by omega) h2 (f1.tr f2)
        · skip
          rw [cm] at g4
          have e0 : frc P (f + 1) t s = [] := by
            rw [frc]
            split
            · rename_i j e; rw [e] at g4; simp at g4
            · rfl
          rw [e0, List.append_nil] at hfr
          rw [hfr, hL]
          refine aa_go (aa_goto iX11_forced_49) (aa_go (aa_aload0 iX11_forced_103) (aa_go (aa_getE iX11_forced_104 fl_X11_93 (sh_0 h1.1) rfl t1) ?_))
          refine aa_iret iX11_forced_107 rfl ?_
          exact ⟨rfl, h1.to, f1⟩
  have key : aa_V mX11_forced 100 0 [some (.ref 0), none, none, none, none, none] [] σ (fun ra σ' => ra = some (.int (nI (frc P 20 (gtn g) (gst g)).length)) ∧ XI P tx n g kp lk (frc P 20 (gtn g) (gst g)).length (frR P (frc P 20 (gtn g) (gst g))) N r dy σ' ∧ CF r σ r σ') := by
    obtain ⟨h2, f2⟩ := h.num (tl' := 0) (rw' := frR P []) (σ' := aa_sI σ 0 13 (nI 0)) (FrN.rf.s _ _) ⟨sI_eq, by omega, fun i hi => by omega⟩
    refine aa_go (aa_aload0 iX11_forced_0) (aa_go (aa_getR iX11_forced_1 fl_X11_28 (sh_0 h.1) rfl) (aa_go (aa_cVi iX11_forced_4 (c_X2_state h.1 h.G) (by decide) lc_X2_state lk_X11_140 (sh_20 h.1) rfl rfl (Nat.le_of_ble_eq_true rfl)) (aa_go (aa_istore1 iX11_forced_7 rfl (by decide)) (aa_go (aa_aload0 iX11_forced_8) (aa_go (aa_getR iX11_forced_9 fl_X11_28 (sh_0 h.1) rfl) (aa_go (aa_cVi iX11_forced_12 (c_X2_turn h.1 h.G) (by decide) lc_X2_turn lk_X11_191 (sh_20 h.1) rfl rfl (Nat.le_of_ble_eq_true rfl)) (aa_go (aa_istore2 iX11_forced_15 rfl (by decide)) ?_)))))))
    refine aa_go (aa_aload0 iX11_forced_16) (aa_go (aa_iconst iX11_forced_17 ki_0) (aa_go (aa_putI iX11_forced_18 fl_X11_93 (fun h => nomatch h) (sh_0 h.1) rfl ⟨rfl, rfl⟩) (aa_go (aa_iconst iX11_forced_21 ki_0) (aa_go (aa_istore3 iX11_forced_22 rfl (by decide)) ?_))))
    exact loop 20 0 (gst g) (gtn g) [] _ _ _ rfl rfl rfl h.st (by unfold gtn; omega) h2 f2
  obtain ⟨ra, σ', ⟨rfl, h1⟩, hS9⟩ := aa_S_of (avs := [.ref 0]) (by decide) 5 [some (.ref 0), none, none, none, none, none] rfl rfl key
  exact ⟨σ', h1, hS9⟩
def hpR (L : List Nat) : Nat → Int := fun i => (L.getD i 0 : Nat)
theorem p_heaps (h : XIv P tx n g kp lk tl rw N v W S R r dy σ) : ∃ r' dy' σ', (XI P tx n g kp lk (hpw P (gth P g) (pl_n P)).1.length (hpR (hpw P (gth P g) (pl_n P)).1) N r' dy' σ' ∧ CF r σ r' σ') ∧ aa_SX mX11_heaps 100 [.ref 0] σ (some (.int (nI (hpw P (gth P g) (pl_n P)).1.length))) σ' := by
  have ok := h.ok
  have hn := h.X.n14
  have p14 := pw14 hn
  have loop : ∀ f k (r1 : Nat → Nat) dy1 (σ1 : aa_St) y3, pl_n P - k < f → k ≤ pl_n P → XIv P tx n g kp lk (hpw P (gth P g) k).1.length (hpR (hpw P (gth P g) k).1) N v W S R r1 dy1 σ1 → CF r σ r1 σ1 → aa_V mX11_heaps 100 15 [some (.ref 0), some (.int (nI (hpw P (gth P g) k).2)), some (.int (nI k)), y3] [] σ1 (fun ra σ' => ra = some (.int (nI (hpw P (gth P g) (pl_n P)).1.length)) ∧ ∃ r' dy', XI P tx n g kp lk (hpw P (gth P g) (pl_n P)).1.length (hpR (hpw P (gth P g) (pl_n P)).1) N r' dy' σ' ∧ CF r σ r' σ') := by
    intro f
    induction f with
    | zero => intro k r1 dy1 σ1 y3 g1; omega
    | succ f ih =>
      intro k r1 dy1 σ1 y3 g1 g2 h1 f1
      have hl := hpw_le P (gth_lt P g) k
      have t1 := h1.T.2.2.2.2.1
      refine aa_go (aa_iload2 iX11_heaps_15) (aa_go (aa_aload0 iX11_heaps_16) (aa_go (aa_getR iX11_heaps_17 fl_X11_19 (sh_0 h1.1) rfl) (aa_go (aa_cVi iX11_heaps_20 (c_X6_things h1.1 h1.X) (by decide) lc_X6_things lk_X11_151 (sh_7 h1.1) rfl rfl (Nat.le_of_ble_eq_true rfl)) ?_)))
      refine aa_ic_geN iX11_heaps_23 (by omega) (by omega) (fun g3 => ?_) (fun g3 => ?_)
      · skip
        have e1 : k = pl_n P := by omega
        subst e1
        refine aa_go (aa_aload0 iX11_heaps_91) (aa_go (aa_getE iX11_heaps_92 fl_X11_93 (sh_0 h1.1) rfl t1) ?_)
        refine aa_iret iX11_heaps_95 rfl ?_
        exact ⟨rfl, r1, dy1, h1.to, f1⟩
      · skip
        refine aa_go (aa_iload1 iX11_heaps_26) (aa_go (aa_iload2 iX11_heaps_27) (aa_go (aa_ishrN iX11_heaps_28 (by omega) (by omega)) (aa_go (aa_iconst iX11_heaps_29 ki_1) (aa_go (aa_ibit iX11_heaps_30) ?_))))
        refine aa_if_eqB iX11_heaps_31 (fun g4 => ?_) (fun g4 => ?_)
        · skip
          have nxt := ih (k + 1) r1 dy1 σ1 y3 (by omega) (by omega)
          rw [hpw, g4] at nxt
          refine aa_go (aa_iincN2 (k := 1) iX11_heaps_85 rfl (by decide)) (aa_go (aa_goto iX11_heaps_88) ?_)
          exact nxt h1 f1
        · skip
          have hpl := pl_hp_lt (i := k) hl.2
          obtain ⟨r2, dy2, σ2, ⟨hM2, hR2⟩, hS2⟩ := c_X3_valueOf h1.sg h1.1 h1.X h1.V h1.M.2.2.1 (jtP_lt (pl_hp P (hpw P (gth P g) k).2 k))
          obtain ⟨h2, f2⟩ := h1.M2 hM2 h1.p16 (fun _ => hR2)
          have t2 := h2.T.2.2.2.2.1
          have vlb := vl_le ok (jtP P (pl_hp P (hpw P (gth P g) k).2 k))
          have hN : NB ((hpw P (gth P g) k).1.length + 1) (hpR ((hpw P (gth P g) k).1 ++ [vl P (jtP P (pl_hp P (hpw P (gth P g) k).2 k))])) (aa_sI (aa_sL σ2 56 (hpw P (gth P g) k).1.length (lN (vl P (jtP P (pl_hp P (hpw P (gth P g) k).2 k))))) 0 13 (nI ((hpw P (gth P g) k).1.length + 1))) := by
            refine ⟨sI_eq, by omega, fun i hi => ?_⟩
            show (aa_sL σ2 56 (hpw P (gth P g) k).1.length (lN (vl P (jtP P (pl_hp P (hpw P (gth P g) k).2 k))))).2.1 56 i = _
            rw [sL_at, hpR]
            by_cases c : i = (hpw P (gth P g) k).1.length
            · rw [if_pos c, c, List.getD_eq_getElem?_getD, List.getElem?_append_right (Nat.le_refl _), Nat.sub_self]; rfl
            · rw [if_neg c, h2.T.2.2.2.2.2.2 i (by omega), hpR, List.getD_eq_getElem?_getD, List.getD_eq_getElem?_getD, List.getElem?_append_left (by omega)]
          obtain ⟨h3, f3⟩ := h2.num ((FrN.rf.l _ _).s _ _) hN
          have nxt := ih (k + 1) r2 dy2 (aa_sI (aa_sL σ2 56 (hpw P (gth P g) k).1.length (lN (vl P (jtP P (pl_hp P (hpw P (gth P g) k).2 k))))) 0 13 (nI ((hpw P (gth P g) k).1.length + 1))) (some (.int (nI (pl_hp P (hpw P (gth P g) k).2 k)))) (by omega) (by omega)
          rw [hpw, g4, if_pos rfl, List.length_append] at nxt
          refine aa_go (aa_aload0 iX11_heaps_34) (aa_go (aa_getR iX11_heaps_35 fl_X11_19 (sh_0 h1.1) rfl) (aa_go (aa_iload2 iX11_heaps_38) (aa_go (aa_iload1 iX11_heaps_39) (aa_go (aa_cVi iX11_heaps_40 (c_heapOf h1 g3 (t := (hpw P (gth P g) k).2) (by omega)) (by decide) lc_X6_heapOf lk_X11_281 (sh_7 h1.1) rfl rfl (Nat.le_of_ble_eq_true rfl)) (aa_go (aa_istore3 iX11_heaps_43 rfl (by decide)) (aa_go (aa_aload0 iX11_heaps_44) (aa_go (aa_getR iX11_heaps_45 fl_X11_89 (sh_0 h1.1) rfl) ?_)))))))
          refine aa_go (aa_aload0 iX11_heaps_48) (aa_go (aa_getE iX11_heaps_49 fl_X11_93 (sh_0 h1.1) rfl t1) (aa_go (aa_aload0 iX11_heaps_52) (aa_go (aa_getR iX11_heaps_53 fl_X11_50 (sh_0 h1.1) rfl) (aa_go (aa_aload0 iX11_heaps_56) (aa_go (aa_getR iX11_heaps_57 fl_X11_19 (sh_0 h1.1) rfl) (aa_go (aa_iload3 iX11_heaps_60) (aa_go (aa_cVi iX11_heaps_61 (c_X6_justThese h1.1 h1.X) (by decide) lc_X6_justThese lk_X11_272 (sh_7 h1.1) rfl rfl (Nat.le_of_ble_eq_true rfl)) ?_)))))))
          refine aa_go (aa_cVi iX11_heaps_64 (hS2) (by decide) lc_X3_valueOf lk_X11_269 (sh_29 h1.1) rfl rfl (Nat.le_of_ble_eq_true rfl)) ?_
          refine aa_go (aa_i2lN iX11_heaps_67 (by omega)) (aa_go (aa_lasN iX11_heaps_68 (sh_56 h2.1) (by omega) (by omega)) (aa_go (aa_aload0 iX11_heaps_69) (aa_go (aa_dup iX11_heaps_70 rfl) (aa_go (aa_getE iX11_heaps_71 fl_X11_93 (sh_0 h2.1) rfl t2) (aa_go (aa_iconst iX11_heaps_74 ki_1) (aa_go (aa_iaddN iX11_heaps_75 ) (aa_go (aa_putI iX11_heaps_76 fl_X11_93 (fun h => nomatch h) (sh_0 h2.1) rfl ⟨rfl, rfl⟩) ?_)))))))
          refine aa_go (aa_iload1 iX11_heaps_79) (aa_go (aa_iload3 iX11_heaps_80) (aa_go (aa_iconst iX11_heaps_81 ki_m1) (aa_go (aa_ixor iX11_heaps_82) (aa_go (aa_iandC iX11_heaps_83) (aa_go (aa_istore1 iX11_heaps_84 rfl (by decide)) (aa_go (aa_iincN2 (k := 1) iX11_heaps_85 rfl (by decide)) (aa_go (aa_goto iX11_heaps_88) ?_)))))))
          exact nxt h3 ((f1.tr f2).tr f3)
  have key : aa_V mX11_heaps 100 0 [some (.ref 0), none, none, none] [] σ (fun ra σ' => ra = some (.int (nI (hpw P (gth P g) (pl_n P)).1.length)) ∧ ∃ r' dy', XI P tx n g kp lk (hpw P (gth P g) (pl_n P)).1.length (hpR (hpw P (gth P g) (pl_n P)).1) N r' dy' σ' ∧ CF r σ r' σ') := by
    obtain ⟨h2, f2⟩ := h.num (tl' := 0) (rw' := hpR []) (σ' := aa_sI σ 0 13 (nI 0)) (FrN.rf.s _ _) ⟨sI_eq, by omega, fun i hi => by omega⟩
    refine aa_go (aa_aload0 iX11_heaps_0) (aa_go (aa_getR iX11_heaps_1 fl_X11_28 (sh_0 h.1) rfl) (aa_go (aa_cVi iX11_heaps_4 (c_X2_there h.1 h.X h.G) (by decide) lc_X2_there lk_X11_278 (sh_20 h.1) rfl rfl (Nat.le_of_ble_eq_true rfl)) (aa_go (aa_istore1 iX11_heaps_7 rfl (by decide)) (aa_go (aa_aload0 iX11_heaps_8) (aa_go (aa_iconst iX11_heaps_9 ki_0) (aa_go (aa_putI iX11_heaps_10 fl_X11_93 (fun h => nomatch h) (sh_0 h.1) rfl ⟨rfl, rfl⟩) (aa_go (aa_iconst iX11_heaps_13 ki_0) ?_)))))))
    refine aa_go (aa_istore2 iX11_heaps_14 rfl (by decide)) ?_
    exact loop (pl_n P + 1) 0 r dy _ _ (by omega) (by omega) h2 f2
  obtain ⟨ra, σ', ⟨rfl, r', dy', h1⟩, hS9⟩ := aa_S_of (avs := [.ref 0]) (by decide) 3 [some (.ref 0), none, none, none] rfl rfl key
  exact ⟨r', dy', σ', h1, hS9⟩
theorem p_greedy (h : XIv P tx n g kp lk tl rw N v W S R r dy σ) : ∃ σ', (XI P tx n g kp lk 2 (rw2 (grf P (gtn g) 18 0 (gst g, 0, 0)).2.1 (grf P (gtn g) 18 0 (gst g, 0, 0)).2.2) N r dy σ' ∧ CF r σ r σ') ∧ aa_SX mX11_greedy 100 [.ref 0] σ (some (.int (nI (grf P (gtn g) 18 0 (gst g, 0, 0)).1))) σ' := by
  have ok := h.ok
  have p16 := h.p16
  have hn := h.X.n14
  have hb2 := h.X.b2
  have loop : ∀ f k s x y (σ1 : aa_St) y4 y5, k + f = 18 → grf P (gtn g) 18 0 (gst g, 0, 0) = grf P (gtn g) f k (s, x, y) → s < 2 ^ (pl_n P + pl_b P) → XIv P tx n g kp lk 2 (rw2 x y) N v W S R r dy σ1 → CF r σ r σ1 → aa_V mX11_greedy 100 18 [some (.ref 0), some (.int (nI s)), some (.int (nI k)), some (.int (nI k)), y4, y5] [] σ1 (fun ra σ' => ra = some (.int (nI (grf P (gtn g) 18 0 (gst g, 0, 0)).1)) ∧ XI P tx n g kp lk 2 (rw2 (grf P (gtn g) 18 0 (gst g, 0, 0)).2.1 (grf P (gtn g) 18 0 (gst g, 0, 0)).2.2) N r dy σ' ∧ CF r σ r σ') := by
    intro f
    induction f with
    | zero =>
      intro k s x y σ1 y4 y5 hk hg hs h1 f1
      rw [hg]
      refine aa_go (aa_iload3 iX11_greedy_18) (aa_go (aa_bipush iX11_greedy_19 kb_18) ?_)
      refine aa_ic_geN iX11_greedy_21 (by omega) (by omega) (fun g3 => ?_) (fun g3 => ?_)
      · skip
        refine aa_go (aa_iload2 iX11_greedy_103) ?_
        refine aa_iret iX11_greedy_104 rfl ?_
        exact ⟨rfl, h1.to, f1⟩
      · skip
        omega
    | succ f ih =>
      intro k s x y σ1 y4 y5 hk hg hs h1 f1
      have hS1 := c_X10_greediest h1.1 h1.X hs (h := (gtn g + k) % 2) (by omega)
      have e7 : g.1 % 2 = gtn g := rfl
      cases q : (gdk P ((gtn g + k) % 2) s (pl_n P)).2 with
      | none =>
        rw [q] at hS1
        have hS2 : aa_SX mX10_greediest 3 [.ref 38, .int (nI s), .int (nI ((gtn g + k) % 2))] σ1 (some (.int (-1))) σ1 := hS1
        have e1 : grf P (gtn g) (f + 1) k (s, x, y) = (k, x, y) := by rw [grf, q]
        rw [hg, e1]
        refine aa_go (aa_iload3 iX11_greedy_18) (aa_go (aa_bipush iX11_greedy_19 kb_18) ?_)
        refine aa_ic_geN iX11_greedy_21 (by omega) (by omega) (fun g3 => ?_) (fun g3 => ?_)
        · skip
          omega
        · skip
          refine aa_go (aa_aload0 iX11_greedy_24) (aa_go (aa_getR iX11_greedy_25 fl_X11_64 (sh_0 h1.1) rfl) (aa_go (aa_iload1 iX11_greedy_28) (aa_go (aa_aload0 iX11_greedy_29) (aa_go (aa_getR iX11_greedy_30 fl_X11_28 (sh_0 h1.1) rfl) (aa_go (aa_cVi iX11_greedy_33 (c_X2_turn h1.1 h1.G) (by decide) lc_X2_turn lk_X11_191 (sh_20 h1.1) rfl rfl (Nat.le_of_ble_eq_true rfl)) (aa_go (aa_iload3 iX11_greedy_36) (aa_go (aa_iaddN iX11_greedy_37 ) ?_)))))))
          refine aa_go (aa_iconst iX11_greedy_38 ki_1) (aa_go (aa_iandN iX11_greedy_39 ) ?_)
          refine aa_go (aa_top (y := nI ((gtn g + k) % 2)) (by rw [Nat.and_one_is_mod, e7])) ?_
          refine aa_go (aa_cVi iX11_greedy_40 (hS2) (by decide) lc_X10_greediest lk_X11_313 (sh_38 h1.1) rfl rfl (Nat.le_of_ble_eq_true rfl)) (aa_go (aa_istore4 iX11_greedy_43 rfl (by decide)) (aa_go (aa_iload4 iX11_greedy_45) (aa_go (aa_iconst iX11_greedy_47 ki_m1) ?_)))
          refine aa_ic_ne iX11_greedy_48 (fun g4 => ?_) (fun g4 => ?_)
          · skip
            exact absurd rfl g4
          · skip
            refine aa_go (aa_goto iX11_greedy_51) (aa_go (aa_iload2 iX11_greedy_103) ?_)
            refine aa_iret iX11_greedy_104 rfl ?_
            exact ⟨rfl, h1.to, f1⟩
      | some j =>
        rw [q] at hS1
        have hS2 : aa_SX mX10_greediest 3 [.ref 38, .int (nI s), .int (nI ((gtn g + k) % 2))] σ1 (some (.int (nI j))) σ1 := hS1
        have jn := gdk_lt _ q
        have jl : j < pl_n P + pl_b P := by omega
        have nlt := pl_nx_lt ok hs jl
        have bdl : bd s (pl_nx P s j) < 2147483648 := Nat.lt_of_lt_of_le (bb_bd hs) (by omega)
        have wl := pl_wo_le ok (bd s (pl_nx P s j))
        have e1 : grf P (gtn g) (f + 1) k (s, x, y) = grf P (gtn g) f (k + 1) (pl_nx P s j, x + (if k % 2 = 0 then pl_wo P (bd s (pl_nx P s j)) else 0), y + (if k % 2 = 0 then 0 else pl_wo P (bd s (pl_nx P s j)))) := by rw [grf, q]
        have t3 := h1.T.2.2.2.2.2.2 (k % 2) (by omega)
        obtain ⟨h2, f2⟩ := h1.up2 (k := k) (w := pl_wo P (bd s (pl_nx P s j)))
        refine aa_go (aa_iload3 iX11_greedy_18) (aa_go (aa_bipush iX11_greedy_19 kb_18) ?_)
        refine aa_ic_geN iX11_greedy_21 (by omega) (by omega) (fun g3 => ?_) (fun g3 => ?_)
        · skip
          omega
        · skip
          refine aa_go (aa_aload0 iX11_greedy_24) (aa_go (aa_getR iX11_greedy_25 fl_X11_64 (sh_0 h1.1) rfl) (aa_go (aa_iload1 iX11_greedy_28) (aa_go (aa_aload0 iX11_greedy_29) (aa_go (aa_getR iX11_greedy_30 fl_X11_28 (sh_0 h1.1) rfl) (aa_go (aa_cVi iX11_greedy_33 (c_X2_turn h1.1 h1.G) (by decide) lc_X2_turn lk_X11_191 (sh_20 h1.1) rfl rfl (Nat.le_of_ble_eq_true rfl)) (aa_go (aa_iload3 iX11_greedy_36) (aa_go (aa_iaddN iX11_greedy_37 ) ?_)))))))
          refine aa_go (aa_iconst iX11_greedy_38 ki_1) (aa_go (aa_iandN iX11_greedy_39 ) ?_)
          refine aa_go (aa_top (y := nI ((gtn g + k) % 2)) (by rw [Nat.and_one_is_mod, e7])) ?_
          refine aa_go (aa_cVi iX11_greedy_40 (hS2) (by decide) lc_X10_greediest lk_X11_313 (sh_38 h1.1) rfl rfl (Nat.le_of_ble_eq_true rfl)) (aa_go (aa_istore4 iX11_greedy_43 rfl (by decide)) (aa_go (aa_iload4 iX11_greedy_45) (aa_go (aa_iconst iX11_greedy_47 ki_m1) ?_)))
          refine aa_ic_ne iX11_greedy_48 (fun g4 => ?_) (fun g4 => ?_)
          · skip
            refine aa_go (aa_aload0 iX11_greedy_54) (aa_go (aa_getR iX11_greedy_55 fl_X11_19 (sh_0 h1.1) rfl) (aa_go (aa_iload1 iX11_greedy_58) (aa_go (aa_iload4 iX11_greedy_59) (aa_go (aa_cVi iX11_greedy_61 (c_X6_behind h1.1 h1.X jl) (by decide) lc_X6_behind lk_X11_214 (sh_7 h1.1) rfl rfl (Nat.le_of_ble_eq_true rfl)) (aa_go (aa_istore5 iX11_greedy_64 rfl (by decide)) (aa_go (aa_aload0 iX11_greedy_66) (aa_go (aa_getR iX11_greedy_67 fl_X11_89 (sh_0 h1.1) rfl) ?_)))))))
            refine aa_go (aa_iload3 iX11_greedy_70) (aa_go (aa_iconst iX11_greedy_71 ki_1) (aa_go (aa_iandN iX11_greedy_72 ) ?_))
            refine aa_go (aa_top (y := nI (k % 2)) (by rw [Nat.and_one_is_mod])) ?_
            refine aa_go (aa_dup2 iX11_greedy_73 rfl rfl) (aa_go (aa_lalE iX11_greedy_74 (sh_56 h1.1) (by omega) (by omega) (t3)) (aa_go (aa_aload0 iX11_greedy_75) (aa_go (aa_getR iX11_greedy_76 fl_X11_19 (sh_0 h1.1) rfl) (aa_go (aa_iload1 iX11_greedy_79) (aa_go (aa_iload5 iX11_greedy_80) (aa_go (aa_iconst iX11_greedy_82 ki_m1) (aa_go (aa_ixor iX11_greedy_83) ?_)))))))
            refine aa_go (aa_iandC iX11_greedy_84) (aa_go (aa_cVi iX11_greedy_85 (c_X6_worthOf h1.1 h1.X bdl) (by decide) lc_X6_worthOf lk_X11_171 (sh_7 h1.1) rfl rfl (Nat.le_of_ble_eq_true rfl)) (aa_go (aa_i2lN iX11_greedy_88 (by omega)) (aa_go (aa_ladd iX11_greedy_89) (aa_go (aa_lasN iX11_greedy_90 (sh_56 h1.1) (by omega) (by omega)) (aa_go (aa_iload5 iX11_greedy_91) (aa_go (aa_istore1 iX11_greedy_93 rfl (by decide)) (aa_go (aa_iincN2 (k := 1) iX11_greedy_94 rfl (by decide)) ?_)))))))
            refine aa_go (aa_iincN3 (k := 1) iX11_greedy_97 rfl (by decide)) (aa_go (aa_goto iX11_greedy_100) ?_)
            exact ih (k + 1) (pl_nx P s j) _ _ _ _ _ (by omega) (by rw [hg, e1]) nlt h2 (f1.tr f2)
          · skip
            exact absurd g4 (nI_m1ne (by omega))
  have key : aa_V mX11_greedy 100 0 [some (.ref 0), none, none, none, none, none] [] σ (fun ra σ' => ra = some (.int (nI (grf P (gtn g) 18 0 (gst g, 0, 0)).1)) ∧ XI P tx n g kp lk 2 (rw2 (grf P (gtn g) 18 0 (gst g, 0, 0)).2.1 (grf P (gtn g) 18 0 (gst g, 0, 0)).2.2) N r dy σ' ∧ CF r σ r σ') := by
    obtain ⟨h2, f2⟩ := h.tell2 0 0
    refine aa_go (aa_aload0 iX11_greedy_0) (aa_go (aa_getR iX11_greedy_1 fl_X11_28 (sh_0 h.1) rfl) (aa_go (aa_cVi iX11_greedy_4 (c_X2_state h.1 h.G) (by decide) lc_X2_state lk_X11_140 (sh_20 h.1) rfl rfl (Nat.le_of_ble_eq_true rfl)) (aa_go (aa_istore1 iX11_greedy_7 rfl (by decide)) (aa_go (aa_iconst iX11_greedy_8 ki_0) (aa_go (aa_istore2 iX11_greedy_9 rfl (by decide)) (aa_go (aa_aload0 iX11_greedy_10) (aa_go (aa_lconst iX11_greedy_11 kl_0) ?_)))))))
    refine aa_go (aa_lconst iX11_greedy_12 kl_0) (aa_go (aa_cVv iX11_greedy_13 (c_tell2 h.1 _ _) (by decide) lc_X11_tell_ lk_X11_207 (sh_0 h.1) rfl rfl (Nat.le_of_ble_eq_true rfl)) (aa_go (aa_iconst iX11_greedy_16 ki_0) (aa_go (aa_istore3 iX11_greedy_17 rfl (by decide)) ?_)))
    exact loop 18 0 (gst g) 0 0 _ _ _ rfl rfl h.st h2 f2
  obtain ⟨ra, σ', ⟨rfl, h1⟩, hS9⟩ := aa_S_of (avs := [.ref 0]) (by decide) 5 [some (.ref 0), none, none, none, none, none] rfl rfl key
  exact ⟨σ', h1, hS9⟩
end
