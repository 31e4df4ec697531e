/-! PUBLIC METHODS, first part: who wins -/
def gst (g : gm_T) : Nat := g.2.1 g.1
def gtn (g : gm_T) : Nat := g.1 % 2
def gen (g : gm_T) : Nat := g.2.2.2
def rw1 (a : Int) : Nat → Int := fun _ => a
def rw2 (a b : Int) : Nat → Int := fun i => if i = 0 then a else b
def rw3 (a b c : Int) : Nat → Int := fun i => if i = 0 then a else if i = 1 then b else c
def mvZ (P : pl_T) (o : Option Nat) : Int := match o with
  | none => -1
  | some j => pl_mo P j
theorem iZ_l {z : Int} (h1 : -2147483648 ≤ z) (h2 : z < 2147483648) : (iZ z).toInt64 = lZ z := by
  rw [← Int64.toInt_inj, Int32.toInt_toInt64, iZ, Int32.toInt_ofInt_of_le h1 h2, lZ, Int64.toInt_ofInt_of_le (by omega) (by omega)]
theorem i32c (c : Nat) (hc : c < 2147483648) (x : Int32) : (∃ k, k ≤ c ∧ x = nI k) ∨ (x < 0 ∨ nI c < x) := by
  by_cases h0 : x < 0
  · exact Or.inr (Or.inl h0)
  · by_cases h1 : nI c < x
    · exact Or.inr (Or.inr h1)
    · left
      rw [Int32.lt_iff_toInt_lt, Int32.toInt_zero] at h0
      rw [Int32.lt_iff_toInt_lt, nI_toInt (by omega)] at h1
      refine ⟨x.toInt.toNat, by omega, ?_⟩
      rw [← Int32.toInt_inj, nI_toInt (by omega)]
      omega
theorem nd_len : ∀ (n : Nat) (l : List Nat), l.Nodup → (∀ x, x ∈ l → x < n) → l.length ≤ n := by
  intro n
  induction n with
  | zero =>
    intro l _ h
    cases l with
    | nil => exact Nat.le_refl _
    | cons a l => exact absurd (h a (by simp)) (by omega)
  | succ n ih =>
    intro l nd h
    have i1 := ih (l.filter (fun x => decide (x ≠ n))) (nd.filter _) (fun x hx => by
      rw [List.mem_filter, decide_eq_true_eq] at hx
      have := h x hx.1
      omega)
    have i2 : ∀ l : List Nat, l.Nodup → l.length ≤ (l.filter (fun x => decide (x ≠ n))).length + 1 := by
      intro l
      induction l with
      | nil => intro _; simp
      | cons a l ihl =>
        intro nd
        rw [List.nodup_cons] at nd
        have := ihl nd.2
        by_cases c : a = n
        · subst c
          have e : l.filter (fun x => decide (x ≠ a)) = l := by
            rw [List.filter_eq_self]
            intro x hx
            rw [decide_eq_true_eq]
            intro q
            exact nd.1 (q ▸ hx)
          rw [List.filter_cons, e]
          simp
        · rw [List.filter_cons]
          simp [c]
          have := ihl nd.2
          simp at this
          omega
    have := i2 l nd
    omega
section
variable {v W S R : Nat} {r : Nat → Nat} {dy : List aa_Shp} {σ : aa_St} {P : pl_T} {tx : Nat → Nat} {n : Nat} {g : gm_T} {kp : Nat → Option gm_T} {lk tl : Nat} {rw : Nat → Int} {N : Nat}
theorem XIv.X (h : XIv P tx n g kp lk tl rw N v W S R r dy σ) : XP P (hsP P) σ.1 := h.2.2.1
theorem XIv.V (h : XIv P tx n g kp lk tl rw N v W S R r dy σ) : σ.1 7 15 = nI v := h.2.2.2.1
theorem XIv.ok (h : XIv P tx n g kp lk tl rw N v W S R r dy σ) : pl_ok P := h.2.2.1.1
theorem XIv.G (h : XIv P tx n g kp lk tl rw N v W S R r dy σ) : XG 20 g.1 g.2.1 g.2.2.2 σ.1 := h.2.2.2.2.2.1.2.1.1
theorem XIv.GV (h : XIv P tx n g kp lk tl rw N v W S R r dy σ) : GV P g := h.2.2.2.2.2.1.2.1.2
theorem XIv.st (h : XIv P tx n g kp lk tl rw N v W S R r dy σ) : gst g < 2 ^ (pl_n P + pl_b P) := h.GV.2.1 g.1
theorem XIv.e1 (h : XIv P tx n g kp lk tl rw N v W S R r dy σ) : gen g ≤ 1 := h.G.2.2.2.2.1
theorem XIv.M (h : XIv P tx n g kp lk tl rw N v W S R r dy σ) : XM P v W S R r σ := h.2.2.2.2.2.2.1
theorem XIv.p16 (h : XIv P tx n g kp lk tl rw N v W S R r dy σ) : 2 ^ (pl_n P + pl_b P) ≤ 65536 := pw16 (by have := h.X.n14; have := h.X.b2; omega)
theorem XIv.sg (h : XIv P tx n g kp lk tl rw N v W S R r dy σ) : ∀ s, s < 2 ^ (pl_n P + pl_b P) → vx P (hsP P) s = vl P s := fun _ hs => sg_hl h.ok hs
theorem XIv.to (h : XIv P tx n g kp lk tl rw N v W S R r dy σ) : XI P tx n g kp lk tl rw N r dy σ := ⟨v, W, S, R, h⟩
theorem c_tell (hW : aa_W r dy σ) (x : Int64) : aa_SX mX11_tell 1 [.ref 0, .long x] σ none (aa_sI (aa_sL σ 56 0 x) 0 13 (nI 1)) := by
  refine aa_E_of (by decide) 0 [some (.ref 0), some (.long (x)), none] rfl rfl ?_
  refine aa_go (aa_aload0 iX11_tell_0) (aa_go (aa_getR iX11_tell_1 fl_X11_89 (sh_0 hW) rfl) (aa_go (aa_iconst iX11_tell_4 ki_0) (aa_go (aa_lload1 iX11_tell_5) (aa_go (aa_lasN iX11_tell_6 (sh_56 hW) (by omega) (by omega)) (aa_go (aa_aload0 iX11_tell_7) (aa_go (aa_iconst iX11_tell_8 ki_1) (aa_go (aa_putI iX11_tell_9 fl_X11_93 (fun h => nomatch h) (sh_0 hW) rfl ⟨rfl, rfl⟩) ?_)))))))
  refine aa_vret iX11_tell_12 rfl ?_
  exact ⟨rfl, rfl⟩
theorem c_tell2 (hW : aa_W r dy σ) (x y : Int64) : aa_SX mX11_tell_ 1 [.ref 0, .long x, .long y] σ none (aa_sI (aa_sL (aa_sL σ 56 0 x) 56 1 y) 0 13 (nI 2)) := by
  refine aa_E_of (by decide) 0 [some (.ref 0), some (.long (x)), none, some (.long (y)), none] rfl rfl ?_
  refine aa_go (aa_aload0 iX11_tell__0) (aa_go (aa_getR iX11_tell__1 fl_X11_89 (sh_0 hW) rfl) (aa_go (aa_iconst iX11_tell__4 ki_0) (aa_go (aa_lload1 iX11_tell__5) (aa_go (aa_lasN iX11_tell__6 (sh_56 hW) (by omega) (by omega)) (aa_go (aa_aload0 iX11_tell__7) (aa_go (aa_getR iX11_tell__8 fl_X11_89 (sh_0 hW) rfl) (aa_go (aa_iconst iX11_tell__11 ki_1) ?_)))))))
  refine aa_go (aa_lload3 iX11_tell__12) (aa_go (aa_lasN iX11_tell__13 (sh_56 hW) (by omega) (by omega)) (aa_go (aa_aload0 iX11_tell__14) (aa_go (aa_iconst iX11_tell__15 ki_2) (aa_go (aa_putI iX11_tell__16 fl_X11_93 (fun h => nomatch h) (sh_0 hW) rfl ⟨rfl, rfl⟩) ?_))))
  refine aa_vret iX11_tell__19 rfl ?_
  exact ⟨rfl, rfl⟩
theorem XIv.tell (h : XIv P tx n g kp lk tl rw N v W S R r dy σ) (z : Int) : XIv P tx n g kp lk 1 (rw1 z) N v W S R r dy (aa_sI (aa_sL σ 56 0 (lZ z)) 0 13 (nI 1)) ∧ CF r σ r (aa_sI (aa_sL σ 56 0 (lZ z)) 0 13 (nI 1)) := by
  refine h.num ((FrN.rf.l _ _).s _ _) ⟨sI_eq, by omega, fun i hi => ?_⟩
  show (aa_sL σ 56 0 (lZ z)).2.1 56 i = _
  rw [sL_at, if_pos (by omega)]; rfl
theorem XIv.tell2 (h : XIv P tx n g kp lk tl rw N v W S R r dy σ) (a b : Int) : XIv P tx n g kp lk 2 (rw2 a b) N v W S R r dy (aa_sI (aa_sL (aa_sL σ 56 0 (lZ a)) 56 1 (lZ b)) 0 13 (nI 2)) ∧ CF r σ r (aa_sI (aa_sL (aa_sL σ 56 0 (lZ a)) 56 1 (lZ b)) 0 13 (nI 2)) := by
  refine h.num (((FrN.rf.l _ _).l _ _).s _ _) ⟨sI_eq, by omega, fun i hi => ?_⟩
  show (aa_sL (aa_sL σ 56 0 (lZ a)) 56 1 (lZ b)).2.1 56 i = _
  rw [sL_at, sL_at, rw2]
  rcases (show i = 0 ∨ i = 1 by omega) with rfl | rfl
  · rfl
  · rfl
theorem c_moveOfO (hW : aa_W r dy σ) (hX : XP P (hsP P) σ.1) {o : Option Nat} (ho : ∀ j, o = some j → j < pl_n P + pl_b P) : aa_SX mX6_moveOf 2 [.ref 7, .int (oI o)] σ (some (.int (iZ (mvZ P o)))) σ := by
  cases o with
  | none => exact c_X6_moveOfM hW hX
  | some j => exact c_X6_moveOf hW hX (ho j rfl)
theorem mvZ_bd (hX : XP P (hsP P) σ.1) {o : Option Nat} (ho : ∀ j, o = some j → j < pl_n P + pl_b P) : -1 ≤ mvZ P o ∧ mvZ P o < 28 := by
  have hn := hX.n14
  cases o with
  | none => exact ⟨by show (-1 : Int) ≤ -1; omega, by show (-1 : Int) < 28; omega⟩
  | some j =>
    have := ho j rfl
    show -1 ≤ (pl_mo P j : Int) ∧ (pl_mo P j : Int) < 28
    unfold pl_mo
    split
    · omega
    · have := hX.kn (k := j - pl_n P) (by omega)
      omega
theorem mlk_lt {h s k j : Nat} (hj : j ∈ mlk P h s k) : j < pl_n P + pl_b P := by
  rw [mlk, List.mem_filter] at hj
  exact pl_lg_lt hj.2
theorem pl_nmk_lt (hX : XP P (hsP P) σ.1) {s : Nat} (hs : s < 2147483648) : ∀ k, k ≤ pl_b P → pl_nmk P s k < 268435456 := by
  have hn := hX.n14
  have p14 := pw14 hn
  intro k
  induction k with
  | zero =>
    intro _
    rw [pl_nmk]
    have : s &&& (2 ^ pl_n P - 1) ≤ 2 ^ pl_n P - 1 := Nat.and_le_right
    omega
  | succ k ih =>
    intro hk
    have ih := ih (by omega)
    have kn := hX.kn (k := k) (by omega)
    rw [pl_nmk]
    exact bb_or (k := 28) ih (bb_shl1 (by omega))
theorem c_winner (h : XIv P tx n g kp lk tl rw N v W S R r dy σ) {a e : Nat} (ha : a ≤ 1) (he : e ≤ 1) : ∃ r' dy' σ', (XIv P tx n g kp lk tl rw N v W S R r' dy' σ' ∧ CF r σ r' σ') ∧ aa_SX mX11_winner 25 [.ref 0, .int (nI a), .int (nI e)] σ (some (.int (nI (if wi P e a (gst g) then a else 1 - a)))) σ' := by
  obtain ⟨r1, dy1, σ1, ⟨hM1, hR1⟩, hS1⟩ := c_X9_victory h.1 h.X h.V h.M.1 h.st ha he
  have h1 := h.M0 hM1 h.p16 (fun _ => hR1)
  refine ⟨r1, dy1, σ1, h1, ?_⟩
  refine aa_E_of (by decide) 0 [some (.ref 0), some (.int (nI a)), some (.int (nI e))] rfl rfl ?_
  refine aa_go (aa_aload0 iX11_winner_0) (aa_go (aa_getR iX11_winner_1 fl_X11_43 (sh_0 h.1) rfl) (aa_go (aa_aload0 iX11_winner_4) (aa_go (aa_getR iX11_winner_5 fl_X11_28 (sh_0 h.1) rfl) (aa_go (aa_cVi iX11_winner_8 (c_X2_state h.1 h.G) (by decide) lc_X2_state lk_X11_140 (sh_20 h.1) rfl rfl (Nat.le_of_ble_eq_true rfl)) (aa_go (aa_iload1 iX11_winner_11) (aa_go (aa_iload2 iX11_winner_12) (aa_go (aa_cVi iX11_winner_13 (hS1) (by decide) lc_X9_victory lk_X11_230 (sh_24 h.1) rfl rfl (Nat.le_of_ble_eq_true rfl)) ?_)))))))
  refine aa_if_eqB iX11_winner_16 (fun g1 => ?_) (fun g1 => ?_)
  · skip
    refine aa_go (aa_iconst iX11_winner_23 ki_1) (aa_go (aa_iload1 iX11_winner_24) (aa_go (aa_isubN iX11_winner_25 (by omega)) ?_))
    refine aa_iret iX11_winner_26 rfl ?_
    exact ⟨by rw [g1]; rfl, rfl⟩
  · skip
    refine aa_go (aa_iload1 iX11_winner_19) (aa_go (aa_goto iX11_winner_20) ?_)
    refine aa_iret iX11_winner_26 rfl ?_
    exact ⟨by rw [g1]; rfl, rfl⟩
theorem p_wins (h : XIv P tx n g kp lk tl rw N v W S R r dy σ) : ∃ r' dy' σ', (XI P tx n g kp lk 1 (rw1 (pl_nmk P (wsk P (gen g) (gtn g) (gst g) (pl_n P + pl_b P)) (pl_b P))) N r' dy' σ' ∧ CF r σ r' σ') ∧ aa_SX mX11_wins 100 [.ref 0] σ (some (.int (nI (if wi P (gen g) (gtn g) (gst g) then gtn g else 1 - gtn g)))) σ' := by
  have t1 : gtn g ≤ 1 := by unfold gtn; omega
  have p16 := h.p16
  have wl : wsk P (gen g) (gtn g) (gst g) (pl_n P + pl_b P) < 2147483648 := by
    have : ∀ k, k ≤ 16 → wsk P (gen g) (gtn g) (gst g) k < 2 ^ 16 := by
      intro k
      induction k with
      | zero => intro _; exact Nat.two_pow_pos 16
      | succ k ih =>
        intro hk
        have ih := ih (by omega)
        rw [wsk]
        split
        · exact bb_or ih (bb_p2 (by omega))
        · exact ih
    have := this (pl_n P + pl_b P) (by have := h.X.n14; have := h.X.b2; omega)
    omega
  obtain ⟨r1, dy1, σ1, ⟨hM1, hR1⟩, hS1⟩ := c_X9_winningSteps h.1 h.X h.V h.M.1 h.st t1 h.e1
  obtain ⟨h1, f1⟩ := h.M0 hM1 h.p16 hR1
  have nl := pl_nmk_lt h1.X wl (pl_b P) (Nat.le_refl _)
  obtain ⟨h2, f2⟩ := h1.tell (pl_nmk P (wsk P (gen g) (gtn g) (gst g) (pl_n P + pl_b P)) (pl_b P))
  obtain ⟨r3, dy3, σ3, ⟨h3, f3⟩, hS3⟩ := c_winner h2 t1 h.e1
  refine ⟨r3, dy3, σ3, ⟨h3.to, (f1.tr f2).tr f3⟩, ?_⟩
  refine aa_E_of (by decide) 1 [some (.ref 0), none] rfl rfl ?_
  refine aa_go (aa_aload0 iX11_wins_0) (aa_go (aa_getR iX11_wins_1 fl_X11_28 (sh_0 h.1) rfl) (aa_go (aa_cVi iX11_wins_4 (c_X2_turn h.1 h.G) (by decide) lc_X2_turn lk_X11_191 (sh_20 h.1) rfl rfl (Nat.le_of_ble_eq_true rfl)) (aa_go (aa_istore1 iX11_wins_7 rfl (by decide)) (aa_go (aa_aload0 iX11_wins_8) (aa_go (aa_aload0 iX11_wins_9) (aa_go (aa_getR iX11_wins_10 fl_X11_19 (sh_0 h.1) rfl) (aa_go (aa_aload0 iX11_wins_13) ?_)))))))
  refine aa_go (aa_getR iX11_wins_14 fl_X11_43 (sh_0 h.1) rfl) (aa_go (aa_aload0 iX11_wins_17) (aa_go (aa_getR iX11_wins_18 fl_X11_28 (sh_0 h.1) rfl) (aa_go (aa_cVi iX11_wins_21 (c_X2_state h.1 h.G) (by decide) lc_X2_state lk_X11_140 (sh_20 h.1) rfl rfl (Nat.le_of_ble_eq_true rfl)) (aa_go (aa_iload1 iX11_wins_24) (aa_go (aa_aload0 iX11_wins_25) (aa_go (aa_getR iX11_wins_26 fl_X11_28 (sh_0 h.1) rfl) (aa_go (aa_cVi iX11_wins_29 (c_X2_ending h.1 h.G) (by decide) lc_X2_ending lk_X11_144 (sh_20 h.1) rfl rfl (Nat.le_of_ble_eq_true rfl)) ?_)))))))
  refine aa_go (aa_cVi iX11_wins_32 (hS1) (by decide) lc_X9_winningSteps lk_X11_220 (sh_24 h.1) rfl rfl (Nat.le_of_ble_eq_true rfl)) ?_
  refine aa_go (aa_cVi iX11_wins_35 (c_X6_named h1.1 h1.X wl) (by decide) lc_X6_named lk_X11_185 (sh_7 h1.1) rfl rfl (Nat.le_of_ble_eq_true rfl)) (aa_go (aa_i2lN iX11_wins_38 (by omega)) (aa_go (aa_cVv iX11_wins_39 (c_tell h1.1 _) (by decide) lc_X11_tell lk_X11_224 (sh_0 h1.1) rfl rfl (Nat.le_of_ble_eq_true rfl)) ?_))
  refine aa_go (aa_aload0 iX11_wins_42) (aa_go (aa_iload1 iX11_wins_43) (aa_go (aa_aload0 iX11_wins_44) (aa_go (aa_getR iX11_wins_45 fl_X11_28 (sh_0 h2.1) rfl) (aa_go (aa_cVi iX11_wins_48 (c_X2_ending h2.1 h2.G) (by decide) lc_X2_ending lk_X11_144 (sh_20 h2.1) rfl rfl (Nat.le_of_ble_eq_true rfl)) (aa_go (aa_cVi iX11_wins_51 (hS3) (by decide) lc_X11_winner lk_X11_227 (sh_0 h2.1) rfl rfl (Nat.le_of_ble_eq_true rfl)) ?_)))))
  refine aa_iret iX11_wins_54 rfl ?_
  exact ⟨rfl, rfl⟩
theorem p_would (h : XIv P tx n g kp lk tl rw N v W S R r dy σ) {a e : Nat} (ha : a ≤ 1) (he : e ≤ 1) : ∃ r' dy' σ', (XI P tx n g kp lk tl rw N r' dy' σ' ∧ CF r σ r' σ') ∧ aa_SX mX11_would 100 [.ref 0, .int (nI a), .int (nI e)] σ (some (.int (nI (if wi P e a (gst g) then a else 1 - a)))) σ' := by
  obtain ⟨r3, dy3, σ3, ⟨h3, f3⟩, hS3⟩ := c_winner h ha he
  refine ⟨r3, dy3, σ3, ⟨h3.to, f3⟩, ?_⟩
  refine aa_E_of (by decide) 0 [some (.ref 0), some (.int (nI a)), some (.int (nI e))] rfl rfl ?_
  refine aa_go (aa_iload1 iX11_would_0) ?_
  refine aa_go (aa_if_ltN iX11_would_1 (by omega)) ?_
  refine aa_go (aa_iload1 iX11_would_4) (aa_go (aa_iconst iX11_would_5 ki_1) ?_)
  refine aa_ic_gtN iX11_would_6 (by omega) (by omega) (fun g1 => ?_) (fun g1 => ?_)
  · skip
    omega
  · skip
    refine aa_go (aa_iload2 iX11_would_9) ?_
    refine aa_go (aa_if_ltN iX11_would_10 (by omega)) ?_
    refine aa_go (aa_iload2 iX11_would_13) (aa_go (aa_iconst iX11_would_14 ki_1) ?_)
    refine aa_ic_leN iX11_would_15 (by omega) (by omega) (fun g2 => ?_) (fun g2 => ?_)
    · skip
      refine aa_go (aa_aload0 iX11_would_20) (aa_go (aa_iload1 iX11_would_21) (aa_go (aa_iload2 iX11_would_22) (aa_go (aa_cVi iX11_would_23 (hS3) (by decide) lc_X11_winner lk_X11_227 (sh_0 h.1) rfl rfl (Nat.le_of_ble_eq_true rfl)) ?_)))
      refine aa_iret iX11_would_26 rfl ?_
      exact ⟨rfl, rfl⟩
    · skip
      omega
theorem p_wouldB (hW : aa_W r dy σ) {a e : Int32} (h : (a < 0 ∨ nI 1 < a) ∨ (e < 0 ∨ nI 1 < e)) : aa_SX mX11_would 100 [.ref 0, .int a, .int e] σ (some (.int (-1))) σ := by
  refine aa_E_of (by decide) 0 [some (.ref 0), some (.int (a)), some (.int (e))] rfl rfl ?_
  refine aa_go (aa_iload1 iX11_would_0) ?_
  refine aa_if_lt iX11_would_1 (fun g1 => ?_) (fun g1 => ?_)
  · skip
    refine aa_go (aa_iconst iX11_would_18 ki_m1) ?_
    refine aa_iret iX11_would_19 rfl ?_
    exact ⟨rfl, rfl⟩
  · skip
    refine aa_go (aa_iload1 iX11_would_4) (aa_go (aa_iconst iX11_would_5 ki_1) ?_)
    refine aa_ic_gt iX11_would_6 (fun g2 => ?_) (fun g2 => ?_)
    · skip
      refine aa_go (aa_iconst iX11_would_18 ki_m1) ?_
      refine aa_iret iX11_would_19 rfl ?_
      exact ⟨rfl, rfl⟩
    · skip
      refine aa_go (aa_iload2 iX11_would_9) ?_
      refine aa_if_lt iX11_would_10 (fun g3 => ?_) (fun g3 => ?_)
      · skip
        refine aa_go (aa_iconst iX11_would_18 ki_m1) ?_
        refine aa_iret iX11_would_19 rfl ?_
        exact ⟨rfl, rfl⟩
      · skip
        refine aa_go (aa_iload2 iX11_would_13) (aa_go (aa_iconst iX11_would_14 ki_1) ?_)
        refine aa_ic_le iX11_would_15 (fun g4 => ?_) (fun g4 => ?_)
        · skip
          rcases h with (h | h) | (h | h)
          · exact absurd h g1
          · exact absurd h g2
          · exact absurd h g3
          · exact absurd h (Int32.not_lt.mpr g4)
        · skip
          refine aa_go (aa_iconst iX11_would_18 ki_m1) ?_
          refine aa_iret iX11_would_19 rfl ?_
          exact ⟨rfl, rfl⟩
theorem p_soon (h : XIv P tx n g kp lk tl rw N v W S R r dy σ) : ∃ r' dy' σ', (XI P tx n g kp lk 1 (rw1 (mvZ P (fsk P (gen g) (gtn g) (gst g) (pl_n P + pl_b P)))) N r' dy' σ' ∧ CF r σ r' σ') ∧ aa_SX mX11_soon 100 [.ref 0] σ (some (.int (nI (so P (gen g) (gtn g) (gst g))))) σ' := by
  have t1 : gtn g ≤ 1 := by unfold gtn; omega
  have ho : ∀ j, fsk P (gen g) (gtn g) (gst g) (pl_n P + pl_b P) = some j → j < pl_n P + pl_b P := fun j hj => mlk_lt (List.mem_of_find?_eq_some hj)
  obtain ⟨r1, dy1, σ1, ⟨hM1, hR1⟩, hS1⟩ := c_X9_firstSoonest h.1 h.X h.V h.M.1 h.st t1 h.e1
  obtain ⟨h1, f1⟩ := h.M0 hM1 h.p16 hR1
  have mb := mvZ_bd h1.X ho
  obtain ⟨h2, f2⟩ := h1.tell (mvZ P (fsk P (gen g) (gtn g) (gst g) (pl_n P + pl_b P)))
  obtain ⟨r3, dy3, σ3, ⟨hM3, hR3⟩, hS3⟩ := c_X9_soonest h2.1 h2.X h2.V h2.M.1 h2.st t1 h2.e1
  obtain ⟨h3, f3⟩ := h2.M0 hM3 h2.p16 (fun _ => hR3)
  refine ⟨r3, dy3, σ3, ⟨h3.to, (f1.tr f2).tr f3⟩, ?_⟩
  refine aa_E_of (by decide) 0 [some (.ref 0)] rfl rfl ?_
  refine aa_go (aa_aload0 iX11_soon_0) (aa_go (aa_aload0 iX11_soon_1) (aa_go (aa_getR iX11_soon_2 fl_X11_19 (sh_0 h.1) rfl) (aa_go (aa_aload0 iX11_soon_5) (aa_go (aa_getR iX11_soon_6 fl_X11_43 (sh_0 h.1) rfl) (aa_go (aa_aload0 iX11_soon_9) (aa_go (aa_getR iX11_soon_10 fl_X11_28 (sh_0 h.1) rfl) (aa_go (aa_cVi iX11_soon_13 (c_X2_state h.1 h.G) (by decide) lc_X2_state lk_X11_140 (sh_20 h.1) rfl rfl (Nat.le_of_ble_eq_true rfl)) ?_)))))))
  refine aa_go (aa_aload0 iX11_soon_16) (aa_go (aa_getR iX11_soon_17 fl_X11_28 (sh_0 h.1) rfl) (aa_go (aa_cVi iX11_soon_20 (c_X2_turn h.1 h.G) (by decide) lc_X2_turn lk_X11_191 (sh_20 h.1) rfl rfl (Nat.le_of_ble_eq_true rfl)) (aa_go (aa_aload0 iX11_soon_23) (aa_go (aa_getR iX11_soon_24 fl_X11_28 (sh_0 h.1) rfl) (aa_go (aa_cVi iX11_soon_27 (c_X2_ending h.1 h.G) (by decide) lc_X2_ending lk_X11_144 (sh_20 h.1) rfl rfl (Nat.le_of_ble_eq_true rfl)) (aa_go (aa_cVi iX11_soon_30 (hS1) (by decide) lc_X9_firstSoonest lk_X11_233 (sh_24 h.1) rfl rfl (Nat.le_of_ble_eq_true rfl)) ?_))))))
  refine aa_go (aa_cVi iX11_soon_33 (c_moveOfO h1.1 h1.X ho) (by decide) lc_X6_moveOf lk_X11_236 (sh_7 h1.1) rfl rfl (Nat.le_of_ble_eq_true rfl)) (aa_go (aa_i2l iX11_soon_36) ?_)
  refine aa_go (aa_topl (y := lZ (mvZ P (fsk P (gen g) (gtn g) (gst g) (pl_n P + pl_b P)))) (iZ_l (by omega) (by omega))) ?_
  refine aa_go (aa_cVv iX11_soon_37 (c_tell h1.1 _) (by decide) lc_X11_tell lk_X11_224 (sh_0 h1.1) rfl rfl (Nat.le_of_ble_eq_true rfl)) ?_
  refine aa_go (aa_aload0 iX11_soon_40) (aa_go (aa_getR iX11_soon_41 fl_X11_43 (sh_0 h2.1) rfl) (aa_go (aa_aload0 iX11_soon_44) (aa_go (aa_getR iX11_soon_45 fl_X11_28 (sh_0 h2.1) rfl) (aa_go (aa_cVi iX11_soon_48 (c_X2_state h2.1 h2.G) (by decide) lc_X2_state lk_X11_140 (sh_20 h2.1) rfl rfl (Nat.le_of_ble_eq_true rfl)) (aa_go (aa_aload0 iX11_soon_51) (aa_go (aa_getR iX11_soon_52 fl_X11_28 (sh_0 h2.1) rfl) (aa_go (aa_cVi iX11_soon_55 (c_X2_turn h2.1 h2.G) (by decide) lc_X2_turn lk_X11_191 (sh_20 h2.1) rfl rfl (Nat.le_of_ble_eq_true rfl)) ?_)))))))
  refine aa_go (aa_aload0 iX11_soon_58) (aa_go (aa_getR iX11_soon_59 fl_X11_28 (sh_0 h2.1) rfl) (aa_go (aa_cVi iX11_soon_62 (c_X2_ending h2.1 h2.G) (by decide) lc_X2_ending lk_X11_144 (sh_20 h2.1) rfl rfl (Nat.le_of_ble_eq_true rfl)) (aa_go (aa_cVi iX11_soon_65 (hS3) (by decide) lc_X9_soonest lk_X11_239 (sh_24 h2.1) rfl rfl (Nat.le_of_ble_eq_true rfl)) ?_)))
  refine aa_iret iX11_soon_68 rfl ?_
  exact ⟨rfl, rfl⟩
def lvO (P : pl_T) (g : gm_T) : Bool := wi P (gen g) (gtn g) (gst g)
def lvL (P : pl_T) (g : gm_T) : Bool := !wi P (gen g) (1 - gtn g) (gst g)
theorem p_leave (h : XIv P tx n g kp lk tl rw N v W S R r dy σ) : ∃ r' dy' σ', (XI P tx n g kp lk 1 (rw1 (if !lvO P g && lvL P g then 1 else 0)) N r' dy' σ' ∧ CF r σ r' σ') ∧ aa_SX mX11_leave 100 [.ref 0] σ (some (.int (nI (if lvO P g || lvL P g then gtn g else 1 - gtn g)))) σ' := by
  have t1 : gtn g ≤ 1 := by unfold gtn; omega
  obtain ⟨r1, dy1, σ1, ⟨h1, f1⟩, hS1⟩ := c_winner h t1 h.e1
  obtain ⟨r2, dy2, σ2, ⟨h2, f2⟩, hS2⟩ := c_winner h1 (a := 1 - gtn g) (by omega) h.e1
  have key : aa_V mX11_leave 100 0 [some (.ref 0), none, none, none] [] σ (fun ra σ' => ra = some (.int (nI (if lvO P g || lvL P g then gtn g else 1 - gtn g))) ∧ XI P tx n g kp lk 1 (rw1 (if !lvO P g && lvL P g then 1 else 0)) N r2 dy2 σ' ∧ CF r σ r2 σ') := by
    have fin : ∀ a b : Bool, a = lvO P g → b = lvL P g → aa_V mX11_leave 100 53 [some (.ref 0), some (.int (nI (gtn g))), some (.int (nI a.toNat)), none] [.int (nI b.toNat)] σ2 (fun ra σ' => ra = some (.int (nI (if lvO P g || lvL P g then gtn g else 1 - gtn g))) ∧ XI P tx n g kp lk 1 (rw1 (if !lvO P g && lvL P g then 1 else 0)) N r2 dy2 σ' ∧ CF r σ r2 σ') := by
      intro a b ha hb
      obtain ⟨h3, f3⟩ := h2.tell (if !lvO P g && lvL P g then 1 else 0)
      rw [← ha, ← hb] at h3 ⊢
      have ff := (f1.tr f2).tr f3
      rw [← ha, ← hb] at ff
      refine aa_go (aa_istore3 iX11_leave_53 rfl (by decide)) (aa_go (aa_aload0 iX11_leave_54) (aa_go (aa_iload2 iX11_leave_55) ?_))
      cases a with
      | true =>
        refine aa_if_neB iX11_leave_56 (fun g1 => ?_) (fun g1 => ?_)
        · skip
          refine aa_go (aa_lconst iX11_leave_67 kl_0) ?_
          refine aa_go (aa_cVv iX11_leave_68 (c_tell h2.1 _) (by decide) lc_X11_tell lk_X11_224 (sh_0 h2.1) rfl rfl (Nat.le_of_ble_eq_true rfl)) (aa_go (aa_iload2 iX11_leave_71) ?_)
          refine aa_if_neB iX11_leave_72 (fun g2 => ?_) (fun g2 => ?_)
          · skip
            refine aa_go (aa_iload1 iX11_leave_79) (aa_go (aa_goto iX11_leave_80) ?_)
            refine aa_iret iX11_leave_86 rfl ?_
            exact ⟨by cases b <;> rfl, h3.to, ff⟩
          · skip
            exact absurd g2 (by decide)
        · skip
          exact absurd g1 (by decide)
      | false =>
        refine aa_if_neB iX11_leave_56 (fun g1 => ?_) (fun g1 => ?_)
        · skip
          exact absurd g1 (by decide)
        · skip
          refine aa_go (aa_iload3 iX11_leave_59) ?_
          cases b with
          | true =>
            refine aa_if_eqB iX11_leave_60 (fun g3 => ?_) (fun g3 => ?_)
            · skip
              exact absurd g3 (by decide)
            · skip
              refine aa_go (aa_lconst iX11_leave_63 kl_1) (aa_go (aa_goto iX11_leave_64) ?_)
              refine aa_go (aa_cVv iX11_leave_68 (c_tell h2.1 _) (by decide) lc_X11_tell lk_X11_224 (sh_0 h2.1) rfl rfl (Nat.le_of_ble_eq_true rfl)) (aa_go (aa_iload2 iX11_leave_71) ?_)
              refine aa_if_neB iX11_leave_72 (fun g2 => ?_) (fun g2 => ?_)
              · skip
                exact absurd g2 (by decide)
              · skip
                refine aa_go (aa_iload3 iX11_leave_75) ?_
                refine aa_if_eqB iX11_leave_76 (fun g4 => ?_) (fun g4 => ?_)
                · skip
                  exact absurd g4 (by decide)
                · skip
                  refine aa_go (aa_iload1 iX11_leave_79) (aa_go (aa_goto iX11_leave_80) ?_)
                  refine aa_iret iX11_leave_86 rfl ?_
                  exact ⟨rfl, h3.to, ff⟩
          | false =>
            refine aa_if_eqB iX11_leave_60 (fun g3 => ?_) (fun g3 => ?_)
            · skip
              refine aa_go (aa_lconst iX11_leave_67 kl_0) ?_
              refine aa_go (aa_cVv iX11_leave_68 (c_tell h2.1 _) (by decide) lc_X11_tell lk_X11_224 (sh_0 h2.1) rfl rfl (Nat.le_of_ble_eq_true rfl)) (aa_go (aa_iload2 iX11_leave_71) ?_)
              refine aa_if_neB iX11_leave_72 (fun g2 => ?_) (fun g2 => ?_)
              · skip
                exact absurd g2 (by decide)
              · skip
                refine aa_go (aa_iload3 iX11_leave_75) ?_
                refine aa_if_eqB iX11_leave_76 (fun g4 => ?_) (fun g4 => ?_)
                · skip
                  refine aa_go (aa_iconst iX11_leave_83 ki_1) (aa_go (aa_iload1 iX11_leave_84) (aa_go (aa_isubN iX11_leave_85 (by omega)) ?_))
                  refine aa_iret iX11_leave_86 rfl ?_
                  exact ⟨rfl, h3.to, ff⟩
                · skip
                  exact absurd g4 (by decide)
            · skip
              exact absurd g3 (by decide)
    have mid : ∀ a : Bool, a = lvO P g → aa_V mX11_leave 100 29 [some (.ref 0), some (.int (nI (gtn g))), none, none] [.int (nI a.toNat)] σ1 (fun ra σ' => ra = some (.int (nI (if lvO P g || lvL P g then gtn g else 1 - gtn g))) ∧ XI P tx n g kp lk 1 (rw1 (if !lvO P g && lvL P g then 1 else 0)) N r2 dy2 σ' ∧ CF r σ r2 σ') := by
      intro a ha
      have wc : (if wi P (gen g) (1 - gtn g) (gst g) then 1 - gtn g else 1 - (1 - gtn g)) ≤ 1 := by split <;> omega
      refine aa_go (aa_istore2 iX11_leave_29 rfl (by decide)) (aa_go (aa_aload0 iX11_leave_30) (aa_go (aa_iconst iX11_leave_31 ki_1) (aa_go (aa_iload1 iX11_leave_32) (aa_go (aa_isubN iX11_leave_33 (by omega)) (aa_go (aa_aload0 iX11_leave_34) (aa_go (aa_getR iX11_leave_35 fl_X11_28 (sh_0 h1.1) rfl) (aa_go (aa_cVi iX11_leave_38 (c_X2_ending h1.1 h1.G) (by decide) lc_X2_ending lk_X11_144 (sh_20 h1.1) rfl rfl (Nat.le_of_ble_eq_true rfl)) ?_)))))))
      refine aa_go (aa_cVi iX11_leave_41 (hS2) (by decide) lc_X11_winner lk_X11_227 (sh_0 h1.1) rfl rfl (Nat.le_of_ble_eq_true rfl)) (aa_go (aa_iload1 iX11_leave_44) ?_)
      refine aa_ic_neN iX11_leave_45 (by omega) (by omega) (fun g1 => ?_) (fun g1 => ?_)
      · skip
        refine aa_go (aa_iconst iX11_leave_52 ki_0) ?_
        refine fin a false ha ?_
        rw [lvL]
        cases q : wi P (gen g) (1 - gtn g) (gst g) with
        | true => rfl
        | false => rw [q] at g1; exact absurd (by simp; omega) g1
      · skip
        refine aa_go (aa_iconst iX11_leave_48 ki_1) (aa_go (aa_goto iX11_leave_49) ?_)
        refine fin a true ha ?_
        rw [lvL]
        cases q : wi P (gen g) (1 - gtn g) (gst g) with
        | false => rfl
        | true => rw [q] at g1; simp at g1; omega
    have wc : (if wi P (gen g) (gtn g) (gst g) then gtn g else 1 - gtn g) ≤ 1 := by split <;> omega
    show aa_V mX11_leave 100 0 [some (.ref 0), none, none, none] [] σ _
    refine aa_go (aa_aload0 iX11_leave_0) (aa_go (aa_getR iX11_leave_1 fl_X11_28 (sh_0 h.1) rfl) (aa_go (aa_cVi iX11_leave_4 (c_X2_turn h.1 h.G) (by decide) lc_X2_turn lk_X11_191 (sh_20 h.1) rfl rfl (Nat.le_of_ble_eq_true rfl)) ?_))
    show aa_V mX11_leave 100 7 [some (.ref 0), none, none, none] [.int (nI (gtn g))] σ _
    refine aa_go (aa_istore1 iX11_leave_7 rfl (by decide)) (aa_go (aa_aload0 iX11_leave_8) (aa_go (aa_iload1 iX11_leave_9) (aa_go (aa_aload0 iX11_leave_10) (aa_go (aa_getR iX11_leave_11 fl_X11_28 (sh_0 h.1) rfl) (aa_go (aa_cVi iX11_leave_14 (c_X2_ending h.1 h.G) (by decide) lc_X2_ending lk_X11_144 (sh_20 h.1) rfl rfl (Nat.le_of_ble_eq_true rfl)) (aa_go (aa_cVi iX11_leave_17 (hS1) (by decide) lc_X11_winner lk_X11_227 (sh_0 h.1) rfl rfl (Nat.le_of_ble_eq_true rfl)) (aa_go (aa_iload1 iX11_leave_20) ?_)))))))
    refine aa_ic_neN iX11_leave_21 (by omega) (by omega) (fun g1 => ?_) (fun g1 => ?_)
    · skip
      refine aa_go (aa_iconst iX11_leave_28 ki_0) ?_
      refine mid false ?_
      rw [lvO]
      cases q : wi P (gen g) (gtn g) (gst g) with
      | false => rfl
      | true => rw [q] at g1; exact absurd rfl g1
    · skip
      refine aa_go (aa_iconst iX11_leave_24 ki_1) (aa_go (aa_goto iX11_leave_25) ?_)
      refine mid true ?_
      rw [lvO]
      cases q : wi P (gen g) (gtn g) (gst g) with
      | true => rfl
      | false => rw [q] at g1; simp at g1; omega
  obtain ⟨ra, σ', ⟨rfl, h1⟩, hS9⟩ := aa_S_of (avs := [.ref 0]) (by decide) 3 [some (.ref 0), none, none, none] rfl rfl key
  exact ⟨r2, dy2, σ', h1, hS9⟩
theorem p_states (h : XIv P tx n g kp lk tl rw N v W S R r dy σ) (hN : N < 1000000) : ∃ (L : List (Nat × Nat)) (r' : Nat → Nat) (dy' : List aa_Shp) (σ' : aa_St), ((L.Nodup ∧ ∀ y, y ∈ L ↔ rc P (gst g, gtn g) y) ∧ XI P tx n g kp lk 1 (rw1 (lo P (gen g) L)) (N + 1) r' dy' σ' ∧ CF r σ r' σ') ∧ aa_SX mX11_states 100 [.ref 0] σ (some (.int (nI L.length))) σ' := by
  have t1 : gtn g ≤ 1 := by unfold gtn; omega
  have wN := h.2.2.2.2.2.2.2.2.1
  obtain ⟨L, r1, dy1, σ1, ⟨hG1, hR0, hR1, hw1, hl1, hnd, hmem⟩, hS1⟩ := c_X9_reach h.1 h.2.1.1 (h.2.1.2.1 0 1 (by decide) (by decide) (by decide)) h.X h.V h.M.1 h.M.2.1 h.M.2.2.2.2.2.2.2.1 (by omega) h.st t1 h.e1
  obtain ⟨h1, f1⟩ := h.M01 hG1 hR0 hR1 hw1
  obtain ⟨h2, f2⟩ := h1.tell (lo P (gen g) L)
  have p16 := h.p16
  have lol : lo P (gen g) L ≤ L.length := List.length_filter_le _ _
  have ll : L.length ≤ 131072 := by
    have hb : ∀ y, y ∈ L → y.1 < 2 ^ (pl_n P + pl_b P) ∧ y.2 ≤ 1 := fun y hy =>
      (hmem y).mp hy (fun z => z.1 < 2 ^ (pl_n P + pl_b P) ∧ z.2 ≤ 1) ⟨h.st, t1⟩ (fun z hz j hj => ⟨pl_nx_lt h.ok hz.1 (pl_lg_lt hj), by show 1 - z.2 ≤ 1; omega⟩)
    have nd : (L.map (fun y => 2 * y.1 + y.2)).Nodup := by
      refine List.pairwise_map.mpr (List.Pairwise.imp_of_mem (fun {a b} ha hb' hab => ?_) hnd)
      have h1 := hb a ha
      have h2 := hb b hb'
      intro q
      exact hab (Prod.ext (by omega) (by omega))
    have := nd_len 131072 _ nd (fun x hx => by
      rw [List.mem_map] at hx
      obtain ⟨y, hy, rfl⟩ := hx
      have := hb y hy
      omega)
    rw [List.length_map] at this
    exact this
  refine ⟨L, r1, dy1, _, ⟨⟨hnd, hmem⟩, h2.to, f1.tr f2⟩, ?_⟩
  refine aa_E_of (by decide) 1 [some (.ref 0), none] rfl rfl ?_
  refine aa_go (aa_aload0 iX11_states_0) (aa_go (aa_getR iX11_states_1 fl_X11_43 (sh_0 h.1) rfl) (aa_go (aa_aload0 iX11_states_4) (aa_go (aa_getR iX11_states_5 fl_X11_28 (sh_0 h.1) rfl) (aa_go (aa_cVi iX11_states_8 (c_X2_state h.1 h.G) (by decide) lc_X2_state lk_X11_140 (sh_20 h.1) rfl rfl (Nat.le_of_ble_eq_true rfl)) (aa_go (aa_aload0 iX11_states_11) (aa_go (aa_getR iX11_states_12 fl_X11_28 (sh_0 h.1) rfl) (aa_go (aa_cVi iX11_states_15 (c_X2_turn h.1 h.G) (by decide) lc_X2_turn lk_X11_191 (sh_20 h.1) rfl rfl (Nat.le_of_ble_eq_true rfl)) ?_)))))))
  refine aa_go (aa_aload0 iX11_states_18) (aa_go (aa_getR iX11_states_19 fl_X11_28 (sh_0 h.1) rfl) (aa_go (aa_cVi iX11_states_22 (c_X2_ending h.1 h.G) (by decide) lc_X2_ending lk_X11_144 (sh_20 h.1) rfl rfl (Nat.le_of_ble_eq_true rfl)) (aa_go (aa_cVi iX11_states_25 (hS1) (by decide) lc_X9_reach lk_X11_242 (sh_24 h.1) rfl rfl (Nat.le_of_ble_eq_true rfl)) ?_)))
  refine aa_go (aa_istore1 iX11_states_28 rfl (by decide)) (aa_go (aa_aload0 iX11_states_29) (aa_go (aa_aload0 iX11_states_30) (aa_go (aa_getR iX11_states_31 fl_X11_43 (sh_0 h1.1) rfl) (aa_go (aa_cVi iX11_states_34 (c_X9_lostReached h1.1 hl1) (by decide) lc_X9_lostReached lk_X11_245 (sh_24 h1.1) rfl rfl (Nat.le_of_ble_eq_true rfl)) (aa_go (aa_i2lN iX11_states_37 (by omega)) (aa_go (aa_cVv iX11_states_38 (c_tell h1.1 _) (by decide) lc_X11_tell lk_X11_224 (sh_0 h1.1) rfl rfl (Nat.le_of_ble_eq_true rfl)) (aa_go (aa_iload1 iX11_states_41) ?_)))))))
  refine aa_iret iX11_states_42 rfl ?_
  exact ⟨rfl, rfl⟩
theorem p_lines (h : XIv P tx n g kp lk tl rw N v W S R r dy σ) {k : Nat} (hk : k ≤ 5) : aa_SX mX11_lines 100 [.ref 0, .int (nI k)] σ (some (.long (lN (gm P k (gtn g) (gst g))))) σ := by
  have t1 : gtn g ≤ 1 := by unfold gtn; omega
  refine aa_E_of (by decide) 0 [some (.ref 0), some (.int (nI k))] rfl rfl ?_
  refine aa_go (aa_aload0 iX11_lines_0) (aa_go (aa_getR iX11_lines_1 fl_X11_43 (sh_0 h.1) rfl) (aa_go (aa_aload0 iX11_lines_4) (aa_go (aa_getR iX11_lines_5 fl_X11_28 (sh_0 h.1) rfl) (aa_go (aa_cVi iX11_lines_8 (c_X2_state h.1 h.G) (by decide) lc_X2_state lk_X11_140 (sh_20 h.1) rfl rfl (Nat.le_of_ble_eq_true rfl)) (aa_go (aa_aload0 iX11_lines_11) (aa_go (aa_getR iX11_lines_12 fl_X11_28 (sh_0 h.1) rfl) (aa_go (aa_cVi iX11_lines_15 (c_X2_turn h.1 h.G) (by decide) lc_X2_turn lk_X11_191 (sh_20 h.1) rfl rfl (Nat.le_of_ble_eq_true rfl)) ?_)))))))
  refine aa_go (aa_iload1 iX11_lines_18) (aa_go (aa_cVl iX11_lines_19 (c_X9_games h.1 h.X hk t1 h.st) (by decide) lc_X9_games lk_X11_248 (sh_24 h.1) rfl rfl (Nat.le_of_ble_eq_true rfl)) ?_)
  refine aa_lret iX11_lines_22 rfl ?_
  exact ⟨rfl, rfl⟩
theorem p_linesB (h : XIv P tx n g kp lk tl rw N v W S R r dy σ) {x : Int32} (hx : x < 0 ∨ nI 5 < x) : aa_SX mX11_lines 100 [.ref 0, .int x] σ (some (.long (-1))) σ := by
  refine aa_E_of (by decide) 0 [some (.ref 0), some (.int (x))] rfl rfl ?_
  refine aa_go (aa_aload0 iX11_lines_0) (aa_go (aa_getR iX11_lines_1 fl_X11_43 (sh_0 h.1) rfl) (aa_go (aa_aload0 iX11_lines_4) (aa_go (aa_getR iX11_lines_5 fl_X11_28 (sh_0 h.1) rfl) (aa_go (aa_cVi iX11_lines_8 (c_X2_state h.1 h.G) (by decide) lc_X2_state lk_X11_140 (sh_20 h.1) rfl rfl (Nat.le_of_ble_eq_true rfl)) (aa_go (aa_aload0 iX11_lines_11) (aa_go (aa_getR iX11_lines_12 fl_X11_28 (sh_0 h.1) rfl) (aa_go (aa_cVi iX11_lines_15 (c_X2_turn h.1 h.G) (by decide) lc_X2_turn lk_X11_191 (sh_20 h.1) rfl rfl (Nat.le_of_ble_eq_true rfl)) ?_)))))))
  refine aa_go (aa_iload1 iX11_lines_18) (aa_go (aa_cVl iX11_lines_19 (c_X9_gamesB h.1 hx) (by decide) lc_X9_games lk_X11_248 (sh_24 h.1) rfl rfl (Nat.le_of_ble_eq_true rfl)) ?_)
  refine aa_lret iX11_lines_22 rfl ?_
  exact ⟨rfl, rfl⟩
end
