/-! THE TEXT: its signs; reading; laying on the pile -/
def TC (tx : Nat → Nat) (n : Nat) (i : Nat → Nat → Int32) : Prop := i 1 1 = nI n ∧ n ≤ 80 ∧ ∀ p, p < n → i 2 p = nI (tx p) ∧ tx p < 256
def txA (tx : Nat → Nat) (n a : Nat) : Nat → Nat := fun p => if n ≤ p then a >>> (24 - 8 * (p - n)) &&& 255 else tx p
def dN (p : Nat) : Int32 := -1 - nI p
def tm0 : tm_D := fun _ => (0, 0, 0, false)
def tR (P : pl_T) (tx : Nat → Nat) (n p : Nat) : Option tm_T := tmR (pl_n P) (pl_b P) tm0 tx (min n 76) p
/-- what reading the text gives -/
def RD (P : pl_T) (tx : Nat → Nat) (n : Nat) (ra : Int32) (o : Option tm_T) : Prop :=
  (∃ p, p < min n 76 ∧ tR P tx n p ≠ none ∧ tR P tx n (p + 1) = none ∧ ra = dN p ∧ o = none) ∨
  (∃ m, tR P tx n (min n 76) = some m ∧ ((76 < n ∧ ra = -77 ∧ o = none) ∨ (n ≤ 76 ∧ (n = 0 ∨ mayE m.1 = true) ∧ ra = nI m.2.1 ∧ o = some m) ∨ (n ≤ 76 ∧ n ≠ 0 ∧ mayE m.1 = false ∧ ra = dN n ∧ o = none)))
theorem tR_none {P : pl_T} {tx : Nat → Nat} {n p : Nat} (h : tR P tx n p = none) : ∀ d, tR P tx n (p + d) = none
  | 0 => h
  | d + 1 => by
    have ih := tR_none h d
    rw [tR] at ih ⊢
    rw [show p + (d + 1) = p + d + 1 by omega, tmR, ih]; rfl
theorem RD_fun {P : pl_T} {tx : Nat → Nat} {n : Nat} {ra ra' : Int32} {o o' : Option tm_T} (h : RD P tx n ra o) (h' : RD P tx n ra' o') : ra = ra' ∧ o = o' := by
  have hf : ∀ p q, tR P tx n p ≠ none → tR P tx n (q + 1) = none → p ≤ q := by
    intro p q h1 h2
    apply Classical.byContradiction
    intro c
    have := tR_none h2 (p - (q + 1))
    rw [show q + 1 + (p - (q + 1)) = p by omega] at this
    exact h1 this
  rcases h with ⟨p, h1, h2, h3, h4, h5⟩ | ⟨m, h1, h2⟩
  · rcases h' with ⟨p', g1, g2, g3, g4, g5⟩ | ⟨m', g1, g2⟩
    · have e1 := hf p p' h2 g3
      have e2 := hf p' p g2 h3
      have e : p = p' := by omega
      rw [h4, g4, h5, g5, e]; exact ⟨rfl, rfl⟩
    · have := hf (min n 76) p (by rw [g1]; simp) h3
      omega
  · rcases h' with ⟨p', g1, g2, g3, g4, g5⟩ | ⟨m', g1, g2⟩
    · have := hf (min n 76) p' (by rw [h1]; simp) g3
      omega
    · rw [h1] at g1
      cases g1
      rcases h2 with ⟨a1, a2, a3⟩ | ⟨a1, a2, a3, a4⟩ | ⟨a1, a2, a3, a4, a5⟩
      · rcases g2 with ⟨b1, b2, b3⟩ | ⟨b1, b2, b3, b4⟩ | ⟨b1, b2, b3, b4, b5⟩
        · rw [a2, b2, a3, b3]; exact ⟨rfl, rfl⟩
        · omega
        · omega
      · rcases g2 with ⟨b1, b2, b3⟩ | ⟨b1, b2, b3, b4⟩ | ⟨b1, b2, b3, b4, b5⟩
        · omega
        · rw [a3, b3, a4, b4]; exact ⟨rfl, rfl⟩
        · rcases a2 with a2 | a2
          · exact absurd a2 b2
          · rw [b3] at a2; exact absurd a2 (by decide)
      · rcases g2 with ⟨b1, b2, b3⟩ | ⟨b1, b2, b3, b4⟩ | ⟨b1, b2, b3, b4, b5⟩
        · omega
        · rcases b2 with b2 | b2
          · exact absurd b2 a2
          · rw [a3] at b2; exact absurd b2 (by decide)
        · rw [a4, b4, a5, b5]; exact ⟨rfl, rfl⟩
theorem RD.TW {P : pl_T} (ok : pl_ok P) {tx : Nat → Nat} {n : Nat} {ra : Int32} {m : tm_T} (h : RD P tx n ra (some m)) : TW P m ∧ m.1 ≠ 1 ∧ m.1 ≠ 2 ∧ ra = nI m.2.1 := by
  rcases h with ⟨p, -, -, -, -, h5⟩ | ⟨m', h1, ⟨-, -, h5⟩ | ⟨a1, a2, a3, a4⟩ | ⟨-, -, -, -, h5⟩⟩
  · simp at h5
  · simp at h5
  · cases a4
    have tw := (TW.R ok.1 ok.2.1 _ _ (Nat.le_refl _) h1).1
    rcases a2 with a2 | a2
    · subst a2
      rw [show min 0 76 = 0 from rfl, tR, tmR] at h1
      cases h1
      exact ⟨tw, fun q => by simp at q, fun q => by simp at q, a3⟩
    · refine ⟨tw, fun q => ?_, fun q => ?_, a3⟩
      · rw [q] at a2; exact absurd a2 (by decide)
      · rw [q] at a2; exact absurd a2 (by decide)
  · simp at h5
section
variable {r : Nat → Nat} {dy : List aa_Shp} {σ : aa_St} {P : pl_T} {hs : List Nat} {m : tm_T} {tx : Nat → Nat} {n : Nat}
theorem TC.ft {σ' : aa_St} (h : TC tx n σ.1) (hF : FT σ σ') : TC tx n σ'.1 := ⟨by rw [hF.2]; exact h.1, h.2.1, fun p hp => by rw [hF.1.2 2 (by decide)]; exact h.2.2 p hp⟩
theorem c_X7_appendN (hW : aa_W r dy σ) (hT : TC tx n σ.1) (h : 76 < n) (x : Int32) : aa_SX mX7_append 1 [.ref 1, .int x] σ (some (.int (-1))) σ := by
  have h80 := hT.2.1
  refine aa_E_of (by decide) 1 [some (.ref 1), some (.int (x)), none] rfl rfl ?_
  refine aa_go (aa_aload0 iX7_append_0) (aa_go (aa_getE iX7_append_1 fl_X7_15 (sh_1 hW) rfl hT.1) (aa_go (aa_iconst iX7_append_4 ki_4) (aa_go (aa_iaddN iX7_append_5 ) (aa_go (aa_bipush iX7_append_6 kb_80) ?_))))
  refine aa_ic_leN iX7_append_8 (by omega) (by omega) (fun h1 => ?_) (fun h1 => ?_)
  · skip
    omega
  · skip
    refine aa_go (aa_iconst iX7_append_11 ki_m1) ?_
    refine aa_iret iX7_append_12 rfl ?_
    exact ⟨rfl, rfl⟩
theorem c_X7_appendY (hW : aa_W r dy σ) (hT : TC tx n σ.1) (h : n ≤ 76) {a : Nat} (ha : a < 4294967296) : ∃ σ' : aa_St, (FrA [1, 2] σ σ' ∧ (∀ k, k ≠ 1 → σ'.1 1 k = σ.1 1 k) ∧ TC (txA tx n a) (n + 4) σ'.1) ∧ aa_SX mX7_append 1 [.ref 1, .int (nI a)] σ (some (.int (nI (n + 4)))) σ' := by
  have loop : ∀ f k (σ1 : aa_St), 4 - k < f → k ≤ 4 → FrA [2] σ σ1 → (∀ p, p < n + k → σ1.1 2 p = nI (txA tx n a p)) → aa_V mX7_append 1 15 [some (.ref 1), some (.int (nI a)), some (.int (nI k))] [] σ1 (fun ra σ' => ra = some (.int (nI (n + 4))) ∧ FrA [1, 2] σ σ' ∧ (∀ k, k ≠ 1 → σ'.1 1 k = σ.1 1 k) ∧ TC (txA tx n a) (n + 4) σ'.1) := by
    intro f
    induction f with
    | zero => intro k σ1 g1; omega
    | succ f ih =>
      intro k σ1 g1 g2 hF hT1
      have hW1 := hF.W hW
      have hl : σ1.1 1 1 = nI n := by rw [hF.2 1 (by decide)]; exact hT.1
      refine aa_go (aa_iload2 iX7_append_15) (aa_go (aa_iconst iX7_append_16 ki_4) ?_)
      refine aa_ic_geN iX7_append_17 (by omega) (by omega) (fun g3 => ?_) (fun g3 => ?_)
      · skip
        have e1 : k = 4 := by omega
        subst e1
        refine aa_go (aa_aload0 iX7_append_50) (aa_go (aa_dup iX7_append_51 rfl) (aa_go (aa_getE iX7_append_52 fl_X7_15 (sh_1 hW1) rfl hl) (aa_go (aa_iconst iX7_append_55 ki_4) (aa_go (aa_iaddN iX7_append_56 ) (aa_go (aa_putI iX7_append_57 fl_X7_15 (fun h => nomatch h) (sh_1 hW1) rfl ⟨rfl, rfl⟩) ?_)))))
        refine aa_go (aa_aload0 iX7_append_60) (aa_go (aa_getE iX7_append_61 fl_X7_15 (sh_1 hW1) rfl (sI_eq : (aa_sI σ1 1 1 (nI (n + 4))).1 1 1 = nI (n + 4))) ?_)
        refine aa_iret iX7_append_64 rfl ?_
        have fA : FrA [1, 2] σ σ1 := ⟨hF.1, fun x hx => hF.2 x (fun c => hx (List.mem_cons_of_mem _ c))⟩
        refine ⟨rfl, fA.s (by decide) _ _, fun k hk => by rw [sI_nk hk, hF.2 1 (by decide)], sI_eq, by omega, fun p hp => ⟨by rw [sI_ne (by decide)]; exact hT1 p hp, ?_⟩⟩
        rw [txA]
        split
        · exact Nat.lt_of_le_of_lt Nat.and_le_right (by omega)
        · exact (hT.2.2 p (by omega)).2
      · skip
        have sh : 8 * k ≤ 24 := by omega
        refine aa_go (aa_aload0 iX7_append_20) (aa_go (aa_getR iX7_append_21 fl_X7_11 (sh_1 hW1) rfl) (aa_go (aa_aload0 iX7_append_24) (aa_go (aa_getE iX7_append_25 fl_X7_15 (sh_1 hW1) rfl hl) (aa_go (aa_iload2 iX7_append_28) (aa_go (aa_iaddN iX7_append_29 ) (aa_go (aa_iload1 iX7_append_30) (aa_go (aa_bipush iX7_append_31 kb_24) ?_)))))))
        refine aa_go (aa_bipush iX7_append_33 kb_8) (aa_go (aa_iload2 iX7_append_35) (aa_go (aa_imulN iX7_append_36 ) (aa_go (aa_isubN iX7_append_37 (by omega)) (aa_go (aa_iushrN iX7_append_38 (by omega) (by omega)) (aa_go (aa_sipush iX7_append_39 ks_255) (aa_go (aa_iandN iX7_append_42 ) (aa_go (aa_iasN iX7_append_43 (sh_2 hW1) (by omega) (by omega)) ?_)))))))
        refine aa_go (aa_iincN2 (k := 1) iX7_append_44 rfl (by decide)) (aa_go (aa_goto iX7_append_47) ?_)
        refine ih (k + 1) _ (by omega) (by omega) (hF.s (by decide) _ _) (fun p hp => ?_)
        rw [sI_at]
        by_cases c : p = n + k
        · rw [if_pos c, txA, if_pos (by omega), c, Nat.add_sub_cancel_left]
        · rw [if_neg c]; exact hT1 p (by omega)
  have key : aa_V mX7_append 1 0 [some (.ref 1), some (.int (nI a)), none] [] σ (fun ra σ' => ra = some (.int (nI (n + 4))) ∧ FrA [1, 2] σ σ' ∧ (∀ k, k ≠ 1 → σ'.1 1 k = σ.1 1 k) ∧ TC (txA tx n a) (n + 4) σ'.1) := by
    refine aa_go (aa_aload0 iX7_append_0) (aa_go (aa_getE iX7_append_1 fl_X7_15 (sh_1 hW) rfl hT.1) (aa_go (aa_iconst iX7_append_4 ki_4) (aa_go (aa_iaddN iX7_append_5 ) (aa_go (aa_bipush iX7_append_6 kb_80) ?_))))
    refine aa_ic_leN iX7_append_8 (by omega) (by omega) (fun h1 => ?_) (fun h1 => ?_)
    · skip
      refine aa_go (aa_iconst iX7_append_13 ki_0) (aa_go (aa_istore2 iX7_append_14 rfl (by decide)) ?_)
      exact loop 5 0 σ (by omega) (by omega) FrA.rf (fun p hp => by rw [txA, if_neg (by omega)]; exact (hT.2.2 p (by omega)).1)
    · skip
      omega
  obtain ⟨ra, σ', ⟨rfl, h1⟩, hS9⟩ := aa_S_of (avs := [.ref 1, .int (nI a)]) (by decide) 1 [some (.ref 1), some (.int (nI a)), none] rfl rfl key
  exact ⟨σ', h1, hS9⟩
theorem c_X7_read (hW : aa_W r dy σ) (hX : XP P hs σ.1) (hT : TC tx n σ.1) : ∃ (ra : Int32) (o : Option tm_T) (σ' : aa_St), (FT σ σ' ∧ RD P tx n ra o ∧ ∀ m, o = some m → TX (pl_n P) m σ'.1) ∧ aa_SX mX7_read 4 [.ref 1, .ref 7] σ (some (.int ra)) σ' := by
  have ok := hX.ok
  have h80 := hT.2.1
  have hn := hX.n14
  have hb := hX.b2
  have loop : ∀ f p (σ1 : aa_St) m y4, min n 76 - p < f → p ≤ min n 76 → FT σ σ1 → tR P tx n p = some m → TX (pl_n P) m σ1.1 → aa_V mX7_read 4 38 [some (.ref 1), some (.ref 7), some (.int (nI (min n 76))), some (.int (nI p)), y4] [] σ1 (fun ra σ' => ∃ (z : Int32) (o : Option tm_T), ra = some (.int z) ∧ FT σ σ' ∧ RD P tx n z o ∧ ∀ m, o = some m → TX (pl_n P) m σ'.1) := by
    intro f
    induction f with
    | zero => intro p σ1 m y4 g1; omega
    | succ f ih =>
      intro p σ1 m y4 g1 g2 hF hm hTX
      have hW1 := hF.1.W hW
      have hT1 := hT.ft hF
      have tw := TW.R ok.1 ok.2.1 p m g2 hm
      refine aa_go (aa_iload3 iX7_read_38) (aa_go (aa_iload2 iX7_read_39) ?_)
      refine aa_ic_geN iX7_read_40 (by omega) (by omega) (fun g3 => ?_) (fun g3 => ?_)
      · skip
        have e1 : p = min n 76 := by omega
        subst e1
        refine aa_go (aa_aload0 iX7_read_96) (aa_go (aa_getE iX7_read_97 fl_X7_15 (sh_1 hW1) rfl hT1.1) (aa_go (aa_bipush iX7_read_100 kb_76) ?_))
        refine aa_ic_leN iX7_read_102 (by omega) (by omega) (fun g4 => ?_) (fun g4 => ?_)
        · skip
          refine aa_go (aa_aload0 iX7_read_108) (aa_go (aa_getE iX7_read_109 fl_X7_15 (sh_1 hW1) rfl hT1.1) ?_)
          refine aa_if_eqN iX7_read_112 (by omega) (fun g5 => ?_) (fun g5 => ?_)
          · skip
            refine aa_go (aa_aload0 iX7_read_122) (aa_go (aa_getE iX7_read_123 fl_X7_32 (sh_1 hW1) rfl hTX.1) (aa_go (aa_goto iX7_read_126) ?_))
            refine aa_iret iX7_read_135 rfl ?_
            exact ⟨_, some m, rfl, hF, Or.inr ⟨m, hm, Or.inr (Or.inl ⟨g4, Or.inl g5, rfl, rfl⟩)⟩, fun m' e => by cases e; exact hTX⟩
          · skip
            refine aa_go (aa_aload0 iX7_read_115) (aa_go (aa_cVi iX7_read_116 (c_X7_mayEnd hW1 hTX.2.2.2.1 tw.1.1) (by decide) lc_X7_mayEnd lk_X7_72 (sh_1 hW1) rfl rfl (Nat.le_of_ble_eq_true rfl)) ?_)
            refine aa_if_eqB iX7_read_119 (fun g6 => ?_) (fun g6 => ?_)
            · skip
              refine aa_go (aa_iconst iX7_read_129 ki_m1) (aa_go (aa_aload0 iX7_read_130) (aa_go (aa_getE iX7_read_131 fl_X7_15 (sh_1 hW1) rfl hT1.1) (aa_go (aa_isub iX7_read_134) ?_)))
              refine aa_iret iX7_read_135 rfl ?_
              exact ⟨_, none, rfl, hF, Or.inr ⟨m, hm, Or.inr (Or.inr ⟨g4, g5, g6, rfl, rfl⟩)⟩, fun m' e => by simp at e⟩
            · skip
              refine aa_go (aa_aload0 iX7_read_122) (aa_go (aa_getE iX7_read_123 fl_X7_32 (sh_1 hW1) rfl hTX.1) (aa_go (aa_goto iX7_read_126) ?_))
              refine aa_iret iX7_read_135 rfl ?_
              exact ⟨_, some m, rfl, hF, Or.inr ⟨m, hm, Or.inr (Or.inl ⟨g4, Or.inr g6, rfl, rfl⟩)⟩, fun m' e => by cases e; exact hTX⟩
        · skip
          refine aa_go (aa_bipush iX7_read_105 kb_m77) ?_
          refine aa_iret iX7_read_107 rfl ?_
          exact ⟨_, none, rfl, hF, Or.inr ⟨m, hm, Or.inl ⟨g4, rfl, rfl⟩⟩, fun m' e => by simp at e⟩
      · skip
        have c1 := hT1.2.2 p (by omega)
        have tail : ∀ g : Bool, g = (decide (p + 1 < min n 76) && isD (tx (p + 1))) → aa_V mX7_read 4 69 [some (.ref 1), some (.ref 7), some (.int (nI (min n 76))), some (.int (nI p)), y4] [.int (nI g.toNat)] σ1 (fun ra σ' => ∃ (z : Int32) (o : Option tm_T), ra = some (.int z) ∧ FT σ σ' ∧ RD P tx n z o ∧ ∀ m, o = some m → TX (pl_n P) m σ'.1) := by
          intro g hg
          obtain ⟨σ2, hR, hS⟩ := c_X7_takes hW1 hTX tw.1 c1.2 g (fun q => (tw.2 q).2)
          have e2 : tR P tx n (p + 1) = tmS (pl_n P) (tx p) g m := by
            rw [tR] at hm
            rw [tR, tmR, hm, ← hg]; rfl
          refine aa_go (aa_istore4 iX7_read_69 rfl (by decide)) (aa_go (aa_aload0 iX7_read_71) (aa_go (aa_aload0 iX7_read_72) (aa_go (aa_getR iX7_read_73 fl_X7_11 (sh_1 hW1) rfl) (aa_go (aa_iload3 iX7_read_76) (aa_go (aa_ialE iX7_read_77 (sh_2 hW1) (by omega) (by omega) (c1.1)) (aa_go (aa_iload4 iX7_read_78) (aa_go (aa_cVi iX7_read_80 (hS) (by decide) lc_X7_takes lk_X7_68 (sh_1 hW1) rfl rfl (Nat.le_of_ble_eq_true rfl)) ?_)))))))
          refine aa_if_neB iX7_read_83 (fun g4 => ?_) (fun g4 => ?_)
          · skip
            refine aa_go (aa_iincN3 (k := 1) iX7_read_90 rfl (by decide)) (aa_go (aa_goto iX7_read_93) ?_)
            cases q : tmS (pl_n P) (tx p) g m with
            | none => rw [q] at g4; simp at g4
            | some m2 => exact ih (p + 1) σ2 m2 _ (by omega) (by omega) (hF.tr hR.1) (by rw [e2, q]) (hR.2 m2 q)
          · skip
            refine aa_go (aa_iconst iX7_read_86 ki_m1) (aa_go (aa_iload3 iX7_read_87) (aa_go (aa_isub iX7_read_88) ?_))
            refine aa_iret iX7_read_89 rfl ?_
            refine ⟨_, none, rfl, hF.tr hR.1, Or.inl ⟨p, g3, by rw [hm]; simp, ?_, rfl, rfl⟩, fun m' e => by simp at e⟩
            rw [e2]
            cases q : tmS (pl_n P) (tx p) g m with
            | none => rfl
            | some m2 => rw [q] at g4; simp at g4
        refine aa_go (aa_iload3 iX7_read_43) (aa_go (aa_iconst iX7_read_44 ki_1) (aa_go (aa_iaddN iX7_read_45 ) (aa_go (aa_iload2 iX7_read_46) ?_)))
        refine aa_ic_geN iX7_read_47 (by omega) (by omega) (fun g4 => ?_) (fun g4 => ?_)
        · skip
          refine aa_go (aa_iconst iX7_read_68 ki_0) ?_
          exact tail false (by rw [decide_eq_false (by omega)]; rfl)
        · skip
          have c2 := hT1.2.2 (p + 1) (by omega)
          refine aa_go (aa_aload0 iX7_read_50) (aa_go (aa_getR iX7_read_51 fl_X7_11 (sh_1 hW1) rfl) (aa_go (aa_iload3 iX7_read_54) (aa_go (aa_iconst iX7_read_55 ki_1) (aa_go (aa_iaddN iX7_read_56 ) (aa_go (aa_ialE iX7_read_57 (sh_2 hW1) (by omega) (by omega) (c2.1)) (aa_go (aa_cSi iX7_read_58 (c_X7_isDigit (by omega)) (by decide) lc_X7_isDigit lk_X7_64 rfl (Nat.le_of_ble_eq_true rfl)) ?_))))))
          refine aa_if_eqB iX7_read_61 (fun g5 => ?_) (fun g5 => ?_)
          · skip
            refine aa_go (aa_iconst iX7_read_68 ki_0) ?_
            exact tail false (by rw [g5]; simp)
          · skip
            refine aa_go (aa_iconst iX7_read_64 ki_1) (aa_go (aa_goto iX7_read_65) ?_)
            exact tail true (by rw [g5, decide_eq_true g4]; rfl)
  have key : aa_V mX7_read 4 0 [some (.ref 1), some (.ref 7), none, none, none] [] σ (fun ra σ' => ∃ (z : Int32) (o : Option tm_T), ra = some (.int z) ∧ FT σ σ' ∧ RD P tx n z o ∧ ∀ m, o = some m → TX (pl_n P) m σ'.1) := by
    have hWa := hW.sI 1 6 (nI 0)
    have hXa : XP P hs (aa_sI σ 1 6 (nI 0)).1 := hX.fr ⟨by rw [sI_ne (by decide)], by rw [sI_ne (by decide)], by rw [sI_ne (by decide)]⟩ (fun q h1 h2 => sI_ne (by omega))
    have hWb := hWa.sI 1 7 (nI (pl_n P))
    have hXb : XP P hs (aa_sI (aa_sI σ 1 6 (nI 0)) 1 7 (nI (pl_n P))).1 := hXa.fr ⟨by rw [sI_ne (by decide)], by rw [sI_ne (by decide)], by rw [sI_ne (by decide)]⟩ (fun q h1 h2 => sI_ne (by omega))
    have hFx : FT σ (aa_sI (aa_sI (aa_sI (aa_sI σ 1 6 (nI 0)) 1 7 (nI (pl_n P))) 1 8 (nI (pl_b P))) 1 9 (nI 0)) := (((FT.rf.s1 (by decide) _).s1 (by decide) _).s1 (by decide) _).s1 (by decide) _
    have hTX : TX (pl_n P) (0, 0, tm0, pl_b P, 0, 0) (aa_sI (aa_sI (aa_sI (aa_sI σ 1 6 (nI 0)) 1 7 (nI (pl_n P))) 1 8 (nI (pl_b P))) 1 9 (nI 0)).1 := by
      refine ⟨?_, ?_, ?_, sI_eq, fun e => by simp at e, fun e => by simp at e, fun k hk => by simp at hk⟩
      · rw [sI_nk (by decide), sI_nk (by decide), sI_nk (by decide), sI_eq]
      · rw [sI_nk (by decide), sI_nk (by decide), sI_eq]
      · rw [sI_nk (by decide), sI_eq]
    refine aa_go (aa_aload0 iX7_read_0) (aa_go (aa_iconst iX7_read_1 ki_0) (aa_go (aa_putI iX7_read_2 fl_X7_32 (fun h => nomatch h) (sh_1 hW) rfl ⟨rfl, rfl⟩) (aa_go (aa_aload0 iX7_read_5) (aa_go (aa_aload1 iX7_read_6) (aa_go (aa_cVi iX7_read_7 (c_X6_things hWa hXa) (by decide) lc_X6_things lk_X7_50 (sh_7 hW) rfl rfl (Nat.le_of_ble_eq_true rfl)) (aa_go (aa_putI iX7_read_10 fl_X7_35 (fun h => nomatch h) (sh_1 hW) rfl ⟨rfl, rfl⟩) (aa_go (aa_aload0 iX7_read_13) ?_)))))))
    refine aa_go (aa_aload1 iX7_read_14) (aa_go (aa_cVi iX7_read_15 (c_X6_backs hWb hXb) (by decide) lc_X6_backs lk_X7_56 (sh_7 hW) rfl rfl (Nat.le_of_ble_eq_true rfl)) (aa_go (aa_putI iX7_read_18 fl_X7_38 (fun h => nomatch h) (sh_1 hW) rfl ⟨rfl, rfl⟩) (aa_go (aa_aload0 iX7_read_21) (aa_go (aa_iconst iX7_read_22 ki_0) (aa_go (aa_putI iX7_read_23 fl_X7_41 (fun h => nomatch h) (sh_1 hW) rfl ⟨rfl, rfl⟩) (aa_go (aa_aload0 iX7_read_26) (aa_go (aa_getE iX7_read_27 fl_X7_15 (sh_1 hW) rfl (hT.ft hFx).1) ?_)))))))
    refine aa_go (aa_bipush iX7_read_30 kb_76) (aa_go (aa_mminN iX7_read_32 (by omega) lk_X7_58 (Nat.le_of_ble_eq_true rfl) (by omega) (by omega)) (aa_go (aa_istore2 iX7_read_35 rfl (by decide)) (aa_go (aa_iconst iX7_read_36 ki_0) (aa_go (aa_istore3 iX7_read_37 rfl (by decide)) ?_))))
    exact loop (min n 76 + 1) 0 _ _ _ (by omega) (by omega) hFx rfl hTX
  obtain ⟨ra, σ', ⟨z, o, rfl, h1⟩, hS9⟩ := aa_S_of (avs := [.ref 1, .ref 7]) (by decide) 3 [some (.ref 1), some (.ref 7), none, none, none] rfl rfl key
  exact ⟨z, o, σ', h1, hS9⟩
theorem plL_ok (ok : pl_ok P) (hTW : TW P m) (h1 : m.1 ≠ 1) (h2 : m.1 ≠ 2) : ∀ k, k ≤ m.2.1 → pl_ok (plL P m.2.2.1 k) ∧ pl_b (plL P m.2.2.1 k) ≤ 2
  | 0, _ => ⟨ok, ok.2.1⟩
  | k + 1, hk => by
    have ih := plL_ok ok hTW h1 h2 k (by omega)
    obtain ⟨w1, w2, w3, w4, w5, w6, w7, w8, w9⟩ := id hTW
    have w9 := w9 k (by omega)
    have hh := w9.2.2 (Or.inr ⟨h1, h2⟩)
    have mono : ∀ d, k + 1 + d ≤ m.2.1 → pl_b (plL P m.2.2.1 (k + 1)) ≤ pl_b (plL P m.2.2.1 (k + 1 + d)) := by
      intro d
      induction d with
      | zero => intro _; exact Nat.le_refl _
      | succ d ihd =>
        intro hd
        have := ihd (by omega)
        refine Nat.le_trans this ?_
        rw [show k + 1 + (d + 1) = k + 1 + d + 1 by omega]
        show _ ≤ pl_b (pl_add (plL P m.2.2.1 (k + 1 + d)) _ _ _ _)
        rw [pl_add_b]; omega
    have bm := mono (m.2.1 - (k + 1)) (by omega)
    rw [show k + 1 + (m.2.1 - (k + 1)) = m.2.1 by omega, ← w6] at bm
    have b2 : pl_b (plL P m.2.2.1 (k + 1)) ≤ 2 := by omega
    refine ⟨?_, b2⟩
    rw [plL, pl_add_b] at b2
    rw [plL]
    exact pl_add_ok ih.1 (by rw [plL_n]; omega) w9.1 hh.1 hh.2 (by rw [plL_n]; exact w9.2.1) b2
theorem c_X7_layOn (hW : aa_W r dy σ) (hX : XP P hs σ.1) {v : Nat} (hv : σ.1 7 15 = nI v) (hT : TX (pl_n P) m σ.1) (hTW : TW P m) (h1 : m.1 ≠ 1) (h2 : m.1 ≠ 2) : ∃ σ' : aa_St, (σ'.2 = σ.2 ∧ XP (plL P m.2.2.1 m.2.1) (pl_hl (plL P m.2.2.1 m.2.1) (pl_n (plL P m.2.2.1 m.2.1))).1 σ'.1 ∧ σ'.1 7 15 = nI (v + 1) ∧ (∀ a, (a < 7 ∨ 19 < a) → σ'.1 a = σ.1 a)) ∧ aa_SX mX7_layOn 4 [.ref 1, .ref 7] σ none σ' := by
  have ok := hX.ok
  obtain ⟨a1, a2, a3, a4, a5, a6, a7⟩ := id hT
  obtain ⟨w1, w2, w3, w4, w5, w6, w7, w8, w9⟩ := id hTW
  have loop : ∀ f k (σ1 : aa_St), m.2.1 - k < f → k ≤ m.2.1 → σ1.2 = σ.2 → XA (plL P m.2.2.1 k) σ1.1 → (∀ a, (a < 7 ∨ 14 < a) → σ1.1 a = σ.1 a) → σ1.1 7 15 = nI v → aa_V mX7_layOn 4 2 [some (.ref 1), some (.ref 7), some (.int (nI k))] [] σ1 (fun ra σ' => ra = none ∧ σ'.2 = σ.2 ∧ XP (plL P m.2.2.1 m.2.1) (pl_hl (plL P m.2.2.1 m.2.1) (pl_n (plL P m.2.2.1 m.2.1))).1 σ'.1 ∧ σ'.1 7 15 = nI (v + 1) ∧ (∀ a, (a < 7 ∨ 19 < a) → σ'.1 a = σ.1 a)) := by
    intro f
    induction f with
    | zero => intro k σ1 g1; omega
    | succ f ih =>
      intro k σ1 g1 g2 e2 hA hfr hv1
      have hW1 : aa_W r dy σ1 := hW.of2 (by rw [e2])
      have okk := plL_ok ok hTW h1 h2 k g2
      refine aa_go (aa_iload2 iX7_layOn_2) (aa_go (aa_aload0 iX7_layOn_3) (aa_go (aa_getE iX7_layOn_4 fl_X7_32 (sh_1 hW1) rfl (by rw [hfr 1 (by omega)]; exact a1 : σ1.1 1 6 = nI m.2.1)) ?_))
      refine aa_ic_geN iX7_layOn_7 (by omega) (by omega) (fun g3 => ?_) (fun g3 => ?_)
      · skip
        have e1 : k = m.2.1 := by omega
        subst e1
        have u0 := hX.u (m := 0) (by omega)
        obtain ⟨σ2, ⟨b1, b2, b3, b4⟩, hS⟩ := c_X6_settle hW1 okk.1 hA hv1 (by rw [hfr 17 (by omega), u0.1, sm_0]) (by rw [hfr 18 (by omega), u0.2]; rw [show 0 <<< 7 = 0 from rfl, sm_0])
        refine aa_go (aa_aload1 iX7_layOn_50) (aa_go (aa_cVv iX7_layOn_51 (hS) (by decide) lc_X6_settle lk_X7_80 (sh_7 hW1) rfl rfl (Nat.le_of_ble_eq_true rfl)) ?_)
        refine aa_vret iX7_layOn_54 rfl ?_
        exact ⟨rfl, b1.trans e2, b2, b3, fun a ha => (b4 a ha).trans (hfr a (by omega))⟩
      · skip
        have w9 := w9 k g3
        have hh := w9.2.2 (Or.inr ⟨h1, h2⟩)
        have a7 := a7 k g3
        have okn := plL_ok ok hTW h1 h2 (k + 1) g3
        have bb : (m.2.2.1 k).2.2.2 = true → pl_b (plL P m.2.2.1 k) < 2 := by
          intro q
          have := okn.2
          rw [plL, pl_add_b, q] at this
          simp at this; omega
        obtain ⟨σ2, ⟨b1, b2, b3, b4⟩, hS⟩ := c_X6_add hW1 okk.1 hA (by rw [plL_n]; omega) w9.1 hh.2 (by rw [plL_n]; exact w9.2.1) bb
        have r3 : σ1.1 3 k = nI (m.2.2.1 k).1 := by rw [hfr 3 (by omega)]; exact a7.1
        have r4 : σ1.1 4 k = nI (m.2.2.1 k).2.1 := by rw [hfr 4 (by omega)]; exact a7.2.1 (Or.inr ⟨h1, h2⟩)
        have r5 : σ1.1 5 k = nI (m.2.2.1 k).2.2.1 := by rw [hfr 5 (by omega)]; exact a7.2.2.1
        have r6 : σ1.1 6 k = nI (m.2.2.1 k).2.2.2.toNat := by rw [hfr 6 (by omega)]; exact a7.2.2.2
        refine aa_go (aa_iload2 iX7_layOn_10) (aa_go (aa_bipush iX7_layOn_11 kb_14) ?_)
        refine aa_ic_geN iX7_layOn_13 (by omega) (by omega) (fun g4 => ?_) (fun g4 => ?_)
        · skip
          omega
        · skip
          refine aa_go (aa_aload1 iX7_layOn_16) (aa_go (aa_aload0 iX7_layOn_17) (aa_go (aa_getR iX7_layOn_18 fl_X7_19 (sh_1 hW1) rfl) (aa_go (aa_iload2 iX7_layOn_21) (aa_go (aa_ialE iX7_layOn_22 (sh_3 hW1) (by omega) (by omega) (r3)) (aa_go (aa_aload0 iX7_layOn_23) (aa_go (aa_getR iX7_layOn_24 fl_X7_22 (sh_1 hW1) rfl) (aa_go (aa_iload2 iX7_layOn_27) ?_)))))))
          refine aa_go (aa_ialE iX7_layOn_28 (sh_4 hW1) (by omega) (by omega) (r4)) (aa_go (aa_aload0 iX7_layOn_29) (aa_go (aa_getR iX7_layOn_30 fl_X7_25 (sh_1 hW1) rfl) (aa_go (aa_iload2 iX7_layOn_33) (aa_go (aa_ialE iX7_layOn_34 (sh_5 hW1) (by omega) (by omega) (r5)) (aa_go (aa_aload0 iX7_layOn_35) (aa_go (aa_getR iX7_layOn_36 fl_X7_28 (sh_1 hW1) rfl) (aa_go (aa_iload2 iX7_layOn_39) ?_)))))))
          refine aa_go (aa_zalE iX7_layOn_40 (sh_6 hW1) (by omega) (by omega) (r6)) (aa_go (aa_cVv iX7_layOn_41 (hS) (by decide) lc_X6_add lk_X7_76 (sh_7 hW1) rfl rfl (Nat.le_of_ble_eq_true rfl)) (aa_go (aa_iincN2 (k := 1) iX7_layOn_44 rfl (by decide)) (aa_go (aa_goto iX7_layOn_47) ?_)))
          exact ih (k + 1) σ2 (by omega) (by omega) (b1.trans e2) b2 (fun a ha => (b3 a ha).trans (hfr a ha)) (by rw [b4 15 (by decide) (by decide)]; exact hv1)
  have key : aa_V mX7_layOn 4 0 [some (.ref 1), some (.ref 7), none] [] σ (fun ra σ' => ra = none ∧ σ'.2 = σ.2 ∧ XP (plL P m.2.2.1 m.2.1) (pl_hl (plL P m.2.2.1 m.2.1) (pl_n (plL P m.2.2.1 m.2.1))).1 σ'.1 ∧ σ'.1 7 15 = nI (v + 1) ∧ (∀ a, (a < 7 ∨ 19 < a) → σ'.1 a = σ.1 a)) := by
    refine aa_go (aa_iconst iX7_layOn_0 ki_0) (aa_go (aa_istore2 iX7_layOn_1 rfl (by decide)) ?_)
    exact loop (m.2.1 + 1) 0 σ (by omega) (by omega) rfl hX.2.1 (fun _ _ => rfl) hv
  obtain ⟨ra, σ', ⟨rfl, h1⟩, hS9⟩ := aa_S_of (avs := [.ref 1, .ref 7]) (by decide) 1 [some (.ref 1), some (.ref 7), none] rfl rfl key
  exact ⟨σ', h1, hS9⟩
end
