/-! PUBLIC METHODS, seventh part: piles, sheets -/
theorem dN_neg {p : Nat} (hp : p ≤ 100) : dN p < 0 := by
  rw [dN, show (-1 : Int32) = iZ (-1) from rfl, iZ_N, iZ_sub, Int32.lt_iff_toInt_lt, iZ, Int32.toInt_ofInt_of_le (by omega) (by omega), Int32.toInt_zero]
  omega
def kp0 : Nat → Option gm_T := fun _ => none
def gNew (P : pl_T) (g : gm_T) : gm_T := (0, fun _ => 2 ^ pl_n P - 1, g.2.2)
theorem GV_new (P : pl_T) (g : gm_T) : GV P (gNew P g) := by
  refine ⟨rfl, fun k => ?_, fun k hk => absurd hk (Nat.not_lt_zero k)⟩
  have := pw_pos (pl_n P)
  have : 2 ^ pl_n P ≤ 2 ^ (pl_n P + pl_b P) := pw_lt (by omega)
  show 2 ^ pl_n P - 1 < _
  omega
theorem nI_ne_ver {v w : Nat} (hw : w ≤ v) (hv : v < 1000) : nI w ≠ nI (v + 1) := fun q => by
  have := nI_inj (by omega) (by omega) q
  omega
section
variable {v W S R : Nat} {r : Nat → Nat} {dy : List aa_Shp} {σ σ' : aa_St} {P P' : pl_T} {tx tx' : Nat → Nat} {n n' : Nat} {g g' : gm_T} {kp kp' : Nat → Option gm_T} {lk lk' tl tl' : Nat} {rw rw' : Nat → Int} {N : Nat}
/-- things were told: all that was known is known no more -/
theorem XIv.newP (h : XIv P tx n g kp lk tl rw N v W S R r dy σ) (e2 : σ'.2 = σ.2) (q : ∀ x, 20 < x → x ≠ 23 → σ'.1 x = σ.1 x) (hX : XP P' (hsP P') σ'.1) (hv : σ'.1 7 15 = nI (v + 1)) (hn : pl_n P < pl_n P') (hT : XT P' tx' n' g' kp' lk' tl' rw' σ') : XIv P' tx' n' g' kp' lk' tl' rw' N (v + 1) W S R r dy σ' ∧ CF r σ r σ' := by
  obtain ⟨a1, a2, a3, a4, a5, a6, a7, a8, w1, w2, w3, w4⟩ := h
  have n14 := hX.n14
  have vb : ∀ a, a ∈ [25, 27, 30, 39, 47] → σ'.1 a 1 ≠ nI (v + 1) := by
    intro a ha c
    have h20 : 20 < a ∧ a ≠ 23 := by simp at ha; omega
    rw [q a h20.1 h20.2] at c
    rcases w4.1 a ha with e | ⟨w, hw, e⟩
    · rw [e] at c
      exact nI_m1ne (by omega) c.symm
    · rw [e] at c
      exact nI_ne_ver hw (by omega) c
  have v49 : σ'.1 49 4 ≠ nI (v + 1) := by
    intro c
    rw [q 49 (by decide) (by decide)] at c
    rcases w4.2 with e | ⟨w, hw, e⟩
    · rw [e] at c
      exact nI_m1ne (by omega) c.symm
    · rw [e] at c
      exact nI_ne_ver hw (by omega) c
  have qr : ∀ j, j < 7 → σ'.1 (r j) = σ.1 (r j) := fun j hj => q _ (by have := a2.lo hj; omega) (by have := a2.lo hj; omega)
  have hW' : aa_W r dy σ' := a1.of2 (by rw [e2])
  refine ⟨⟨hW', a2, hX, hv, by omega, hT, ?_, ?_, w1, w2, w3, ?_⟩, ⟨fun x h1 h2 => ⟨q x (by omega) (by omega), by rw [e2]⟩, rfl, rfl⟩⟩
  · obtain ⟨b0, b1, b2, b3, b4, b5, ⟨b6, b6'⟩, b7, b8, b9⟩ := a7
    refine ⟨fun c => absurd c (vb 25 (by decide)), fun c => absurd c (vb 27 (by decide)), fun c => absurd c (vb 30 (by decide)), ?_, fun c => absurd c (vb 39 (by decide)), fun c => absurd c (vb 47 (by decide)), ⟨?_, ?_⟩, ?_, ?_, b9⟩
    · unfold S3 R3; rw [e2, qr 3 (by decide)]; exact b3
    · rw [q 49 (by decide) (by decide)]; exact b6
    · rcases b6' with a | ⟨a, b, c, d⟩
      · exact Or.inl a
      · exact Or.inr ⟨a, by rw [e2]; exact b, by rw [qr 6 (by decide)]; exact c, fun T e x1 => absurd x1 v49⟩
    · rw [q 24 (by decide) (by decide)]; exact b7
    · rw [e2]; exact b8
  · obtain ⟨c1, c2⟩ := a8
    have l1 : cc (v + 1) σ'.1 ≤ 5 := by
      unfold cc
      repeat' split
      all_goals omega
    unfold BD ph pn
    unfold ph at c1
    unfold pn at c2
    rw [e2]
    constructor <;> omega
  · refine ⟨fun a ha => ?_, ?_⟩
    · have h20 : 20 < a ∧ a ≠ 23 := by simp at ha; omega
      rw [q a h20.1 h20.2]
      rcases w4.1 a ha with e | ⟨w, hw, e⟩
      · exact Or.inl e
      · exact Or.inr ⟨w, by omega, e⟩
    · rw [q 49 (by decide) (by decide)]
      rcases w4.2 with e | ⟨w, hw, e⟩
      · exact Or.inl e
      · exact Or.inr ⟨w, by omega, e⟩
/-- what piles() leaves: the pile, the game, games kept -/
def PIL (P : pl_T) (g : gm_T) (kp : Nat → Option gm_T) (o : Option tm_T) : pl_T × gm_T × (Nat → Option gm_T) := match o with
  | none => (P, g, kp)
  | some m => if m.2.1 = 0 then (P, (0, g.2), kp) else (plL P m.2.2.1 m.2.1, gNew (plL P m.2.2.1 m.2.1) g, kp0)
theorem p_piles (h : XIv P tx n g kp lk tl rw N v W S R r dy σ) : ∃ (ra : Int32) (o : Option tm_T) (σ' : aa_St), (RD P tx n ra o ∧ XI (PIL P g kp o).1 tx 0 (PIL P g kp o).2.1 (PIL P g kp o).2.2 lk tl rw N r dy σ' ∧ CF r σ r σ') ∧ aa_SX mX11_piles 100 [.ref 0] σ (some (.int ra)) σ' := by
  obtain ⟨ra, o, σ1, ⟨hF1, hRD, hTX⟩, hS1⟩ := c_X7_read h.1 h.X h.T.1
  have hC1 := h.T.1.ft hF1
  obtain ⟨h1, f1⟩ := h.set (σ' := σ1) (tx' := tx) (n' := n) (g' := g) (kp' := kp) (lk' := lk) (tl' := tl) (rw' := rw) ⟨hF1.1.1, fun x hx => hF1.1.2 x (fun c => hx (by simp at c ⊢; omega))⟩ (h.T.text (fun x q1 q2 hx => hF1.1.2 x (fun c => by simp [XTc] at hx c; omega)) (by rw [hF1.1.1]) hC1)
  have tail : ∀ (σ2 : aa_St) {P2 : pl_T} {g2 : gm_T} {kp2 : Nat → Option gm_T} {v2 : Nat} y2, XIv P2 tx n g2 kp2 lk tl rw N v2 W S R r dy σ2 → CF r σ r σ2 → aa_V mX11_piles 100 58 [some (.ref 0), some (.int ra), y2] [] σ2 (fun rz σ' => rz = some (.int ra) ∧ XI P2 tx 0 g2 kp2 lk tl rw N r dy σ' ∧ CF r σ r σ') := by
    intro σ2 P2 g2 kp2 v2 y2 h2 f2
    obtain ⟨h3, f3⟩ := h2.set (σ' := aa_sI σ2 1 1 (nI 0)) (FrA.rf.s (by decide) _ _) (h2.T.text (fun x h1 h2 _ => sI_ne h1) rfl (h2.T.1.cut (Nat.zero_le _)))
    refine aa_go (aa_aload0 iX11_piles_58) (aa_go (aa_getR iX11_piles_59 fl_X11_12 (sh_0 h2.1) rfl) (aa_go (aa_iconst iX11_piles_62 ki_0) (aa_go (aa_cVi iX11_piles_63 (c_X7_cutY h2.1 h2.T.1.1 (Nat.zero_le _) h2.T.1.2.1) (by decide) lc_X7_cut lk_X11_101 (sh_1 h2.1) rfl rfl (Nat.le_of_ble_eq_true rfl)) (aa_go (aa_pop iX11_piles_66 rfl) (aa_go (aa_iload1 iX11_piles_67) ?_)))))
    refine aa_iret iX11_piles_68 rfl ?_
    exact ⟨rfl, h3.to, f2.tr f3⟩
  have key : aa_V mX11_piles 100 0 [some (.ref 0), none, none] [] σ (fun rz σ' => rz = some (.int ra) ∧ XI (PIL P g kp o).1 tx 0 (PIL P g kp o).2.1 (PIL P g kp o).2.2 lk tl rw N r dy σ' ∧ CF r σ r σ') := by
    cases o with
    | none =>
      have neg : ra < 0 := by
        have n80 := h.T.1.2.1
        rcases hRD with ⟨p, h1, -, -, h4, -⟩ | ⟨m, -, ⟨-, h4, -⟩ | ⟨-, -, -, h5⟩ | ⟨h0, -, -, h4, -⟩⟩
        · rw [h4]; exact dN_neg (by omega)
        · rw [h4]; decide
        · simp at h5
        · rw [h4]; exact dN_neg (by omega)
      refine aa_go (aa_aload0 iX11_piles_0) (aa_go (aa_getR iX11_piles_1 fl_X11_12 (sh_0 h.1) rfl) (aa_go (aa_aload0 iX11_piles_4) (aa_go (aa_getR iX11_piles_5 fl_X11_19 (sh_0 h.1) rfl) (aa_go (aa_cVi iX11_piles_8 (hS1) (by decide) lc_X7_read lk_X11_105 (sh_1 h.1) rfl rfl (Nat.le_of_ble_eq_true rfl)) (aa_go (aa_istore1 iX11_piles_11 rfl (by decide)) (aa_go (aa_iload1 iX11_piles_12) ?_))))))
      refine aa_if_le iX11_piles_13 (fun g1 => ?_) (fun g1 => ?_)
      · skip
        refine aa_go (aa_iload1 iX11_piles_47) ?_
        refine aa_if_lt iX11_piles_48 (fun g2 => ?_) (fun g2 => ?_)
        · skip
          exact tail σ1 _ h1 f1
        · skip
          exact absurd neg g2
      · skip
        exact absurd (Int32.le_of_lt neg) g1
    | some m =>
      have tw := hRD.TW h.ok
      have hl14 : m.2.1 ≤ 14 := by have := tw.1.2.2.1; omega
      obtain ⟨-, -, -, rfl⟩ := id tw
      by_cases l0 : m.2.1 = 0
      · have e : PIL P g kp (some m) = (P, (0, g.2), kp) := by rw [PIL, if_pos l0]
        rw [e]
        obtain ⟨h2, f2⟩ := h1.start
        refine aa_go (aa_aload0 iX11_piles_0) (aa_go (aa_getR iX11_piles_1 fl_X11_12 (sh_0 h.1) rfl) (aa_go (aa_aload0 iX11_piles_4) (aa_go (aa_getR iX11_piles_5 fl_X11_19 (sh_0 h.1) rfl) (aa_go (aa_cVi iX11_piles_8 (hS1) (by decide) lc_X7_read lk_X11_105 (sh_1 h.1) rfl rfl (Nat.le_of_ble_eq_true rfl)) (aa_go (aa_istore1 iX11_piles_11 rfl (by decide)) (aa_go (aa_iload1 iX11_piles_12) ?_))))))
        refine aa_if_leN iX11_piles_13 (by omega) (fun g1 => ?_) (fun g1 => ?_)
        · skip
          refine aa_go (aa_iload1 iX11_piles_47) ?_
          refine aa_go (aa_if_ltN iX11_piles_48 (by omega)) ?_
          refine aa_go (aa_aload0 iX11_piles_51) (aa_go (aa_getR iX11_piles_52 fl_X11_28 (sh_0 h1.1) rfl) (aa_go (aa_cVv iX11_piles_55 (c_X2_start h1.1 h1.X) (by decide) lc_X2_start lk_X11_112 (sh_20 h1.1) rfl rfl (Nat.le_of_ble_eq_true rfl)) ?_))
          exact tail _ _ h2 (f1.tr f2)
        · skip
          omega
      · have e : PIL P g kp (some m) = (plL P m.2.2.1 m.2.1, gNew (plL P m.2.2.1 m.2.1) g, kp0) := by rw [PIL, if_neg l0]
        rw [e]
        obtain ⟨σ2, ⟨d1, d2, d3, d4⟩, hS2⟩ := c_X7_layOn h1.1 h1.X h1.V (hTX m rfl) tw.1 tw.2.1 tw.2.2.1
        have hW2 : aa_W r dy σ2 := h1.1.of2 (by rw [d1])
        have hWk := ((hW2.sI 23 0 (nI 0)).sI 23 1 (nI 0)).sI 23 2 (nI 0)
        have hXk : XP (plL P m.2.2.1 m.2.1) (hsP (plL P m.2.2.1 m.2.1)) (aa_sI (aa_sI (aa_sI σ2 23 0 (nI 0)) 23 1 (nI 0)) 23 2 (nI 0)).1 := d2.fr ⟨by rw [sI_ne (by decide), sI_ne (by decide), sI_ne (by decide)], by rw [sI_ne (by decide), sI_ne (by decide), sI_ne (by decide)], by rw [sI_ne (by decide), sI_ne (by decide), sI_ne (by decide)]⟩ (fun x q1 q2 => by rw [sI_ne (by omega), sI_ne (by omega), sI_ne (by omega)])
        have qq : ∀ x, x ≠ 20 → x ≠ 23 → (x < 7 ∨ 19 < x) → (aa_sI (aa_sI (aa_sI (aa_sI (aa_sI σ2 23 0 (nI 0)) 23 1 (nI 0)) 23 2 (nI 0)) 20 2 (nI 0)) 20 3 (nI (2 ^ pl_n (plL P m.2.2.1 m.2.1) - 1))).1 x = σ1.1 x := fun x q1 q2 q3 => by rw [sI_ne q1, sI_ne q1, sI_ne q2, sI_ne q2, sI_ne q2, d4 x q3]
        have hT3 : XT (plL P m.2.2.1 m.2.1) tx n (gNew (plL P m.2.2.1 m.2.1) g) kp0 lk tl rw (aa_sI (aa_sI (aa_sI (aa_sI (aa_sI σ2 23 0 (nI 0)) 23 1 (nI 0)) 23 2 (nI 0)) 20 2 (nI 0)) 20 3 (nI (2 ^ pl_n (plL P m.2.2.1 m.2.1) - 1))) := by
          obtain ⟨t1, t2, t3, t4, t5⟩ := h1.T
          refine ⟨⟨by rw [qq 1 (by decide) (by decide) (by decide)]; exact t1.1, t1.2.1, fun p hp => by rw [qq 2 (by decide) (by decide) (by decide)]; exact t1.2.2 p hp⟩, ⟨⟨?_, by show 0 ≤ 18; omega, ?_, ?_, h1.e1, fun k hk => absurd hk (Nat.not_lt_zero k)⟩, GV_new _ _⟩, fun j hj => ⟨?_, fun g1 hg => by simp [kp0] at hg⟩, ⟨by rw [qq 46 (by decide) (by decide) (by decide)]; exact t4.1, t4.2⟩, ⟨by rw [qq 0 (by decide) (by decide) (by decide)]; exact t5.1, t5.2.1, fun i hi => ?_⟩⟩
          · rw [sI_nk (by decide), sI_eq]; rfl
          · rw [sI_eq]; rfl
          · rw [sI_nk (by decide), sI_nk (by decide), sI_ne (by decide), sI_ne (by decide), sI_ne (by decide), d4 20 (by decide)]
            exact t2.1.2.2.2.1
          · rw [sI_ne (by decide), sI_ne (by decide), sI_at, sI_at, sI_at]
            show _ = nI 0
            rcases (show j = 0 ∨ j = 1 ∨ j = 2 by omega) with rfl | rfl | rfl <;> rfl
          · show σ2.2.1 56 i = _
            rw [d1]; exact t5.2.2 i hi
        have hX3 : XP (plL P m.2.2.1 m.2.1) (hsP (plL P m.2.2.1 m.2.1)) (aa_sI (aa_sI (aa_sI (aa_sI (aa_sI σ2 23 0 (nI 0)) 23 1 (nI 0)) 23 2 (nI 0)) 20 2 (nI 0)) 20 3 (nI (2 ^ pl_n (plL P m.2.2.1 m.2.1) - 1))).1 := hXk.fr ⟨by rw [sI_ne (by decide), sI_ne (by decide)], by rw [sI_ne (by decide), sI_ne (by decide)], by rw [sI_ne (by decide), sI_ne (by decide)]⟩ (fun x q1 q2 => by rw [sI_ne (by omega), sI_ne (by omega)])
        obtain ⟨h3, f3⟩ := h1.newP (P' := plL P m.2.2.1 m.2.1) (σ' := aa_sI (aa_sI (aa_sI (aa_sI (aa_sI σ2 23 0 (nI 0)) 23 1 (nI 0)) 23 2 (nI 0)) 20 2 (nI 0)) 20 3 (nI (2 ^ pl_n (plL P m.2.2.1 m.2.1) - 1))) d1 (fun x q1 q2 => qq x (by omega) q2 (by omega)) hX3 (by rw [sI_ne (by decide), sI_ne (by decide), sI_ne (by decide), sI_ne (by decide), sI_ne (by decide)]; exact d3) (by rw [plL_n]; omega) hT3
        refine aa_go (aa_aload0 iX11_piles_0) (aa_go (aa_getR iX11_piles_1 fl_X11_12 (sh_0 h.1) rfl) (aa_go (aa_aload0 iX11_piles_4) (aa_go (aa_getR iX11_piles_5 fl_X11_19 (sh_0 h.1) rfl) (aa_go (aa_cVi iX11_piles_8 (hS1) (by decide) lc_X7_read lk_X11_105 (sh_1 h.1) rfl rfl (Nat.le_of_ble_eq_true rfl)) (aa_go (aa_istore1 iX11_piles_11 rfl (by decide)) (aa_go (aa_iload1 iX11_piles_12) ?_))))))
        refine aa_if_leN iX11_piles_13 (by omega) (fun g1 => ?_) (fun g1 => ?_)
        · skip
          omega
        · skip
          refine aa_go (aa_aload0 iX11_piles_16) (aa_go (aa_getR iX11_piles_17 fl_X11_12 (sh_0 h1.1) rfl) (aa_go (aa_aload0 iX11_piles_20) (aa_go (aa_getR iX11_piles_21 fl_X11_19 (sh_0 h1.1) rfl) (aa_go (aa_cVv iX11_piles_24 (hS2) (by decide) lc_X7_layOn lk_X11_109 (sh_1 h1.1) rfl rfl (Nat.le_of_ble_eq_true rfl)) ?_))))
          refine aa_go (aa_iconst iX11_piles_27 ki_0) (aa_go (aa_istore2 iX11_piles_28 rfl (by decide)) (aa_go (aa_iload2 iX11_piles_29) (aa_go (aa_iconst iX11_piles_30 ki_3) ?_)))
          refine aa_ic_geN iX11_piles_31 (by omega) (by omega) (fun g2 => ?_) (fun g2 => ?_)
          · skip
            omega
          · skip
            refine aa_go (aa_aload0 iX11_piles_34) (aa_go (aa_getR iX11_piles_35 fl_X11_36 (sh_0 hW2) rfl) (aa_go (aa_iload2 iX11_piles_38) (aa_go (aa_iconst iX11_piles_39 ki_0) (aa_go (aa_zasN iX11_piles_40 (sh_23 hW2) (by omega) (by omega) (aa_nz0)) (aa_go (aa_iincN2 (k := 1) iX11_piles_41 rfl (by decide)) (aa_go (aa_goto iX11_piles_44) (aa_go (aa_iload2 iX11_piles_29) ?_)))))))
            refine aa_go (aa_iconst iX11_piles_30 ki_3) ?_
            refine aa_ic_geN iX11_piles_31 (by omega) (by omega) (fun g3 => ?_) (fun g3 => ?_)
            · skip
              omega
            · skip
              refine aa_go (aa_aload0 iX11_piles_34) (aa_go (aa_getR iX11_piles_35 fl_X11_36 (sh_0 hW2) rfl) (aa_go (aa_iload2 iX11_piles_38) (aa_go (aa_iconst iX11_piles_39 ki_0) (aa_go (aa_zasN iX11_piles_40 (sh_23 hW2) (by omega) (by omega) (aa_nz0)) (aa_go (aa_iincN2 (k := 1) iX11_piles_41 rfl (by decide)) (aa_go (aa_goto iX11_piles_44) (aa_go (aa_iload2 iX11_piles_29) ?_)))))))
              refine aa_go (aa_iconst iX11_piles_30 ki_3) ?_
              refine aa_ic_geN iX11_piles_31 (by omega) (by omega) (fun g4 => ?_) (fun g4 => ?_)
              · skip
                omega
              · skip
                refine aa_go (aa_aload0 iX11_piles_34) (aa_go (aa_getR iX11_piles_35 fl_X11_36 (sh_0 hW2) rfl) (aa_go (aa_iload2 iX11_piles_38) (aa_go (aa_iconst iX11_piles_39 ki_0) (aa_go (aa_zasN iX11_piles_40 (sh_23 hW2) (by omega) (by omega) (aa_nz0)) (aa_go (aa_iincN2 (k := 1) iX11_piles_41 rfl (by decide)) (aa_go (aa_goto iX11_piles_44) (aa_go (aa_iload2 iX11_piles_29) ?_)))))))
                refine aa_go (aa_iconst iX11_piles_30 ki_3) ?_
                refine aa_ic_geN iX11_piles_31 (by omega) (by omega) (fun g5 => ?_) (fun g5 => ?_)
                · skip
                  refine aa_go (aa_iload1 iX11_piles_47) ?_
                  refine aa_go (aa_if_ltN iX11_piles_48 (by omega)) ?_
                  refine aa_go (aa_aload0 iX11_piles_51) (aa_go (aa_getR iX11_piles_52 fl_X11_28 (sh_0 hWk) rfl) (aa_go (aa_cVv iX11_piles_55 (c_X2_start hWk hXk) (by decide) lc_X2_start lk_X11_112 (sh_20 hWk) rfl rfl (Nat.le_of_ble_eq_true rfl)) ?_))
                  exact tail _ _ h3 (f1.tr f3)
                · skip
                  omega
  obtain ⟨rz, σ', ⟨rfl, h1⟩, hS9⟩ := aa_S_of (avs := [.ref 0]) (by decide) 2 [some (.ref 0), none, none] rfl rfl key
  exact ⟨ra, o, σ', ⟨hRD, h1⟩, hS9⟩
end
