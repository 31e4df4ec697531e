/-- the first of those who take the most at once -/
def gdk (P : pl_T) (h s : Nat) : Nat → Int × Option Nat
  | 0 => (-1, none)
  | k + 1 => if pl_lg P h s k = true ∧ (gdk P h s k).1 < pl_wo P (bd s (pl_nx P s k)) then ((pl_wo P (bd s (pl_nx P s k)) : Int), some k) else gdk P h s k
section
variable {r : Nat → Nat} {dy : List aa_Shp} {σ : aa_St} {P : pl_T} {hs : List Nat}
theorem gdk_le (ok : pl_ok P) (h s : Nat) : ∀ k, -1 ≤ (gdk P h s k).1 ∧ (gdk P h s k).1 ≤ 126
  | 0 => by show (-1 : Int) ≤ -1 ∧ (-1 : Int) ≤ 126; decide
  | k + 1 => by
    have ih := gdk_le ok h s k
    have := pl_wo_le ok (bd s (pl_nx P s k))
    rw [gdk]
    split
    · show -1 ≤ ((pl_wo P (bd s (pl_nx P s k)) : Nat) : Int) ∧ _ ≤ (126 : Int)
      omega
    · exact ih
theorem c_X10_greediest (hW : aa_W r dy σ) (hX : XP P hs σ.1) {s h : Nat} (hs2 : s < 2 ^ (pl_n P + pl_b P)) (hh : h ≤ 1) : aa_SX mX10_greediest 3 [.ref 38, .int (nI s), .int (nI h)] σ (some (.int (oI (gdk P h s (pl_n P)).2))) σ := by
  have ok := hX.ok
  have hn := hX.n14
  have hb := hX.b2
  have p16 := pw16 (k := pl_n P + pl_b P) (by omega)
  have p14 := pw14 hn
  have all : s &&& pl_al P h < 16384 := Nat.lt_of_le_of_lt Nat.and_le_right (Nat.lt_of_lt_of_le (pl_al_lt P h) p14)
  have loop : ∀ f k y7, pl_n P - k < f → k ≤ pl_n P → aa_V mX10_greediest 3 19 [some (.ref 38), some (.int (nI s)), some (.int (nI h)), some (.int (nI (s &&& pl_al P h))), some (.int (iZ (gdk P h s k).1)), some (.int (oI (gdk P h s k).2)), some (.int (nI k)), y7] [] σ (fun ra σ' => ra = some (.int (oI (gdk P h s (pl_n P)).2)) ∧ σ' = σ) := by
    intro f
    induction f with
    | zero => intro k y7 g1; omega
    | succ f ih =>
      intro k y7 g1 g2
      have nxt := fun y7 => ih (k + 1) y7
      refine aa_go (aa_iload6 iX10_greediest_19) (aa_go (aa_aload0 iX10_greediest_21) (aa_go (aa_getR iX10_greediest_22 fl_X10_22 (sh_38 hW) rfl) (aa_go (aa_cVi iX10_greediest_25 (c_X6_things hW hX) (by decide) lc_X6_things lk_X10_69 (sh_7 hW) rfl rfl (Nat.le_of_ble_eq_true rfl)) ?_)))
      refine aa_ic_geN iX10_greediest_28 (by omega) (by omega) (fun g3 => ?_) (fun g3 => ?_)
      · skip
        have e1 : k = pl_n P := by omega
        subst e1
        refine aa_go (aa_iload5 iX10_greediest_84) ?_
        refine aa_iret iX10_greediest_86 rfl ?_
        exact ⟨rfl, rfl⟩
      · skip
        have lg : (s &&& pl_al P h).testBit k = pl_lg P h s k := by
          rw [Nat.testBit_and, pl_al, bm_bit, pl_lg, if_pos g3]; simp [g3]
        refine aa_go (aa_iload3 iX10_greediest_31) (aa_go (aa_iload6 iX10_greediest_32) (aa_go (aa_ishrN iX10_greediest_34 (by omega) (by omega)) (aa_go (aa_iconst iX10_greediest_35 ki_1) (aa_go (aa_ibit iX10_greediest_36) ?_))))
        refine aa_if_eqB iX10_greediest_37 (fun g4 => ?_) (fun g4 => ?_)
        · skip
          rw [lg] at g4
          have e9 : gdk P h s (k + 1) = gdk P h s k := by rw [gdk, g4]; simp
          have := nxt y7 (by omega) (by omega)
          rw [e9] at this
          refine aa_go (aa_iincN6 (k := 1) iX10_greediest_78 rfl (by decide)) (aa_go (aa_goto iX10_greediest_81) ?_)
          exact this
        · skip
          rw [lg] at g4
          have b3 := pl_wo_le ok (bd s (pl_nx P s k))
          have b4 := gdk_le ok h s k
          have nlt := pl_nx_lt ok hs2 (by omega : k < pl_n P + pl_b P)
          have nlt31 : pl_nx P s k < 2147483648 := by omega
          have bdl : bd s (pl_nx P s k) < 2147483648 := Nat.lt_of_lt_of_le (bb_bd hs2) (by omega)
          refine aa_go (aa_aload0 iX10_greediest_40) (aa_go (aa_getR iX10_greediest_41 fl_X10_22 (sh_38 hW) rfl) (aa_go (aa_iload1 iX10_greediest_44) (aa_go (aa_aload0 iX10_greediest_45) (aa_go (aa_getR iX10_greediest_46 fl_X10_22 (sh_38 hW) rfl) (aa_go (aa_iload1 iX10_greediest_49) (aa_go (aa_iload6 iX10_greediest_50) (aa_go (aa_cVi iX10_greediest_52 (c_X6_behind hW hX (by omega)) (by decide) lc_X6_behind lk_X10_49 (sh_7 hW) rfl rfl (Nat.le_of_ble_eq_true rfl)) ?_)))))))
          refine aa_go (aa_iconst iX10_greediest_55 ki_m1) (aa_go (aa_ixor iX10_greediest_56) (aa_go (aa_iandC iX10_greediest_57) (aa_go (aa_cVi iX10_greediest_58 (c_X6_worthOf hW hX bdl) (by decide) lc_X6_worthOf lk_X10_52 (sh_7 hW) rfl rfl (Nat.le_of_ble_eq_true rfl)) ?_)))
          refine aa_go (aa_top (y := iZ (pl_wo P (bd s (pl_nx P s k)) : Nat)) (rfl)) ?_
          refine aa_go (aa_istore7 iX10_greediest_61 rfl (by decide)) (aa_go (aa_iload7 iX10_greediest_63) (aa_go (aa_iload4 iX10_greediest_65) ?_))
          refine aa_ic_le iX10_greediest_67 (fun g5 => ?_) (fun g5 => ?_)
          · skip
            rw [iZ_le (by omega) (by omega) (by omega) (by omega)] at g5
            have e9 : gdk P h s (k + 1) = gdk P h s k := by rw [gdk, if_neg (by omega)]
            have := nxt (some (.int (iZ (pl_wo P (bd s (pl_nx P s k)) : Nat)))) (by omega) (by omega)
            rw [e9] at this
            refine aa_go (aa_iincN6 (k := 1) iX10_greediest_78 rfl (by decide)) (aa_go (aa_goto iX10_greediest_81) ?_)
            exact this
          · skip
            rw [iZ_le (by omega) (by omega) (by omega) (by omega)] at g5
            have e9 : gdk P h s (k + 1) = ((pl_wo P (bd s (pl_nx P s k)) : Int), some k) := by rw [gdk, if_pos ⟨g4, by omega⟩]
            have := nxt (some (.int (iZ (pl_wo P (bd s (pl_nx P s k)) : Nat)))) (by omega) (by omega)
            rw [e9] at this
            refine aa_go (aa_iload7 iX10_greediest_70) (aa_go (aa_istore4 iX10_greediest_72 rfl (by decide)) (aa_go (aa_iload6 iX10_greediest_74) (aa_go (aa_istore5 iX10_greediest_76 rfl (by decide)) (aa_go (aa_iincN6 (k := 1) iX10_greediest_78 rfl (by decide)) (aa_go (aa_goto iX10_greediest_81) ?_)))))
            exact this
  have key : aa_V mX10_greediest 3 0 [some (.ref 38), some (.int (nI s)), some (.int (nI h)), none, none, none, none, none] [] σ (fun ra σ' => ra = some (.int (oI (gdk P h s (pl_n P)).2)) ∧ σ' = σ) := by
    refine aa_go (aa_aload0 iX10_greediest_0) (aa_go (aa_getR iX10_greediest_1 fl_X10_22 (sh_38 hW) rfl) (aa_go (aa_iload1 iX10_greediest_4) (aa_go (aa_iload2 iX10_greediest_5) (aa_go (aa_cVi iX10_greediest_6 (c_X6_takes hW hX (by omega)) (by decide) lc_X6_takes lk_X10_66 (sh_7 hW) rfl rfl (Nat.le_of_ble_eq_true rfl)) (aa_go (aa_istore3 iX10_greediest_9 rfl (by decide)) (aa_go (aa_iconst iX10_greediest_10 ki_m1) (aa_go (aa_istore4 iX10_greediest_11 rfl (by decide)) ?_)))))))
    refine aa_go (aa_iconst iX10_greediest_13 ki_m1) (aa_go (aa_istore5 iX10_greediest_14 rfl (by decide)) (aa_go (aa_iconst iX10_greediest_16 ki_0) (aa_go (aa_istore6 iX10_greediest_17 rfl (by decide)) ?_)))
    exact loop (pl_n P + 1) 0 none (by omega) (by omega)
  obtain ⟨ra, σ', ⟨rfl, rfl⟩, hS9⟩ := aa_S_of (avs := [.ref 38, .int (nI s), .int (nI h)]) (by decide) 5 [some (.ref 38), some (.int (nI s)), some (.int (nI h)), none, none, none, none, none] rfl rfl key
  exact hS9
end
