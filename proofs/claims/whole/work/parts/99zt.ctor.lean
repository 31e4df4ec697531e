/-! CONSTRUCTORS, walked (printed by wip/gen/ctor.py) -/
set_option maxRecDepth 20000 in
theorem n0_X7_init : aa_SX mX7_init 20 [.ref 1] (cI0, cL0, cS2, 2, 26) none (cI1, cL0, cS12, 7, 162) := by
  refine aa_E_of (by decide) 0 [some (.ref 1)] rfl rfl ?_
  refine aa_go (aa_aload0 iX7_init_0) ?_
  refine aa_go (aa_obj iX7_init_1 lo_X7_3 lo_1 lo_2 (by decide) (Nat.le_of_ble_eq_true rfl)) ?_
  refine aa_go (aa_aload0 iX7_init_4) ?_
  refine aa_go (aa_bipush iX7_init_5 kb_80) ?_
  refine aa_go ((aa_newa (t := 0) (N := 80) iX7_init_7 la_int (fun _ => rfl) (by decide) rfl (by decide) (by decide) (by decide)).to (st2 := [.ref 2, .ref 1]) (σ2 := (cI0, cL0, cS3, 3, 106)) rfl (nw_tup (k := 2) _ _ rfl (fun _ => rfl) (fun _ => rfl))) ?_
  refine aa_go ((aa_putR iX7_init_9 fl_X7_11 (fun _ => rfl) (show (cI0, cL0, cS3, 3, 106).2.2.1[1]? = some (.inr (.inl (7, [.null, .int 0, .null, .null, .null, .null, .int 0, .int 0, .int 0, .int 0, .int 0, .int 0]))) from rfl) (Nat.le_of_ble_eq_true rfl) (fun _ => ⟨rfl, rfl⟩)).to (st2 := []) (σ2 := (cI0, cL0, cS4, 3, 106)) rfl (rfl)) ?_
  refine aa_go (aa_aload0 iX7_init_12) ?_
  refine aa_go (aa_iconst iX7_init_13 ki_0) ?_
  refine aa_go ((aa_putI iX7_init_14 fl_X7_15 (fun h => nomatch h) (show (cI0, cL0, cS4, 3, 106).2.2.1[1]? = some (.inr (.inl (7, [.ref 2, .int 0, .null, .null, .null, .null, .int 0, .int 0, .int 0, .int 0, .int 0, .int 0]))) from rfl) rfl ⟨rfl, rfl⟩).to (st2 := []) (σ2 := (cI0, cL0, cS4, 3, 106)) rfl (sI_id rfl)) ?_
  refine aa_go (aa_aload0 iX7_init_17) ?_
  refine aa_go (aa_bipush iX7_init_18 kb_14) ?_
  refine aa_go ((aa_newa (t := 0) (N := 14) iX7_init_20 la_int (fun _ => rfl) (by decide) rfl (by decide) (by decide) (by decide)).to (st2 := [.ref 3, .ref 1]) (σ2 := (cI0, cL0, cS5, 4, 120)) rfl (nw_tup (k := 3) _ _ rfl (fun _ => rfl) (fun _ => rfl))) ?_
  refine aa_go ((aa_putR iX7_init_22 fl_X7_19 (fun _ => rfl) (show (cI0, cL0, cS5, 4, 120).2.2.1[1]? = some (.inr (.inl (7, [.ref 2, .int 0, .null, .null, .null, .null, .int 0, .int 0, .int 0, .int 0, .int 0, .int 0]))) from rfl) (Nat.le_of_ble_eq_true rfl) (fun _ => ⟨rfl, rfl⟩)).to (st2 := []) (σ2 := (cI0, cL0, cS6, 4, 120)) rfl (rfl)) ?_
  refine aa_go (aa_aload0 iX7_init_25) ?_
  refine aa_go (aa_bipush iX7_init_26 kb_14) ?_
  refine aa_go ((aa_newa (t := 0) (N := 14) iX7_init_28 la_int (fun _ => rfl) (by decide) rfl (by decide) (by decide) (by decide)).to (st2 := [.ref 4, .ref 1]) (σ2 := (cI0, cL0, cS7, 5, 134)) rfl (nw_tup (k := 4) _ _ rfl (fun _ => rfl) (fun _ => rfl))) ?_
  refine aa_go ((aa_putR iX7_init_30 fl_X7_22 (fun _ => rfl) (show (cI0, cL0, cS7, 5, 134).2.2.1[1]? = some (.inr (.inl (7, [.ref 2, .int 0, .ref 3, .null, .null, .null, .int 0, .int 0, .int 0, .int 0, .int 0, .int 0]))) from rfl) (Nat.le_of_ble_eq_true rfl) (fun _ => ⟨rfl, rfl⟩)).to (st2 := []) (σ2 := (cI0, cL0, cS8, 5, 134)) rfl (rfl)) ?_
  refine aa_go (aa_aload0 iX7_init_33) ?_
  refine aa_go (aa_bipush iX7_init_34 kb_14) ?_
  refine aa_go ((aa_newa (t := 0) (N := 14) iX7_init_36 la_int (fun _ => rfl) (by decide) rfl (by decide) (by decide) (by decide)).to (st2 := [.ref 5, .ref 1]) (σ2 := (cI0, cL0, cS9, 6, 148)) rfl (nw_tup (k := 5) _ _ rfl (fun _ => rfl) (fun _ => rfl))) ?_
  refine aa_go ((aa_putR iX7_init_38 fl_X7_25 (fun _ => rfl) (show (cI0, cL0, cS9, 6, 148).2.2.1[1]? = some (.inr (.inl (7, [.ref 2, .int 0, .ref 3, .ref 4, .null, .null, .int 0, .int 0, .int 0, .int 0, .int 0, .int 0]))) from rfl) (Nat.le_of_ble_eq_true rfl) (fun _ => ⟨rfl, rfl⟩)).to (st2 := []) (σ2 := (cI0, cL0, cS10, 6, 148)) rfl (rfl)) ?_
  refine aa_go (aa_aload0 iX7_init_41) ?_
  refine aa_go (aa_bipush iX7_init_42 kb_14) ?_
  refine aa_go ((aa_newa (t := 2) (N := 14) iX7_init_44 la_boolean (fun _ => rfl) (by decide) rfl (by decide) (by decide) (by decide)).to (st2 := [.ref 6, .ref 1]) (σ2 := (cI0, cL0, cS11, 7, 162)) rfl (nw_tup (k := 6) _ _ rfl (fun _ => rfl) (fun _ => rfl))) ?_
  refine aa_go ((aa_putR iX7_init_46 fl_X7_28 (fun _ => rfl) (show (cI0, cL0, cS11, 7, 162).2.2.1[1]? = some (.inr (.inl (7, [.ref 2, .int 0, .ref 3, .ref 4, .ref 5, .null, .int 0, .int 0, .int 0, .int 0, .int 0, .int 0]))) from rfl) (Nat.le_of_ble_eq_true rfl) (fun _ => ⟨rfl, rfl⟩)).to (st2 := []) (σ2 := (cI0, cL0, cS12, 7, 162)) rfl (rfl)) ?_
  refine aa_go (aa_aload0 iX7_init_49) ?_
  refine aa_go (aa_iconst iX7_init_50 ki_0) ?_
  refine aa_go ((aa_putI iX7_init_51 fl_X7_32 (fun h => nomatch h) (show (cI0, cL0, cS12, 7, 162).2.2.1[1]? = some (.inr (.inl (7, [.ref 2, .int 0, .ref 3, .ref 4, .ref 5, .ref 6, .int 0, .int 0, .int 0, .int 0, .int 0, .int 0]))) from rfl) rfl ⟨rfl, rfl⟩).to (st2 := []) (σ2 := (cI0, cL0, cS12, 7, 162)) rfl (sI_id rfl)) ?_
  refine aa_go (aa_aload0 iX7_init_54) ?_
  refine aa_go (aa_iconst iX7_init_55 ki_0) ?_
  refine aa_go ((aa_putI iX7_init_56 fl_X7_35 (fun h => nomatch h) (show (cI0, cL0, cS12, 7, 162).2.2.1[1]? = some (.inr (.inl (7, [.ref 2, .int 0, .ref 3, .ref 4, .ref 5, .ref 6, .int 0, .int 0, .int 0, .int 0, .int 0, .int 0]))) from rfl) rfl ⟨rfl, rfl⟩).to (st2 := []) (σ2 := (cI0, cL0, cS12, 7, 162)) rfl (sI_id rfl)) ?_
  refine aa_go (aa_aload0 iX7_init_59) ?_
  refine aa_go (aa_iconst iX7_init_60 ki_0) ?_
  refine aa_go ((aa_putI iX7_init_61 fl_X7_38 (fun h => nomatch h) (show (cI0, cL0, cS12, 7, 162).2.2.1[1]? = some (.inr (.inl (7, [.ref 2, .int 0, .ref 3, .ref 4, .ref 5, .ref 6, .int 0, .int 0, .int 0, .int 0, .int 0, .int 0]))) from rfl) rfl ⟨rfl, rfl⟩).to (st2 := []) (σ2 := (cI0, cL0, cS12, 7, 162)) rfl (sI_id rfl)) ?_
  refine aa_go (aa_aload0 iX7_init_64) ?_
  refine aa_go (aa_iconst iX7_init_65 ki_0) ?_
  refine aa_go ((aa_putI iX7_init_66 fl_X7_41 (fun h => nomatch h) (show (cI0, cL0, cS12, 7, 162).2.2.1[1]? = some (.inr (.inl (7, [.ref 2, .int 0, .ref 3, .ref 4, .ref 5, .ref 6, .int 0, .int 0, .int 0, .int 0, .int 0, .int 0]))) from rfl) rfl ⟨rfl, rfl⟩).to (st2 := []) (σ2 := (cI0, cL0, cS12, 7, 162)) rfl (sI_id rfl)) ?_
  refine aa_go (aa_aload0 iX7_init_69) ?_
  refine aa_go (aa_iconst iX7_init_70 ki_0) ?_
  refine aa_go ((aa_putI iX7_init_71 fl_X7_44 (fun h => nomatch h) (show (cI0, cL0, cS12, 7, 162).2.2.1[1]? = some (.inr (.inl (7, [.ref 2, .int 0, .ref 3, .ref 4, .ref 5, .ref 6, .int 0, .int 0, .int 0, .int 0, .int 0, .int 0]))) from rfl) rfl ⟨rfl, rfl⟩).to (st2 := []) (σ2 := (cI0, cL0, cS12, 7, 162)) rfl (sI_id rfl)) ?_
  refine aa_go (aa_aload0 iX7_init_74) ?_
  refine aa_go (aa_iconst iX7_init_75 ki_m1) ?_
  refine aa_go ((aa_putI iX7_init_76 fl_X7_47 (fun h => nomatch h) (show (cI0, cL0, cS12, 7, 162).2.2.1[1]? = some (.inr (.inl (7, [.ref 2, .int 0, .ref 3, .ref 4, .ref 5, .ref 6, .int 0, .int 0, .int 0, .int 0, .int 0, .int 0]))) from rfl) rfl ⟨rfl, rfl⟩).to (st2 := []) (σ2 := (cI1, cL0, cS12, 7, 162)) rfl (rfl)) ?_
  refine aa_vret iX7_init_79 rfl ?_
  exact ⟨rfl, rfl⟩
set_option maxRecDepth 20000 in
theorem n1_X6_init : aa_SX mX6_init 20 [.ref 7] (cI1, cL0, cS14, 8, 178) none (cI1, cL0, cS38, 20, 556) := by
  refine aa_E_of (by decide) 0 [some (.ref 7)] rfl rfl ?_
  refine aa_go (aa_aload0 iX6_init_0) ?_
  refine aa_go (aa_obj iX6_init_1 lo_X6_5 lo_1 lo_2 (by decide) (Nat.le_of_ble_eq_true rfl)) ?_
  refine aa_go (aa_aload0 iX6_init_4) ?_
  refine aa_go (aa_bipush iX6_init_5 kb_14) ?_
  refine aa_go ((aa_newa (t := 0) (N := 14) iX6_init_7 la_int (fun _ => rfl) (by decide) rfl (by decide) (by decide) (by decide)).to (st2 := [.ref 8, .ref 7]) (σ2 := (cI1, cL0, cS15, 9, 192)) rfl (nw_tup (k := 8) _ _ rfl (fun _ => rfl) (fun _ => rfl))) ?_
  refine aa_go ((aa_putR iX6_init_9 fl_X6_11 (fun _ => rfl) (show (cI1, cL0, cS15, 9, 192).2.2.1[7]? = some (.inr (.inl (6, [.null, .null, .null, .null, .null, .null, .null, .null, .null, .null, .null, .null, .int 0, .int 0, .int 0, .int 0]))) from rfl) (Nat.le_of_ble_eq_true rfl) (fun _ => ⟨rfl, rfl⟩)).to (st2 := []) (σ2 := (cI1, cL0, cS16, 9, 192)) rfl (rfl)) ?_
  refine aa_go (aa_aload0 iX6_init_12) ?_
  refine aa_go (aa_bipush iX6_init_13 kb_14) ?_
  refine aa_go ((aa_newa (t := 0) (N := 14) iX6_init_15 la_int (fun _ => rfl) (by decide) rfl (by decide) (by decide) (by decide)).to (st2 := [.ref 9, .ref 7]) (σ2 := (cI1, cL0, cS17, 10, 206)) rfl (nw_tup (k := 9) _ _ rfl (fun _ => rfl) (fun _ => rfl))) ?_
  refine aa_go ((aa_putR iX6_init_17 fl_X6_15 (fun _ => rfl) (show (cI1, cL0, cS17, 10, 206).2.2.1[7]? = some (.inr (.inl (6, [.ref 8, .null, .null, .null, .null, .null, .null, .null, .null, .null, .null, .null, .int 0, .int 0, .int 0, .int 0]))) from rfl) (Nat.le_of_ble_eq_true rfl) (fun _ => ⟨rfl, rfl⟩)).to (st2 := []) (σ2 := (cI1, cL0, cS18, 10, 206)) rfl (rfl)) ?_
  refine aa_go (aa_aload0 iX6_init_20) ?_
  refine aa_go (aa_bipush iX6_init_21 kb_14) ?_
  refine aa_go ((aa_newa (t := 0) (N := 14) iX6_init_23 la_int (fun _ => rfl) (by decide) rfl (by decide) (by decide) (by decide)).to (st2 := [.ref 10, .ref 7]) (σ2 := (cI1, cL0, cS19, 11, 220)) rfl (nw_tup (k := 10) _ _ rfl (fun _ => rfl) (fun _ => rfl))) ?_
  refine aa_go ((aa_putR iX6_init_25 fl_X6_18 (fun _ => rfl) (show (cI1, cL0, cS19, 11, 220).2.2.1[7]? = some (.inr (.inl (6, [.ref 8, .ref 9, .null, .null, .null, .null, .null, .null, .null, .null, .null, .null, .int 0, .int 0, .int 0, .int 0]))) from rfl) (Nat.le_of_ble_eq_true rfl) (fun _ => ⟨rfl, rfl⟩)).to (st2 := []) (σ2 := (cI1, cL0, cS20, 11, 220)) rfl (rfl)) ?_
  refine aa_go (aa_aload0 iX6_init_28) ?_
  refine aa_go (aa_bipush iX6_init_29 kb_14) ?_
  refine aa_go ((aa_newa (t := 0) (N := 14) iX6_init_31 la_int (fun _ => rfl) (by decide) rfl (by decide) (by decide) (by decide)).to (st2 := [.ref 11, .ref 7]) (σ2 := (cI1, cL0, cS21, 12, 234)) rfl (nw_tup (k := 11) _ _ rfl (fun _ => rfl) (fun _ => rfl))) ?_
  refine aa_go ((aa_putR iX6_init_33 fl_X6_21 (fun _ => rfl) (show (cI1, cL0, cS21, 12, 234).2.2.1[7]? = some (.inr (.inl (6, [.ref 8, .ref 9, .ref 10, .null, .null, .null, .null, .null, .null, .null, .null, .null, .int 0, .int 0, .int 0, .int 0]))) from rfl) (Nat.le_of_ble_eq_true rfl) (fun _ => ⟨rfl, rfl⟩)).to (st2 := []) (σ2 := (cI1, cL0, cS22, 12, 234)) rfl (rfl)) ?_
  refine aa_go (aa_aload0 iX6_init_36) ?_
  refine aa_go (aa_bipush iX6_init_37 kb_14) ?_
  refine aa_go ((aa_newa (t := 0) (N := 14) iX6_init_39 la_int (fun _ => rfl) (by decide) rfl (by decide) (by decide) (by decide)).to (st2 := [.ref 12, .ref 7]) (σ2 := (cI1, cL0, cS23, 13, 248)) rfl (nw_tup (k := 12) _ _ rfl (fun _ => rfl) (fun _ => rfl))) ?_
  refine aa_go ((aa_putR iX6_init_41 fl_X6_24 (fun _ => rfl) (show (cI1, cL0, cS23, 13, 248).2.2.1[7]? = some (.inr (.inl (6, [.ref 8, .ref 9, .ref 10, .ref 11, .null, .null, .null, .null, .null, .null, .null, .null, .int 0, .int 0, .int 0, .int 0]))) from rfl) (Nat.le_of_ble_eq_true rfl) (fun _ => ⟨rfl, rfl⟩)).to (st2 := []) (σ2 := (cI1, cL0, cS24, 13, 248)) rfl (rfl)) ?_
  refine aa_go (aa_aload0 iX6_init_44) ?_
  refine aa_go (aa_iconst iX6_init_45 ki_2) ?_
  refine aa_go ((aa_newa (t := 0) (N := 2) iX6_init_46 la_int (fun _ => rfl) (by decide) rfl (by decide) (by decide) (by decide)).to (st2 := [.ref 13, .ref 7]) (σ2 := (cI1, cL0, cS25, 14, 250)) rfl (nw_tup (k := 13) _ _ rfl (fun _ => rfl) (fun _ => rfl))) ?_
  refine aa_go ((aa_putR iX6_init_48 fl_X6_27 (fun _ => rfl) (show (cI1, cL0, cS25, 14, 250).2.2.1[7]? = some (.inr (.inl (6, [.ref 8, .ref 9, .ref 10, .ref 11, .ref 12, .null, .null, .null, .null, .null, .null, .null, .int 0, .int 0, .int 0, .int 0]))) from rfl) (Nat.le_of_ble_eq_true rfl) (fun _ => ⟨rfl, rfl⟩)).to (st2 := []) (σ2 := (cI1, cL0, cS26, 14, 250)) rfl (rfl)) ?_
  refine aa_go (aa_aload0 iX6_init_51) ?_
  refine aa_go (aa_iconst iX6_init_52 ki_4) ?_
  refine aa_go ((aa_newa (t := 0) (N := 4) iX6_init_53 la_int (fun _ => rfl) (by decide) rfl (by decide) (by decide) (by decide)).to (st2 := [.ref 14, .ref 7]) (σ2 := (cI1, cL0, cS27, 15, 254)) rfl (nw_tup (k := 14) _ _ rfl (fun _ => rfl) (fun _ => rfl))) ?_
  refine aa_go ((aa_putR iX6_init_55 fl_X6_30 (fun _ => rfl) (show (cI1, cL0, cS27, 15, 254).2.2.1[7]? = some (.inr (.inl (6, [.ref 8, .ref 9, .ref 10, .ref 11, .ref 12, .ref 13, .null, .null, .null, .null, .null, .null, .int 0, .int 0, .int 0, .int 0]))) from rfl) (Nat.le_of_ble_eq_true rfl) (fun _ => ⟨rfl, rfl⟩)).to (st2 := []) (σ2 := (cI1, cL0, cS28, 15, 254)) rfl (rfl)) ?_
  refine aa_go (aa_aload0 iX6_init_58) ?_
  refine aa_go (aa_bipush iX6_init_59 kb_16) ?_
  refine aa_go ((aa_newa (t := 0) (N := 16) iX6_init_61 la_int (fun _ => rfl) (by decide) rfl (by decide) (by decide) (by decide)).to (st2 := [.ref 15, .ref 7]) (σ2 := (cI1, cL0, cS29, 16, 270)) rfl (nw_tup (k := 15) _ _ rfl (fun _ => rfl) (fun _ => rfl))) ?_
  refine aa_go ((aa_putR iX6_init_63 fl_X6_33 (fun _ => rfl) (show (cI1, cL0, cS29, 16, 270).2.2.1[7]? = some (.inr (.inl (6, [.ref 8, .ref 9, .ref 10, .ref 11, .ref 12, .ref 13, .ref 14, .null, .null, .null, .null, .null, .int 0, .int 0, .int 0, .int 0]))) from rfl) (Nat.le_of_ble_eq_true rfl) (fun _ => ⟨rfl, rfl⟩)).to (st2 := []) (σ2 := (cI1, cL0, cS30, 16, 270)) rfl (rfl)) ?_
  refine aa_go (aa_aload0 iX6_init_66) ?_
  refine aa_go (aa_bipush iX6_init_67 kb_16) ?_
  refine aa_go ((aa_newa (t := 0) (N := 16) iX6_init_69 la_int (fun _ => rfl) (by decide) rfl (by decide) (by decide) (by decide)).to (st2 := [.ref 16, .ref 7]) (σ2 := (cI1, cL0, cS31, 17, 286)) rfl (nw_tup (k := 16) _ _ rfl (fun _ => rfl) (fun _ => rfl))) ?_
  refine aa_go ((aa_putR iX6_init_71 fl_X6_36 (fun _ => rfl) (show (cI1, cL0, cS31, 17, 286).2.2.1[7]? = some (.inr (.inl (6, [.ref 8, .ref 9, .ref 10, .ref 11, .ref 12, .ref 13, .ref 14, .ref 15, .null, .null, .null, .null, .int 0, .int 0, .int 0, .int 0]))) from rfl) (Nat.le_of_ble_eq_true rfl) (fun _ => ⟨rfl, rfl⟩)).to (st2 := []) (σ2 := (cI1, cL0, cS32, 17, 286)) rfl (rfl)) ?_
  refine aa_go (aa_aload0 iX6_init_74) ?_
  refine aa_go (aa_sipush iX6_init_75 ks_128) ?_
  refine aa_go ((aa_newa (t := 0) (N := 128) iX6_init_78 la_int (fun _ => rfl) (by decide) rfl (by decide) (by decide) (by decide)).to (st2 := [.ref 17, .ref 7]) (σ2 := (cI1, cL0, cS33, 18, 414)) rfl (nw_tup (k := 17) _ _ rfl (fun _ => rfl) (fun _ => rfl))) ?_
  refine aa_go ((aa_putR iX6_init_80 fl_X6_39 (fun _ => rfl) (show (cI1, cL0, cS33, 18, 414).2.2.1[7]? = some (.inr (.inl (6, [.ref 8, .ref 9, .ref 10, .ref 11, .ref 12, .ref 13, .ref 14, .ref 15, .ref 16, .null, .null, .null, .int 0, .int 0, .int 0, .int 0]))) from rfl) (Nat.le_of_ble_eq_true rfl) (fun _ => ⟨rfl, rfl⟩)).to (st2 := []) (σ2 := (cI1, cL0, cS34, 18, 414)) rfl (rfl)) ?_
  refine aa_go (aa_aload0 iX6_init_83) ?_
  refine aa_go (aa_sipush iX6_init_84 ks_128) ?_
  refine aa_go ((aa_newa (t := 0) (N := 128) iX6_init_87 la_int (fun _ => rfl) (by decide) rfl (by decide) (by decide) (by decide)).to (st2 := [.ref 18, .ref 7]) (σ2 := (cI1, cL0, cS35, 19, 542)) rfl (nw_tup (k := 18) _ _ rfl (fun _ => rfl) (fun _ => rfl))) ?_
  refine aa_go ((aa_putR iX6_init_89 fl_X6_42 (fun _ => rfl) (show (cI1, cL0, cS35, 19, 542).2.2.1[7]? = some (.inr (.inl (6, [.ref 8, .ref 9, .ref 10, .ref 11, .ref 12, .ref 13, .ref 14, .ref 15, .ref 16, .ref 17, .null, .null, .int 0, .int 0, .int 0, .int 0]))) from rfl) (Nat.le_of_ble_eq_true rfl) (fun _ => ⟨rfl, rfl⟩)).to (st2 := []) (σ2 := (cI1, cL0, cS36, 19, 542)) rfl (rfl)) ?_
  refine aa_go (aa_aload0 iX6_init_92) ?_
  refine aa_go (aa_bipush iX6_init_93 kb_14) ?_
  refine aa_go ((aa_newa (t := 0) (N := 14) iX6_init_95 la_int (fun _ => rfl) (by decide) rfl (by decide) (by decide) (by decide)).to (st2 := [.ref 19, .ref 7]) (σ2 := (cI1, cL0, cS37, 20, 556)) rfl (nw_tup (k := 19) _ _ rfl (fun _ => rfl) (fun _ => rfl))) ?_
  refine aa_go ((aa_putR iX6_init_97 fl_X6_45 (fun _ => rfl) (show (cI1, cL0, cS37, 20, 556).2.2.1[7]? = some (.inr (.inl (6, [.ref 8, .ref 9, .ref 10, .ref 11, .ref 12, .ref 13, .ref 14, .ref 15, .ref 16, .ref 17, .ref 18, .null, .int 0, .int 0, .int 0, .int 0]))) from rfl) (Nat.le_of_ble_eq_true rfl) (fun _ => ⟨rfl, rfl⟩)).to (st2 := []) (σ2 := (cI1, cL0, cS38, 20, 556)) rfl (rfl)) ?_
  refine aa_go (aa_aload0 iX6_init_100) ?_
  refine aa_go (aa_iconst iX6_init_101 ki_0) ?_
  refine aa_go ((aa_putI iX6_init_102 fl_X6_48 (fun h => nomatch h) (show (cI1, cL0, cS38, 20, 556).2.2.1[7]? = some (.inr (.inl (6, [.ref 8, .ref 9, .ref 10, .ref 11, .ref 12, .ref 13, .ref 14, .ref 15, .ref 16, .ref 17, .ref 18, .ref 19, .int 0, .int 0, .int 0, .int 0]))) from rfl) rfl ⟨rfl, rfl⟩).to (st2 := []) (σ2 := (cI1, cL0, cS38, 20, 556)) rfl (sI_id rfl)) ?_
  refine aa_go (aa_aload0 iX6_init_105) ?_
  refine aa_go (aa_iconst iX6_init_106 ki_0) ?_
  refine aa_go ((aa_putI iX6_init_107 fl_X6_52 (fun h => nomatch h) (show (cI1, cL0, cS38, 20, 556).2.2.1[7]? = some (.inr (.inl (6, [.ref 8, .ref 9, .ref 10, .ref 11, .ref 12, .ref 13, .ref 14, .ref 15, .ref 16, .ref 17, .ref 18, .ref 19, .int 0, .int 0, .int 0, .int 0]))) from rfl) rfl ⟨rfl, rfl⟩).to (st2 := []) (σ2 := (cI1, cL0, cS38, 20, 556)) rfl (sI_id rfl)) ?_
  refine aa_go (aa_aload0 iX6_init_110) ?_
  refine aa_go (aa_iconst iX6_init_111 ki_0) ?_
  refine aa_go ((aa_putI iX6_init_112 fl_X6_55 (fun h => nomatch h) (show (cI1, cL0, cS38, 20, 556).2.2.1[7]? = some (.inr (.inl (6, [.ref 8, .ref 9, .ref 10, .ref 11, .ref 12, .ref 13, .ref 14, .ref 15, .ref 16, .ref 17, .ref 18, .ref 19, .int 0, .int 0, .int 0, .int 0]))) from rfl) rfl ⟨rfl, rfl⟩).to (st2 := []) (σ2 := (cI1, cL0, cS38, 20, 556)) rfl (sI_id rfl)) ?_
  refine aa_go (aa_aload0 iX6_init_115) ?_
  refine aa_go (aa_iconst iX6_init_116 ki_0) ?_
  refine aa_go ((aa_putI iX6_init_117 fl_X6_58 (fun h => nomatch h) (show (cI1, cL0, cS38, 20, 556).2.2.1[7]? = some (.inr (.inl (6, [.ref 8, .ref 9, .ref 10, .ref 11, .ref 12, .ref 13, .ref 14, .ref 15, .ref 16, .ref 17, .ref 18, .ref 19, .int 0, .int 0, .int 0, .int 0]))) from rfl) rfl ⟨rfl, rfl⟩).to (st2 := []) (σ2 := (cI1, cL0, cS38, 20, 556)) rfl (sI_id rfl)) ?_
  refine aa_vret iX6_init_120 rfl ?_
  exact ⟨rfl, rfl⟩
set_option maxRecDepth 20000 in
theorem n2_X2_init : aa_SX mX2_init 20 [.ref 20, .ref 7] (cI1, cL0, cS40, 21, 561) none (cI1, cL0, cS43, 22, 579) := by
  refine aa_E_of (by decide) 0 [some (.ref 20), some (.ref 7)] rfl rfl ?_
  refine aa_go (aa_aload0 iX2_init_0) ?_
  refine aa_go (aa_obj iX2_init_1 lo_X2_3 lo_1 lo_2 (by decide) (Nat.le_of_ble_eq_true rfl)) ?_
  refine aa_go (aa_aload0 iX2_init_4) ?_
  refine aa_go (aa_bipush iX2_init_5 kb_18) ?_
  refine aa_go ((aa_newa (t := 0) (N := 18) iX2_init_7 la_int (fun _ => rfl) (by decide) rfl (by decide) (by decide) (by decide)).to (st2 := [.ref 21, .ref 20]) (σ2 := (cI1, cL0, cS41, 22, 579)) rfl (nw_tup (k := 21) _ _ rfl (fun _ => rfl) (fun _ => rfl))) ?_
  refine aa_go ((aa_putR iX2_init_9 fl_X2_9 (fun _ => rfl) (show (cI1, cL0, cS41, 22, 579).2.2.1[20]? = some (.inr (.inl (2, [.null, .null, .int 0, .int 0, .int 0]))) from rfl) (Nat.le_of_ble_eq_true rfl) (fun _ => ⟨rfl, rfl⟩)).to (st2 := []) (σ2 := (cI1, cL0, cS42, 22, 579)) rfl (rfl)) ?_
  refine aa_go (aa_aload0 iX2_init_12) ?_
  refine aa_go (aa_iconst iX2_init_13 ki_0) ?_
  refine aa_go ((aa_putI iX2_init_14 fl_X2_15 (fun h => nomatch h) (show (cI1, cL0, cS42, 22, 579).2.2.1[20]? = some (.inr (.inl (2, [.null, .ref 21, .int 0, .int 0, .int 0]))) from rfl) rfl ⟨rfl, rfl⟩).to (st2 := []) (σ2 := (cI1, cL0, cS42, 22, 579)) rfl (sI_id rfl)) ?_
  refine aa_go (aa_aload0 iX2_init_17) ?_
  refine aa_go (aa_iconst iX2_init_18 ki_0) ?_
  refine aa_go ((aa_putI iX2_init_19 fl_X2_19 (fun h => nomatch h) (show (cI1, cL0, cS42, 22, 579).2.2.1[20]? = some (.inr (.inl (2, [.null, .ref 21, .int 0, .int 0, .int 0]))) from rfl) rfl ⟨rfl, rfl⟩).to (st2 := []) (σ2 := (cI1, cL0, cS42, 22, 579)) rfl (sI_id rfl)) ?_
  refine aa_go (aa_aload0 iX2_init_22) ?_
  refine aa_go (aa_iconst iX2_init_23 ki_0) ?_
  refine aa_go ((aa_putI iX2_init_24 fl_X2_22 (fun h => nomatch h) (show (cI1, cL0, cS42, 22, 579).2.2.1[20]? = some (.inr (.inl (2, [.null, .ref 21, .int 0, .int 0, .int 0]))) from rfl) rfl ⟨rfl, rfl⟩).to (st2 := []) (σ2 := (cI1, cL0, cS42, 22, 579)) rfl (sI_id rfl)) ?_
  refine aa_go (aa_aload0 iX2_init_27) ?_
  refine aa_go (aa_aload1 iX2_init_28) ?_
  refine aa_go ((aa_putR iX2_init_29 fl_X2_25 (fun _ => rfl) (show (cI1, cL0, cS42, 22, 579).2.2.1[20]? = some (.inr (.inl (2, [.null, .ref 21, .int 0, .int 0, .int 0]))) from rfl) (Nat.le_of_ble_eq_true rfl) (fun _ => ⟨rfl, rfl⟩)).to (st2 := []) (σ2 := (cI1, cL0, cS43, 22, 579)) rfl (rfl)) ?_
  refine aa_vret iX2_init_32 rfl ?_
  exact ⟨rfl, rfl⟩
set_option maxRecDepth 20000 in
theorem n3_X4_init : aa_SX mX4_init 20 [.ref 25] (cI1, cL0, cS50, 26, 593) none (cI2, cL0, cS52, 27, 594) := by
  refine aa_E_of (by decide) 0 [some (.ref 25)] rfl rfl ?_
  refine aa_go (aa_aload0 iX4_init_0) ?_
  refine aa_go (aa_obj iX4_init_1 lo_X4_3 lo_1 lo_2 (by decide) (Nat.le_of_ble_eq_true rfl)) ?_
  refine aa_go (aa_aload0 iX4_init_4) ?_
  refine aa_go (aa_iconst iX4_init_5 ki_1) ?_
  refine aa_go ((aa_newa (t := 1) (N := 1) iX4_init_6 la_long (fun _ => rfl) (by decide) rfl (by decide) (by decide) (by decide)).to (st2 := [.ref 26, .ref 25]) (σ2 := (cI1, cL0, cS51, 27, 594)) rfl (nw_tup (k := 26) _ _ rfl (fun _ => rfl) (fun _ => rfl))) ?_
  refine aa_go ((aa_putR iX4_init_8 fl_X4_9 (fun h => nomatch h) (show (cI1, cL0, cS51, 27, 594).2.2.1[25]? = some (.inr (.inl (4, [.null, .int 0]))) from rfl) (Nat.le_of_ble_eq_true rfl) (fun _ => ⟨rfl, rfl⟩)).to (st2 := []) (σ2 := (cI1, cL0, cS52, 27, 594)) rfl (rfl)) ?_
  refine aa_go (aa_aload0 iX4_init_11) ?_
  refine aa_go (aa_iconst iX4_init_12 ki_m1) ?_
  refine aa_go ((aa_putI iX4_init_13 fl_X4_15 (fun h => nomatch h) (show (cI1, cL0, cS52, 27, 594).2.2.1[25]? = some (.inr (.inl (4, [.ref 26, .int 0]))) from rfl) rfl ⟨rfl, rfl⟩).to (st2 := []) (σ2 := (cI2, cL0, cS52, 27, 594)) rfl (rfl)) ?_
  refine aa_vret iX4_init_16 rfl ?_
  exact ⟨rfl, rfl⟩
set_option maxRecDepth 20000 in
theorem n4_X4_init : aa_SX mX4_init 20 [.ref 27] (cI2, cL0, cS54, 28, 596) none (cI3, cL0, cS56, 29, 597) := by
  refine aa_E_of (by decide) 0 [some (.ref 27)] rfl rfl ?_
  refine aa_go (aa_aload0 iX4_init_0) ?_
  refine aa_go (aa_obj iX4_init_1 lo_X4_3 lo_1 lo_2 (by decide) (Nat.le_of_ble_eq_true rfl)) ?_
  refine aa_go (aa_aload0 iX4_init_4) ?_
  refine aa_go (aa_iconst iX4_init_5 ki_1) ?_
  refine aa_go ((aa_newa (t := 1) (N := 1) iX4_init_6 la_long (fun _ => rfl) (by decide) rfl (by decide) (by decide) (by decide)).to (st2 := [.ref 28, .ref 27]) (σ2 := (cI2, cL0, cS55, 29, 597)) rfl (nw_tup (k := 28) _ _ rfl (fun _ => rfl) (fun _ => rfl))) ?_
  refine aa_go ((aa_putR iX4_init_8 fl_X4_9 (fun h => nomatch h) (show (cI2, cL0, cS55, 29, 597).2.2.1[27]? = some (.inr (.inl (4, [.null, .int 0]))) from rfl) (Nat.le_of_ble_eq_true rfl) (fun _ => ⟨rfl, rfl⟩)).to (st2 := []) (σ2 := (cI2, cL0, cS56, 29, 597)) rfl (rfl)) ?_
  refine aa_go (aa_aload0 iX4_init_11) ?_
  refine aa_go (aa_iconst iX4_init_12 ki_m1) ?_
  refine aa_go ((aa_putI iX4_init_13 fl_X4_15 (fun h => nomatch h) (show (cI2, cL0, cS56, 29, 597).2.2.1[27]? = some (.inr (.inl (4, [.ref 28, .int 0]))) from rfl) rfl ⟨rfl, rfl⟩).to (st2 := []) (σ2 := (cI3, cL0, cS56, 29, 597)) rfl (rfl)) ?_
  refine aa_vret iX4_init_16 rfl ?_
  exact ⟨rfl, rfl⟩
set_option maxRecDepth 20000 in
theorem n5_X9_init : aa_SX mX9_init 30 [.ref 24, .ref 7] (cI1, cL0, cS49, 25, 591) none (cI3, cL0, cS58, 29, 597) := by
  refine aa_E_of (by decide) 0 [some (.ref 24), some (.ref 7)] rfl rfl ?_
  refine aa_go (aa_aload0 iX9_init_0) ?_
  refine aa_go (aa_obj iX9_init_1 lo_X9_3 lo_1 lo_2 (by decide) (Nat.le_of_ble_eq_true rfl)) ?_
  refine aa_go (aa_aload0 iX9_init_4) ?_
  refine aa_go ((aa_new iX9_init_5 nl_X9_9).to (st2 := [.ref 25, .ref 24]) (σ2 := (cI1, cL0, cS50, 26, 593)) rfl (nw_tup (k := 25) _ _ rfl (fun _ => rfl) (fun _ => rfl))) ?_
  refine aa_go (aa_dup iX9_init_8 rfl) ?_
  refine aa_go (aa_callN iX9_init_9 n3_X4_init (by decide) lc_X4_init lk_X9_11 rfl (Nat.le_of_ble_eq_true rfl)) ?_
  refine aa_go ((aa_putR iX9_init_12 fl_X9_12 (fun _ => rfl) (show (cI2, cL0, cS52, 27, 594).2.2.1[24]? = some (.inr (.inl (9, [.null, .null, .null, .int 0, .int 0, .int 0]))) from rfl) (Nat.le_of_ble_eq_true rfl) (fun _ => ⟨rfl, rfl⟩)).to (st2 := []) (σ2 := (cI2, cL0, cS53, 27, 594)) rfl (rfl)) ?_
  refine aa_go (aa_aload0 iX9_init_15) ?_
  refine aa_go ((aa_new iX9_init_16 nl_X9_9).to (st2 := [.ref 27, .ref 24]) (σ2 := (cI2, cL0, cS54, 28, 596)) rfl (nw_tup (k := 27) _ _ rfl (fun _ => rfl) (fun _ => rfl))) ?_
  refine aa_go (aa_dup iX9_init_19 rfl) ?_
  refine aa_go (aa_callN iX9_init_20 n4_X4_init (by decide) lc_X4_init lk_X9_11 rfl (Nat.le_of_ble_eq_true rfl)) ?_
  refine aa_go ((aa_putR iX9_init_23 fl_X9_18 (fun _ => rfl) (show (cI3, cL0, cS56, 29, 597).2.2.1[24]? = some (.inr (.inl (9, [.null, .ref 25, .null, .int 0, .int 0, .int 0]))) from rfl) (Nat.le_of_ble_eq_true rfl) (fun _ => ⟨rfl, rfl⟩)).to (st2 := []) (σ2 := (cI3, cL0, cS57, 29, 597)) rfl (rfl)) ?_
  refine aa_go (aa_aload0 iX9_init_26) ?_
  refine aa_go (aa_iconst iX9_init_27 ki_0) ?_
  refine aa_go ((aa_putI iX9_init_28 fl_X9_21 (fun h => nomatch h) (show (cI3, cL0, cS57, 29, 597).2.2.1[24]? = some (.inr (.inl (9, [.null, .ref 25, .ref 27, .int 0, .int 0, .int 0]))) from rfl) rfl ⟨rfl, rfl⟩).to (st2 := []) (σ2 := (cI3, cL0, cS57, 29, 597)) rfl (sI_id rfl)) ?_
  refine aa_go (aa_aload0 iX9_init_31) ?_
  refine aa_go (aa_iconst iX9_init_32 ki_0) ?_
  refine aa_go ((aa_putI iX9_init_33 fl_X9_25 (fun h => nomatch h) (show (cI3, cL0, cS57, 29, 597).2.2.1[24]? = some (.inr (.inl (9, [.null, .ref 25, .ref 27, .int 0, .int 0, .int 0]))) from rfl) rfl ⟨rfl, rfl⟩).to (st2 := []) (σ2 := (cI3, cL0, cS57, 29, 597)) rfl (sI_id rfl)) ?_
  refine aa_go (aa_aload0 iX9_init_36) ?_
  refine aa_go (aa_iconst iX9_init_37 ki_0) ?_
  refine aa_go ((aa_putI iX9_init_38 fl_X9_28 (fun h => nomatch h) (show (cI3, cL0, cS57, 29, 597).2.2.1[24]? = some (.inr (.inl (9, [.null, .ref 25, .ref 27, .int 0, .int 0, .int 0]))) from rfl) rfl ⟨rfl, rfl⟩).to (st2 := []) (σ2 := (cI3, cL0, cS57, 29, 597)) rfl (sI_id rfl)) ?_
  refine aa_go (aa_aload0 iX9_init_41) ?_
  refine aa_go (aa_aload1 iX9_init_42) ?_
  refine aa_go ((aa_putR iX9_init_43 fl_X9_31 (fun _ => rfl) (show (cI3, cL0, cS57, 29, 597).2.2.1[24]? = some (.inr (.inl (9, [.null, .ref 25, .ref 27, .int 0, .int 0, .int 0]))) from rfl) (Nat.le_of_ble_eq_true rfl) (fun _ => ⟨rfl, rfl⟩)).to (st2 := []) (σ2 := (cI3, cL0, cS58, 29, 597)) rfl (rfl)) ?_
  refine aa_vret iX9_init_46 rfl ?_
  exact ⟨rfl, rfl⟩
set_option maxRecDepth 20000 in
theorem n6_X4_init : aa_SX mX4_init 20 [.ref 30] (cI3, cL0, cS61, 31, 605) none (cI4, cL0, cS63, 32, 606) := by
  refine aa_E_of (by decide) 0 [some (.ref 30)] rfl rfl ?_
  refine aa_go (aa_aload0 iX4_init_0) ?_
  refine aa_go (aa_obj iX4_init_1 lo_X4_3 lo_1 lo_2 (by decide) (Nat.le_of_ble_eq_true rfl)) ?_
  refine aa_go (aa_aload0 iX4_init_4) ?_
  refine aa_go (aa_iconst iX4_init_5 ki_1) ?_
  refine aa_go ((aa_newa (t := 1) (N := 1) iX4_init_6 la_long (fun _ => rfl) (by decide) rfl (by decide) (by decide) (by decide)).to (st2 := [.ref 31, .ref 30]) (σ2 := (cI3, cL0, cS62, 32, 606)) rfl (nw_tup (k := 31) _ _ rfl (fun _ => rfl) (fun _ => rfl))) ?_
  refine aa_go ((aa_putR iX4_init_8 fl_X4_9 (fun h => nomatch h) (show (cI3, cL0, cS62, 32, 606).2.2.1[30]? = some (.inr (.inl (4, [.null, .int 0]))) from rfl) (Nat.le_of_ble_eq_true rfl) (fun _ => ⟨rfl, rfl⟩)).to (st2 := []) (σ2 := (cI3, cL0, cS63, 32, 606)) rfl (rfl)) ?_
  refine aa_go (aa_aload0 iX4_init_11) ?_
  refine aa_go (aa_iconst iX4_init_12 ki_m1) ?_
  refine aa_go ((aa_putI iX4_init_13 fl_X4_15 (fun h => nomatch h) (show (cI3, cL0, cS63, 32, 606).2.2.1[30]? = some (.inr (.inl (4, [.ref 31, .int 0]))) from rfl) rfl ⟨rfl, rfl⟩).to (st2 := []) (σ2 := (cI4, cL0, cS63, 32, 606)) rfl (rfl)) ?_
  refine aa_vret iX4_init_16 rfl ?_
  exact ⟨rfl, rfl⟩
set_option maxRecDepth 20000 in
theorem n7_X3_init : aa_SX mX3_init 30 [.ref 29, .ref 7] (cI3, cL0, cS60, 30, 603) none (cI4, cL0, cS73, 36, 638) := by
  refine aa_E_of (by decide) 0 [some (.ref 29), some (.ref 7)] rfl rfl ?_
  refine aa_go (aa_aload0 iX3_init_0) ?_
  refine aa_go (aa_obj iX3_init_1 lo_X3_3 lo_1 lo_2 (by decide) (Nat.le_of_ble_eq_true rfl)) ?_
  refine aa_go (aa_aload0 iX3_init_4) ?_
  refine aa_go ((aa_new iX3_init_5 nl_X3_9).to (st2 := [.ref 30, .ref 29]) (σ2 := (cI3, cL0, cS61, 31, 605)) rfl (nw_tup (k := 30) _ _ rfl (fun _ => rfl) (fun _ => rfl))) ?_
  refine aa_go (aa_dup iX3_init_8 rfl) ?_
  refine aa_go (aa_callN iX3_init_9 n6_X4_init (by decide) lc_X4_init lk_X3_11 rfl (Nat.le_of_ble_eq_true rfl)) ?_
  refine aa_go ((aa_putR iX3_init_12 fl_X3_12 (fun _ => rfl) (show (cI4, cL0, cS63, 32, 606).2.2.1[29]? = some (.inr (.inl (3, [.null, .null, .null, .null, .null, .null]))) from rfl) (Nat.le_of_ble_eq_true rfl) (fun _ => ⟨rfl, rfl⟩)).to (st2 := []) (σ2 := (cI4, cL0, cS64, 32, 606)) rfl (rfl)) ?_
  refine aa_go (aa_aload0 iX3_init_15) ?_
  refine aa_go (aa_bipush iX3_init_16 kb_14) ?_
  refine aa_go ((aa_newa (t := 0) (N := 14) iX3_init_18 la_int (fun _ => rfl) (by decide) rfl (by decide) (by decide) (by decide)).to (st2 := [.ref 32, .ref 29]) (σ2 := (cI4, cL0, cS65, 33, 620)) rfl (nw_tup (k := 32) _ _ rfl (fun _ => rfl) (fun _ => rfl))) ?_
  refine aa_go ((aa_putR iX3_init_20 fl_X3_18 (fun _ => rfl) (show (cI4, cL0, cS65, 33, 620).2.2.1[29]? = some (.inr (.inl (3, [.null, .ref 30, .null, .null, .null, .null]))) from rfl) (Nat.le_of_ble_eq_true rfl) (fun _ => ⟨rfl, rfl⟩)).to (st2 := []) (σ2 := (cI4, cL0, cS66, 33, 620)) rfl (rfl)) ?_
  refine aa_go (aa_aload0 iX3_init_23) ?_
  refine aa_go (aa_bipush iX3_init_24 kb_6) ?_
  refine aa_go ((aa_newa (t := 0) (N := 6) iX3_init_26 la_int (fun _ => rfl) (by decide) rfl (by decide) (by decide) (by decide)).to (st2 := [.ref 33, .ref 29]) (σ2 := (cI4, cL0, cS67, 34, 626)) rfl (nw_tup (k := 33) _ _ rfl (fun _ => rfl) (fun _ => rfl))) ?_
  refine aa_go ((aa_putR iX3_init_28 fl_X3_22 (fun _ => rfl) (show (cI4, cL0, cS67, 34, 626).2.2.1[29]? = some (.inr (.inl (3, [.null, .ref 30, .ref 32, .null, .null, .null]))) from rfl) (Nat.le_of_ble_eq_true rfl) (fun _ => ⟨rfl, rfl⟩)).to (st2 := []) (σ2 := (cI4, cL0, cS68, 34, 626)) rfl (rfl)) ?_
  refine aa_go (aa_aload0 iX3_init_31) ?_
  refine aa_go (aa_bipush iX3_init_32 kb_6) ?_
  refine aa_go ((aa_newa (t := 0) (N := 6) iX3_init_34 la_int (fun _ => rfl) (by decide) rfl (by decide) (by decide) (by decide)).to (st2 := [.ref 34, .ref 29]) (σ2 := (cI4, cL0, cS69, 35, 632)) rfl (nw_tup (k := 34) _ _ rfl (fun _ => rfl) (fun _ => rfl))) ?_
  refine aa_go ((aa_putR iX3_init_36 fl_X3_25 (fun _ => rfl) (show (cI4, cL0, cS69, 35, 632).2.2.1[29]? = some (.inr (.inl (3, [.null, .ref 30, .ref 32, .ref 33, .null, .null]))) from rfl) (Nat.le_of_ble_eq_true rfl) (fun _ => ⟨rfl, rfl⟩)).to (st2 := []) (σ2 := (cI4, cL0, cS70, 35, 632)) rfl (rfl)) ?_
  refine aa_go (aa_aload0 iX3_init_39) ?_
  refine aa_go (aa_bipush iX3_init_40 kb_6) ?_
  refine aa_go ((aa_newa (t := 0) (N := 6) iX3_init_42 la_int (fun _ => rfl) (by decide) rfl (by decide) (by decide) (by decide)).to (st2 := [.ref 35, .ref 29]) (σ2 := (cI4, cL0, cS71, 36, 638)) rfl (nw_tup (k := 35) _ _ rfl (fun _ => rfl) (fun _ => rfl))) ?_
  refine aa_go ((aa_putR iX3_init_44 fl_X3_28 (fun _ => rfl) (show (cI4, cL0, cS71, 36, 638).2.2.1[29]? = some (.inr (.inl (3, [.null, .ref 30, .ref 32, .ref 33, .ref 34, .null]))) from rfl) (Nat.le_of_ble_eq_true rfl) (fun _ => ⟨rfl, rfl⟩)).to (st2 := []) (σ2 := (cI4, cL0, cS72, 36, 638)) rfl (rfl)) ?_
  refine aa_go (aa_aload0 iX3_init_47) ?_
  refine aa_go (aa_aload1 iX3_init_48) ?_
  refine aa_go ((aa_putR iX3_init_49 fl_X3_31 (fun _ => rfl) (show (cI4, cL0, cS72, 36, 638).2.2.1[29]? = some (.inr (.inl (3, [.null, .ref 30, .ref 32, .ref 33, .ref 34, .ref 35]))) from rfl) (Nat.le_of_ble_eq_true rfl) (fun _ => ⟨rfl, rfl⟩)).to (st2 := []) (σ2 := (cI4, cL0, cS73, 36, 638)) rfl (rfl)) ?_
  refine aa_vret iX3_init_52 rfl ?_
  exact ⟨rfl, rfl⟩
set_option maxRecDepth 20000 in
theorem n8_X8_init : aa_SX mX8_init 20 [.ref 36] (cI4, cL0, cS75, 37, 639) none (cI4, cL0, cS77, 38, 639) := by
  refine aa_E_of (by decide) 0 [some (.ref 36)] rfl rfl ?_
  refine aa_go (aa_aload0 iX8_init_0) ?_
  refine aa_go (aa_obj iX8_init_1 lo_X8_3 lo_1 lo_2 (by decide) (Nat.le_of_ble_eq_true rfl)) ?_
  refine aa_go (aa_aload0 iX8_init_4) ?_
  refine aa_go (aa_iconst iX8_init_5 ki_0) ?_
  refine aa_go ((aa_newa (t := 3) (N := 0) iX8_init_6 la_byte (fun _ => rfl) (by decide) rfl (by decide) (by decide) (by decide)).to (st2 := [.ref 37, .ref 36]) (σ2 := (cI4, cL0, cS76, 38, 639)) rfl (nw_tup (k := 37) _ _ rfl (fun _ => rfl) (fun _ => rfl))) ?_
  refine aa_go ((aa_putR iX8_init_8 fl_X8_9 (fun h => nomatch h) (show (cI4, cL0, cS76, 38, 639).2.2.1[36]? = some (.inr (.inl (8, [.null]))) from rfl) (Nat.le_of_ble_eq_true rfl) (fun _ => ⟨rfl, rfl⟩)).to (st2 := []) (σ2 := (cI4, cL0, cS77, 38, 639)) rfl (rfl)) ?_
  refine aa_vret iX8_init_11 rfl ?_
  exact ⟨rfl, rfl⟩
set_option maxRecDepth 20000 in
theorem n9_X4_init : aa_SX mX4_init 20 [.ref 39] (cI4, cL0, cS80, 40, 644) none (cI5, cL0, cS82, 41, 645) := by
  refine aa_E_of (by decide) 0 [some (.ref 39)] rfl rfl ?_
  refine aa_go (aa_aload0 iX4_init_0) ?_
  refine aa_go (aa_obj iX4_init_1 lo_X4_3 lo_1 lo_2 (by decide) (Nat.le_of_ble_eq_true rfl)) ?_
  refine aa_go (aa_aload0 iX4_init_4) ?_
  refine aa_go (aa_iconst iX4_init_5 ki_1) ?_
  refine aa_go ((aa_newa (t := 1) (N := 1) iX4_init_6 la_long (fun _ => rfl) (by decide) rfl (by decide) (by decide) (by decide)).to (st2 := [.ref 40, .ref 39]) (σ2 := (cI4, cL0, cS81, 41, 645)) rfl (nw_tup (k := 40) _ _ rfl (fun _ => rfl) (fun _ => rfl))) ?_
  refine aa_go ((aa_putR iX4_init_8 fl_X4_9 (fun h => nomatch h) (show (cI4, cL0, cS81, 41, 645).2.2.1[39]? = some (.inr (.inl (4, [.null, .int 0]))) from rfl) (Nat.le_of_ble_eq_true rfl) (fun _ => ⟨rfl, rfl⟩)).to (st2 := []) (σ2 := (cI4, cL0, cS82, 41, 645)) rfl (rfl)) ?_
  refine aa_go (aa_aload0 iX4_init_11) ?_
  refine aa_go (aa_iconst iX4_init_12 ki_m1) ?_
  refine aa_go ((aa_putI iX4_init_13 fl_X4_15 (fun h => nomatch h) (show (cI4, cL0, cS82, 41, 645).2.2.1[39]? = some (.inr (.inl (4, [.ref 40, .int 0]))) from rfl) rfl ⟨rfl, rfl⟩).to (st2 := []) (σ2 := (cI5, cL0, cS82, 41, 645)) rfl (rfl)) ?_
  refine aa_vret iX4_init_16 rfl ?_
  exact ⟨rfl, rfl⟩
set_option maxRecDepth 20000 in
theorem n10_X10_init : aa_SX mX10_init 30 [.ref 38, .ref 7] (cI4, cL0, cS79, 39, 642) none (cI5, cL1, cS84, 41, 645) := by
  refine aa_E_of (by decide) 0 [some (.ref 38), some (.ref 7)] rfl rfl ?_
  refine aa_go (aa_aload0 iX10_init_0) ?_
  refine aa_go (aa_obj iX10_init_1 lo_X10_3 lo_1 lo_2 (by decide) (Nat.le_of_ble_eq_true rfl)) ?_
  refine aa_go (aa_aload0 iX10_init_4) ?_
  refine aa_go ((aa_new iX10_init_5 nl_X10_9).to (st2 := [.ref 39, .ref 38]) (σ2 := (cI4, cL0, cS80, 40, 644)) rfl (nw_tup (k := 39) _ _ rfl (fun _ => rfl) (fun _ => rfl))) ?_
  refine aa_go (aa_dup iX10_init_8 rfl) ?_
  refine aa_go (aa_callN iX10_init_9 n9_X4_init (by decide) lc_X4_init lk_X10_11 rfl (Nat.le_of_ble_eq_true rfl)) ?_
  refine aa_go ((aa_putR iX10_init_12 fl_X10_12 (fun _ => rfl) (show (cI5, cL0, cS82, 41, 645).2.2.1[38]? = some (.inr (.inl (10, [.null, .null, .long 0]))) from rfl) (Nat.le_of_ble_eq_true rfl) (fun _ => ⟨rfl, rfl⟩)).to (st2 := []) (σ2 := (cI5, cL0, cS83, 41, 645)) rfl (rfl)) ?_
  refine aa_go (aa_aload0 iX10_init_15) ?_
  refine aa_go (aa_lconst iX10_init_16 kl_1) ?_
  refine aa_go ((aa_putL iX10_init_17 fl_X10_18 (fun h => nomatch h) (show (cI5, cL0, cS83, 41, 645).2.2.1[38]? = some (.inr (.inl (10, [.null, .ref 39, .long 0]))) from rfl) rfl).to (st2 := []) (σ2 := (cI5, cL1, cS83, 41, 645)) rfl (rfl)) ?_
  refine aa_go (aa_aload0 iX10_init_20) ?_
  refine aa_go (aa_aload1 iX10_init_21) ?_
  refine aa_go ((aa_putR iX10_init_22 fl_X10_22 (fun _ => rfl) (show (cI5, cL1, cS83, 41, 645).2.2.1[38]? = some (.inr (.inl (10, [.null, .ref 39, .long 0]))) from rfl) (Nat.le_of_ble_eq_true rfl) (fun _ => ⟨rfl, rfl⟩)).to (st2 := []) (σ2 := (cI5, cL1, cS84, 41, 645)) rfl (rfl)) ?_
  refine aa_vret iX10_init_25 rfl ?_
  exact ⟨rfl, rfl⟩
set_option maxRecDepth 20000 in
theorem n11_X1_init : aa_SX mX1_init 20 [.ref 41, .ref 7] (cI5, cL1, cS86, 42, 654) none (cI5, cL1, cS95, 46, 800) := by
  refine aa_E_of (by decide) 0 [some (.ref 41), some (.ref 7)] rfl rfl ?_
  refine aa_go (aa_aload0 iX1_init_0) ?_
  refine aa_go (aa_obj iX1_init_1 lo_X1_5 lo_1 lo_2 (by decide) (Nat.le_of_ble_eq_true rfl)) ?_
  refine aa_go (aa_aload0 iX1_init_4) ?_
  refine aa_go (aa_bipush iX1_init_5 kb_8) ?_
  refine aa_go ((aa_newa (t := 0) (N := 8) iX1_init_7 la_int (fun _ => rfl) (by decide) rfl (by decide) (by decide) (by decide)).to (st2 := [.ref 42, .ref 41]) (σ2 := (cI5, cL1, cS87, 43, 662)) rfl (nw_tup (k := 42) _ _ rfl (fun _ => rfl) (fun _ => rfl))) ?_
  refine aa_go ((aa_putR iX1_init_9 fl_X1_11 (fun _ => rfl) (show (cI5, cL1, cS87, 43, 662).2.2.1[41]? = some (.inr (.inl (1, [.null, .null, .null, .null, .null, .int 0, .int 0, .int 0, .int 0]))) from rfl) (Nat.le_of_ble_eq_true rfl) (fun _ => ⟨rfl, rfl⟩)).to (st2 := []) (σ2 := (cI5, cL1, cS88, 43, 662)) rfl (rfl)) ?_
  refine aa_go (aa_aload0 iX1_init_12) ?_
  refine aa_go (aa_bipush iX1_init_13 kb_8) ?_
  refine aa_go ((aa_newa (t := 0) (N := 8) iX1_init_15 la_int (fun _ => rfl) (by decide) rfl (by decide) (by decide) (by decide)).to (st2 := [.ref 43, .ref 41]) (σ2 := (cI5, cL1, cS89, 44, 670)) rfl (nw_tup (k := 43) _ _ rfl (fun _ => rfl) (fun _ => rfl))) ?_
  refine aa_go ((aa_putR iX1_init_17 fl_X1_15 (fun _ => rfl) (show (cI5, cL1, cS89, 44, 670).2.2.1[41]? = some (.inr (.inl (1, [.null, .ref 42, .null, .null, .null, .int 0, .int 0, .int 0, .int 0]))) from rfl) (Nat.le_of_ble_eq_true rfl) (fun _ => ⟨rfl, rfl⟩)).to (st2 := []) (σ2 := (cI5, cL1, cS90, 44, 670)) rfl (rfl)) ?_
  refine aa_go (aa_aload0 iX1_init_20) ?_
  refine aa_go (aa_iconst iX1_init_21 ki_2) ?_
  refine aa_go ((aa_newa (t := 0) (N := 2) iX1_init_22 la_int (fun _ => rfl) (by decide) rfl (by decide) (by decide) (by decide)).to (st2 := [.ref 44, .ref 41]) (σ2 := (cI5, cL1, cS91, 45, 672)) rfl (nw_tup (k := 44) _ _ rfl (fun _ => rfl) (fun _ => rfl))) ?_
  refine aa_go ((aa_putR iX1_init_24 fl_X1_18 (fun _ => rfl) (show (cI5, cL1, cS91, 45, 672).2.2.1[41]? = some (.inr (.inl (1, [.null, .ref 42, .ref 43, .null, .null, .int 0, .int 0, .int 0, .int 0]))) from rfl) (Nat.le_of_ble_eq_true rfl) (fun _ => ⟨rfl, rfl⟩)).to (st2 := []) (σ2 := (cI5, cL1, cS92, 45, 672)) rfl (rfl)) ?_
  refine aa_go (aa_aload0 iX1_init_27) ?_
  refine aa_go (aa_sipush iX1_init_28 ks_128) ?_
  refine aa_go ((aa_newa (t := 1) (N := 128) iX1_init_31 la_long (fun _ => rfl) (by decide) rfl (by decide) (by decide) (by decide)).to (st2 := [.ref 45, .ref 41]) (σ2 := (cI5, cL1, cS93, 46, 800)) rfl (nw_tup (k := 45) _ _ rfl (fun _ => rfl) (fun _ => rfl))) ?_
  refine aa_go ((aa_putR iX1_init_33 fl_X1_21 (fun _ => rfl) (show (cI5, cL1, cS93, 46, 800).2.2.1[41]? = some (.inr (.inl (1, [.null, .ref 42, .ref 43, .ref 44, .null, .int 0, .int 0, .int 0, .int 0]))) from rfl) (Nat.le_of_ble_eq_true rfl) (fun _ => ⟨rfl, rfl⟩)).to (st2 := []) (σ2 := (cI5, cL1, cS94, 46, 800)) rfl (rfl)) ?_
  refine aa_go (aa_aload0 iX1_init_36) ?_
  refine aa_go (aa_iconst iX1_init_37 ki_0) ?_
  refine aa_go ((aa_putI iX1_init_38 fl_X1_25 (fun h => nomatch h) (show (cI5, cL1, cS94, 46, 800).2.2.1[41]? = some (.inr (.inl (1, [.null, .ref 42, .ref 43, .ref 44, .ref 45, .int 0, .int 0, .int 0, .int 0]))) from rfl) rfl ⟨rfl, rfl⟩).to (st2 := []) (σ2 := (cI5, cL1, cS94, 46, 800)) rfl (sI_id rfl)) ?_
  refine aa_go (aa_aload0 iX1_init_41) ?_
  refine aa_go (aa_iconst iX1_init_42 ki_0) ?_
  refine aa_go ((aa_putI iX1_init_43 fl_X1_29 (fun h => nomatch h) (show (cI5, cL1, cS94, 46, 800).2.2.1[41]? = some (.inr (.inl (1, [.null, .ref 42, .ref 43, .ref 44, .ref 45, .int 0, .int 0, .int 0, .int 0]))) from rfl) rfl ⟨rfl, rfl⟩).to (st2 := []) (σ2 := (cI5, cL1, cS94, 46, 800)) rfl (sI_id rfl)) ?_
  refine aa_go (aa_aload0 iX1_init_46) ?_
  refine aa_go (aa_iconst iX1_init_47 ki_0) ?_
  refine aa_go ((aa_putI iX1_init_48 fl_X1_32 (fun h => nomatch h) (show (cI5, cL1, cS94, 46, 800).2.2.1[41]? = some (.inr (.inl (1, [.null, .ref 42, .ref 43, .ref 44, .ref 45, .int 0, .int 0, .int 0, .int 0]))) from rfl) rfl ⟨rfl, rfl⟩).to (st2 := []) (σ2 := (cI5, cL1, cS94, 46, 800)) rfl (sI_id rfl)) ?_
  refine aa_go (aa_aload0 iX1_init_51) ?_
  refine aa_go (aa_iconst iX1_init_52 ki_0) ?_
  refine aa_go ((aa_putI iX1_init_53 fl_X1_35 (fun h => nomatch h) (show (cI5, cL1, cS94, 46, 800).2.2.1[41]? = some (.inr (.inl (1, [.null, .ref 42, .ref 43, .ref 44, .ref 45, .int 0, .int 0, .int 0, .int 0]))) from rfl) rfl ⟨rfl, rfl⟩).to (st2 := []) (σ2 := (cI5, cL1, cS94, 46, 800)) rfl (sI_id rfl)) ?_
  refine aa_go (aa_aload0 iX1_init_56) ?_
  refine aa_go (aa_aload1 iX1_init_57) ?_
  refine aa_go ((aa_putR iX1_init_58 fl_X1_38 (fun _ => rfl) (show (cI5, cL1, cS94, 46, 800).2.2.1[41]? = some (.inr (.inl (1, [.null, .ref 42, .ref 43, .ref 44, .ref 45, .int 0, .int 0, .int 0, .int 0]))) from rfl) (Nat.le_of_ble_eq_true rfl) (fun _ => ⟨rfl, rfl⟩)).to (st2 := []) (σ2 := (cI5, cL1, cS95, 46, 800)) rfl (rfl)) ?_
  refine aa_vret iX1_init_61 rfl ?_
  exact ⟨rfl, rfl⟩
set_option maxRecDepth 20000 in
theorem n12_X4_init : aa_SX mX4_init 20 [.ref 47] (cI5, cL1, cS98, 48, 805) none (cI6, cL1, cS100, 49, 806) := by
  refine aa_E_of (by decide) 0 [some (.ref 47)] rfl rfl ?_
  refine aa_go (aa_aload0 iX4_init_0) ?_
  refine aa_go (aa_obj iX4_init_1 lo_X4_3 lo_1 lo_2 (by decide) (Nat.le_of_ble_eq_true rfl)) ?_
  refine aa_go (aa_aload0 iX4_init_4) ?_
  refine aa_go (aa_iconst iX4_init_5 ki_1) ?_
  refine aa_go ((aa_newa (t := 1) (N := 1) iX4_init_6 la_long (fun _ => rfl) (by decide) rfl (by decide) (by decide) (by decide)).to (st2 := [.ref 48, .ref 47]) (σ2 := (cI5, cL1, cS99, 49, 806)) rfl (nw_tup (k := 48) _ _ rfl (fun _ => rfl) (fun _ => rfl))) ?_
  refine aa_go ((aa_putR iX4_init_8 fl_X4_9 (fun h => nomatch h) (show (cI5, cL1, cS99, 49, 806).2.2.1[47]? = some (.inr (.inl (4, [.null, .int 0]))) from rfl) (Nat.le_of_ble_eq_true rfl) (fun _ => ⟨rfl, rfl⟩)).to (st2 := []) (σ2 := (cI5, cL1, cS100, 49, 806)) rfl (rfl)) ?_
  refine aa_go (aa_aload0 iX4_init_11) ?_
  refine aa_go (aa_iconst iX4_init_12 ki_m1) ?_
  refine aa_go ((aa_putI iX4_init_13 fl_X4_15 (fun h => nomatch h) (show (cI5, cL1, cS100, 49, 806).2.2.1[47]? = some (.inr (.inl (4, [.ref 48, .int 0]))) from rfl) rfl ⟨rfl, rfl⟩).to (st2 := []) (σ2 := (cI6, cL1, cS100, 49, 806)) rfl (rfl)) ?_
  refine aa_vret iX4_init_16 rfl ?_
  exact ⟨rfl, rfl⟩
set_option maxRecDepth 20000 in
theorem n13_X5_init : aa_SX mX5_init 30 [.ref 46, .ref 7] (cI5, cL1, cS97, 47, 803) none (cI6, cL1, cS102, 49, 806) := by
  refine aa_E_of (by decide) 0 [some (.ref 46), some (.ref 7)] rfl rfl ?_
  refine aa_go (aa_aload0 iX5_init_0) ?_
  refine aa_go (aa_obj iX5_init_1 lo_X5_3 lo_1 lo_2 (by decide) (Nat.le_of_ble_eq_true rfl)) ?_
  refine aa_go (aa_aload0 iX5_init_4) ?_
  refine aa_go ((aa_new iX5_init_5 nl_X5_9).to (st2 := [.ref 47, .ref 46]) (σ2 := (cI5, cL1, cS98, 48, 805)) rfl (nw_tup (k := 47) _ _ rfl (fun _ => rfl) (fun _ => rfl))) ?_
  refine aa_go (aa_dup iX5_init_8 rfl) ?_
  refine aa_go (aa_callN iX5_init_9 n12_X4_init (by decide) lc_X4_init lk_X5_11 rfl (Nat.le_of_ble_eq_true rfl)) ?_
  refine aa_go ((aa_putR iX5_init_12 fl_X5_12 (fun _ => rfl) (show (cI6, cL1, cS100, 49, 806).2.2.1[46]? = some (.inr (.inl (5, [.null, .null, .int 0]))) from rfl) (Nat.le_of_ble_eq_true rfl) (fun _ => ⟨rfl, rfl⟩)).to (st2 := []) (σ2 := (cI6, cL1, cS101, 49, 806)) rfl (rfl)) ?_
  refine aa_go (aa_aload0 iX5_init_15) ?_
  refine aa_go (aa_iconst iX5_init_16 ki_0) ?_
  refine aa_go ((aa_putI iX5_init_17 fl_X5_18 (fun h => nomatch h) (show (cI6, cL1, cS101, 49, 806).2.2.1[46]? = some (.inr (.inl (5, [.null, .ref 47, .int 0]))) from rfl) rfl ⟨rfl, rfl⟩).to (st2 := []) (σ2 := (cI6, cL1, cS101, 49, 806)) rfl (sI_id rfl)) ?_
  refine aa_go (aa_aload0 iX5_init_20) ?_
  refine aa_go (aa_aload1 iX5_init_21) ?_
  refine aa_go ((aa_putR iX5_init_22 fl_X5_22 (fun _ => rfl) (show (cI6, cL1, cS101, 49, 806).2.2.1[46]? = some (.inr (.inl (5, [.null, .ref 47, .int 0]))) from rfl) (Nat.le_of_ble_eq_true rfl) (fun _ => ⟨rfl, rfl⟩)).to (st2 := []) (σ2 := (cI6, cL1, cS102, 49, 806)) rfl (rfl)) ?_
  refine aa_vret iX5_init_25 rfl ?_
  exact ⟨rfl, rfl⟩
set_option maxRecDepth 20000 in
theorem n14_X1_init : aa_SX mX1_init 20 [.ref 51, .ref 7] (cI9, cL1, cS108, 52, 826) none (cI9, cL1, cS117, 56, 972) := by
  refine aa_E_of (by decide) 0 [some (.ref 51), some (.ref 7)] rfl rfl ?_
  refine aa_go (aa_aload0 iX1_init_0) ?_
  refine aa_go (aa_obj iX1_init_1 lo_X1_5 lo_1 lo_2 (by decide) (Nat.le_of_ble_eq_true rfl)) ?_
  refine aa_go (aa_aload0 iX1_init_4) ?_
  refine aa_go (aa_bipush iX1_init_5 kb_8) ?_
  refine aa_go ((aa_newa (t := 0) (N := 8) iX1_init_7 la_int (fun _ => rfl) (by decide) rfl (by decide) (by decide) (by decide)).to (st2 := [.ref 52, .ref 51]) (σ2 := (cI9, cL1, cS109, 53, 834)) rfl (nw_tup (k := 52) _ _ rfl (fun _ => rfl) (fun _ => rfl))) ?_
  refine aa_go ((aa_putR iX1_init_9 fl_X1_11 (fun _ => rfl) (show (cI9, cL1, cS109, 53, 834).2.2.1[51]? = some (.inr (.inl (1, [.null, .null, .null, .null, .null, .int 0, .int 0, .int 0, .int 0]))) from rfl) (Nat.le_of_ble_eq_true rfl) (fun _ => ⟨rfl, rfl⟩)).to (st2 := []) (σ2 := (cI9, cL1, cS110, 53, 834)) rfl (rfl)) ?_
  refine aa_go (aa_aload0 iX1_init_12) ?_
  refine aa_go (aa_bipush iX1_init_13 kb_8) ?_
  refine aa_go ((aa_newa (t := 0) (N := 8) iX1_init_15 la_int (fun _ => rfl) (by decide) rfl (by decide) (by decide) (by decide)).to (st2 := [.ref 53, .ref 51]) (σ2 := (cI9, cL1, cS111, 54, 842)) rfl (nw_tup (k := 53) _ _ rfl (fun _ => rfl) (fun _ => rfl))) ?_
  refine aa_go ((aa_putR iX1_init_17 fl_X1_15 (fun _ => rfl) (show (cI9, cL1, cS111, 54, 842).2.2.1[51]? = some (.inr (.inl (1, [.null, .ref 52, .null, .null, .null, .int 0, .int 0, .int 0, .int 0]))) from rfl) (Nat.le_of_ble_eq_true rfl) (fun _ => ⟨rfl, rfl⟩)).to (st2 := []) (σ2 := (cI9, cL1, cS112, 54, 842)) rfl (rfl)) ?_
  refine aa_go (aa_aload0 iX1_init_20) ?_
  refine aa_go (aa_iconst iX1_init_21 ki_2) ?_
  refine aa_go ((aa_newa (t := 0) (N := 2) iX1_init_22 la_int (fun _ => rfl) (by decide) rfl (by decide) (by decide) (by decide)).to (st2 := [.ref 54, .ref 51]) (σ2 := (cI9, cL1, cS113, 55, 844)) rfl (nw_tup (k := 54) _ _ rfl (fun _ => rfl) (fun _ => rfl))) ?_
  refine aa_go ((aa_putR iX1_init_24 fl_X1_18 (fun _ => rfl) (show (cI9, cL1, cS113, 55, 844).2.2.1[51]? = some (.inr (.inl (1, [.null, .ref 52, .ref 53, .null, .null, .int 0, .int 0, .int 0, .int 0]))) from rfl) (Nat.le_of_ble_eq_true rfl) (fun _ => ⟨rfl, rfl⟩)).to (st2 := []) (σ2 := (cI9, cL1, cS114, 55, 844)) rfl (rfl)) ?_
  refine aa_go (aa_aload0 iX1_init_27) ?_
  refine aa_go (aa_sipush iX1_init_28 ks_128) ?_
  refine aa_go ((aa_newa (t := 1) (N := 128) iX1_init_31 la_long (fun _ => rfl) (by decide) rfl (by decide) (by decide) (by decide)).to (st2 := [.ref 55, .ref 51]) (σ2 := (cI9, cL1, cS115, 56, 972)) rfl (nw_tup (k := 55) _ _ rfl (fun _ => rfl) (fun _ => rfl))) ?_
  refine aa_go ((aa_putR iX1_init_33 fl_X1_21 (fun _ => rfl) (show (cI9, cL1, cS115, 56, 972).2.2.1[51]? = some (.inr (.inl (1, [.null, .ref 52, .ref 53, .ref 54, .null, .int 0, .int 0, .int 0, .int 0]))) from rfl) (Nat.le_of_ble_eq_true rfl) (fun _ => ⟨rfl, rfl⟩)).to (st2 := []) (σ2 := (cI9, cL1, cS116, 56, 972)) rfl (rfl)) ?_
  refine aa_go (aa_aload0 iX1_init_36) ?_
  refine aa_go (aa_iconst iX1_init_37 ki_0) ?_
  refine aa_go ((aa_putI iX1_init_38 fl_X1_25 (fun h => nomatch h) (show (cI9, cL1, cS116, 56, 972).2.2.1[51]? = some (.inr (.inl (1, [.null, .ref 52, .ref 53, .ref 54, .ref 55, .int 0, .int 0, .int 0, .int 0]))) from rfl) rfl ⟨rfl, rfl⟩).to (st2 := []) (σ2 := (cI9, cL1, cS116, 56, 972)) rfl (sI_id rfl)) ?_
  refine aa_go (aa_aload0 iX1_init_41) ?_
  refine aa_go (aa_iconst iX1_init_42 ki_0) ?_
  refine aa_go ((aa_putI iX1_init_43 fl_X1_29 (fun h => nomatch h) (show (cI9, cL1, cS116, 56, 972).2.2.1[51]? = some (.inr (.inl (1, [.null, .ref 52, .ref 53, .ref 54, .ref 55, .int 0, .int 0, .int 0, .int 0]))) from rfl) rfl ⟨rfl, rfl⟩).to (st2 := []) (σ2 := (cI9, cL1, cS116, 56, 972)) rfl (sI_id rfl)) ?_
  refine aa_go (aa_aload0 iX1_init_46) ?_
  refine aa_go (aa_iconst iX1_init_47 ki_0) ?_
  refine aa_go ((aa_putI iX1_init_48 fl_X1_32 (fun h => nomatch h) (show (cI9, cL1, cS116, 56, 972).2.2.1[51]? = some (.inr (.inl (1, [.null, .ref 52, .ref 53, .ref 54, .ref 55, .int 0, .int 0, .int 0, .int 0]))) from rfl) rfl ⟨rfl, rfl⟩).to (st2 := []) (σ2 := (cI9, cL1, cS116, 56, 972)) rfl (sI_id rfl)) ?_
  refine aa_go (aa_aload0 iX1_init_51) ?_
  refine aa_go (aa_iconst iX1_init_52 ki_0) ?_
  refine aa_go ((aa_putI iX1_init_53 fl_X1_35 (fun h => nomatch h) (show (cI9, cL1, cS116, 56, 972).2.2.1[51]? = some (.inr (.inl (1, [.null, .ref 52, .ref 53, .ref 54, .ref 55, .int 0, .int 0, .int 0, .int 0]))) from rfl) rfl ⟨rfl, rfl⟩).to (st2 := []) (σ2 := (cI9, cL1, cS116, 56, 972)) rfl (sI_id rfl)) ?_
  refine aa_go (aa_aload0 iX1_init_56) ?_
  refine aa_go (aa_aload1 iX1_init_57) ?_
  refine aa_go ((aa_putR iX1_init_58 fl_X1_38 (fun _ => rfl) (show (cI9, cL1, cS116, 56, 972).2.2.1[51]? = some (.inr (.inl (1, [.null, .ref 52, .ref 53, .ref 54, .ref 55, .int 0, .int 0, .int 0, .int 0]))) from rfl) (Nat.le_of_ble_eq_true rfl) (fun _ => ⟨rfl, rfl⟩)).to (st2 := []) (σ2 := (cI9, cL1, cS117, 56, 972)) rfl (rfl)) ?_
  refine aa_vret iX1_init_61 rfl ?_
  exact ⟨rfl, rfl⟩
set_option maxRecDepth 20000 in
theorem n15_X0_init : aa_SX mX0_init 40 [.ref 49, .ref 7] (cI6, cL1, cS104, 50, 817) none (cI9, cL1, cS118, 56, 972) := by
  refine aa_E_of (by decide) 0 [some (.ref 49), some (.ref 7)] rfl rfl ?_
  refine aa_go (aa_aload0 iX0_init_0) ?_
  refine aa_go (aa_obj iX0_init_1 lo_X0_3 lo_1 lo_2 (by decide) (Nat.le_of_ble_eq_true rfl)) ?_
  refine aa_go (aa_aload0 iX0_init_4) ?_
  refine aa_go (aa_iconst iX0_init_5 ki_0) ?_
  refine aa_go ((aa_newa (t := 0) (N := 0) iX0_init_6 la_int (fun _ => rfl) (by decide) rfl (by decide) (by decide) (by decide)).to (st2 := [.ref 50, .ref 49]) (σ2 := (cI6, cL1, cS105, 51, 817)) rfl (nw_tup (k := 50) _ _ rfl (fun _ => rfl) (fun _ => rfl))) ?_
  refine aa_go ((aa_putR iX0_init_8 fl_X0_9 (fun h => nomatch h) (show (cI6, cL1, cS105, 51, 817).2.2.1[49]? = some (.inr (.inl (0, [.null, .null, .null, .int 0, .int 0, .int 0, .int 0, .int 0, .int 0, .int 0, .int 0]))) from rfl) (Nat.le_of_ble_eq_true rfl) (fun _ => ⟨rfl, rfl⟩)).to (st2 := []) (σ2 := (cI6, cL1, cS106, 51, 817)) rfl (rfl)) ?_
  refine aa_go (aa_aload0 iX0_init_11) ?_
  refine aa_go (aa_iconst iX0_init_12 ki_0) ?_
  refine aa_go ((aa_putI iX0_init_13 fl_X0_15 (fun h => nomatch h) (show (cI6, cL1, cS106, 51, 817).2.2.1[49]? = some (.inr (.inl (0, [.null, .null, .ref 50, .int 0, .int 0, .int 0, .int 0, .int 0, .int 0, .int 0, .int 0]))) from rfl) rfl ⟨rfl, rfl⟩).to (st2 := []) (σ2 := (cI6, cL1, cS106, 51, 817)) rfl (sI_id rfl)) ?_
  refine aa_go (aa_aload0 iX0_init_16) ?_
  refine aa_go (aa_iconst iX0_init_17 ki_m1) ?_
  refine aa_go ((aa_putI iX0_init_18 fl_X0_19 (fun h => nomatch h) (show (cI6, cL1, cS106, 51, 817).2.2.1[49]? = some (.inr (.inl (0, [.null, .null, .ref 50, .int 0, .int 0, .int 0, .int 0, .int 0, .int 0, .int 0, .int 0]))) from rfl) rfl ⟨rfl, rfl⟩).to (st2 := []) (σ2 := (cI7, cL1, cS106, 51, 817)) rfl (rfl)) ?_
  refine aa_go (aa_aload0 iX0_init_21) ?_
  refine aa_go (aa_iconst iX0_init_22 ki_0) ?_
  refine aa_go ((aa_putI iX0_init_23 fl_X0_22 (fun h => nomatch h) (show (cI7, cL1, cS106, 51, 817).2.2.1[49]? = some (.inr (.inl (0, [.null, .null, .ref 50, .int 0, .int 0, .int 0, .int 0, .int 0, .int 0, .int 0, .int 0]))) from rfl) rfl ⟨rfl, rfl⟩).to (st2 := []) (σ2 := (cI7, cL1, cS106, 51, 817)) rfl (sI_id rfl)) ?_
  refine aa_go (aa_aload0 iX0_init_26) ?_
  refine aa_go (aa_iconst iX0_init_27 ki_0) ?_
  refine aa_go ((aa_putI iX0_init_28 fl_X0_25 (fun h => nomatch h) (show (cI7, cL1, cS106, 51, 817).2.2.1[49]? = some (.inr (.inl (0, [.null, .null, .ref 50, .int 0, .int 0, .int 0, .int 0, .int 0, .int 0, .int 0, .int 0]))) from rfl) rfl ⟨rfl, rfl⟩).to (st2 := []) (σ2 := (cI7, cL1, cS106, 51, 817)) rfl (sI_id rfl)) ?_
  refine aa_go (aa_aload0 iX0_init_31) ?_
  refine aa_go (aa_iconst iX0_init_32 ki_0) ?_
  refine aa_go ((aa_putI iX0_init_33 fl_X0_28 (fun h => nomatch h) (show (cI7, cL1, cS106, 51, 817).2.2.1[49]? = some (.inr (.inl (0, [.null, .null, .ref 50, .int 0, .int 0, .int 0, .int 0, .int 0, .int 0, .int 0, .int 0]))) from rfl) rfl ⟨rfl, rfl⟩).to (st2 := []) (σ2 := (cI7, cL1, cS106, 51, 817)) rfl (sI_id rfl)) ?_
  refine aa_go (aa_aload0 iX0_init_36) ?_
  refine aa_go (aa_iconst iX0_init_37 ki_0) ?_
  refine aa_go ((aa_putI iX0_init_38 fl_X0_31 (fun h => nomatch h) (show (cI7, cL1, cS106, 51, 817).2.2.1[49]? = some (.inr (.inl (0, [.null, .null, .ref 50, .int 0, .int 0, .int 0, .int 0, .int 0, .int 0, .int 0, .int 0]))) from rfl) rfl ⟨aa_nz0, rfl⟩).to (st2 := []) (σ2 := (cI7, cL1, cS106, 51, 817)) rfl (sI_id rfl)) ?_
  refine aa_go (aa_aload0 iX0_init_41) ?_
  refine aa_go (aa_iconst iX0_init_42 ki_m1) ?_
  refine aa_go ((aa_putI iX0_init_43 fl_X0_35 (fun h => nomatch h) (show (cI7, cL1, cS106, 51, 817).2.2.1[49]? = some (.inr (.inl (0, [.null, .null, .ref 50, .int 0, .int 0, .int 0, .int 0, .int 0, .int 0, .int 0, .int 0]))) from rfl) rfl ⟨rfl, rfl⟩).to (st2 := []) (σ2 := (cI8, cL1, cS106, 51, 817)) rfl (rfl)) ?_
  refine aa_go (aa_aload0 iX0_init_46) ?_
  refine aa_go (aa_iconst iX0_init_47 ki_m1) ?_
  refine aa_go ((aa_putI iX0_init_48 fl_X0_38 (fun h => nomatch h) (show (cI8, cL1, cS106, 51, 817).2.2.1[49]? = some (.inr (.inl (0, [.null, .null, .ref 50, .int 0, .int 0, .int 0, .int 0, .int 0, .int 0, .int 0, .int 0]))) from rfl) rfl ⟨rfl, rfl⟩).to (st2 := []) (σ2 := (cI9, cL1, cS106, 51, 817)) rfl (rfl)) ?_
  refine aa_go (aa_aload0 iX0_init_51) ?_
  refine aa_go (aa_aload1 iX0_init_52) ?_
  refine aa_go ((aa_putR iX0_init_53 fl_X0_41 (fun _ => rfl) (show (cI9, cL1, cS106, 51, 817).2.2.1[49]? = some (.inr (.inl (0, [.null, .null, .ref 50, .int 0, .int 0, .int 0, .int 0, .int 0, .int 0, .int 0, .int 0]))) from rfl) (Nat.le_of_ble_eq_true rfl) (fun _ => ⟨rfl, rfl⟩)).to (st2 := []) (σ2 := (cI9, cL1, cS107, 51, 817)) rfl (rfl)) ?_
  refine aa_go (aa_aload0 iX0_init_56) ?_
  refine aa_go ((aa_new iX0_init_57 nl_X0_45).to (st2 := [.ref 51, .ref 49]) (σ2 := (cI9, cL1, cS108, 52, 826)) rfl (nw_tup (k := 51) _ _ rfl (fun _ => rfl) (fun _ => rfl))) ?_
  refine aa_go (aa_dup iX0_init_60 rfl) ?_
  refine aa_go (aa_aload1 iX0_init_61) ?_
  refine aa_go (aa_callI iX0_init_62 n14_X1_init (by decide) lc_X1_init lk_X0_47 rfl (Nat.le_of_ble_eq_true rfl)) ?_
  refine aa_go ((aa_putR iX0_init_65 fl_X0_50 (fun _ => rfl) (show (cI9, cL1, cS117, 56, 972).2.2.1[49]? = some (.inr (.inl (0, [.null, .ref 7, .ref 50, .int 0, .int 0, .int 0, .int 0, .int 0, .int 0, .int 0, .int 0]))) from rfl) (Nat.le_of_ble_eq_true rfl) (fun _ => ⟨rfl, rfl⟩)).to (st2 := []) (σ2 := (cI9, cL1, cS118, 56, 972)) rfl (rfl)) ?_
  refine aa_vret iX0_init_68 rfl ?_
  exact ⟨rfl, rfl⟩
set_option maxRecDepth 20000 in
theorem n16_X2_init : aa_SX mX2_init 20 [.ref 57, .ref 7] (cI9, cL1, cS122, 58, 997) none (cI9, cL1, cS125, 59, 1015) := by
  refine aa_E_of (by decide) 0 [some (.ref 57), some (.ref 7)] rfl rfl ?_
  refine aa_go (aa_aload0 iX2_init_0) ?_
  refine aa_go (aa_obj iX2_init_1 lo_X2_3 lo_1 lo_2 (by decide) (Nat.le_of_ble_eq_true rfl)) ?_
  refine aa_go (aa_aload0 iX2_init_4) ?_
  refine aa_go (aa_bipush iX2_init_5 kb_18) ?_
  refine aa_go ((aa_newa (t := 0) (N := 18) iX2_init_7 la_int (fun _ => rfl) (by decide) rfl (by decide) (by decide) (by decide)).to (st2 := [.ref 58, .ref 57]) (σ2 := (cI9, cL1, cS123, 59, 1015)) rfl (nw_tup (k := 58) _ _ rfl (fun _ => rfl) (fun _ => rfl))) ?_
  refine aa_go ((aa_putR iX2_init_9 fl_X2_9 (fun _ => rfl) (show (cI9, cL1, cS123, 59, 1015).2.2.1[57]? = some (.inr (.inl (2, [.null, .null, .int 0, .int 0, .int 0]))) from rfl) (Nat.le_of_ble_eq_true rfl) (fun _ => ⟨rfl, rfl⟩)).to (st2 := []) (σ2 := (cI9, cL1, cS124, 59, 1015)) rfl (rfl)) ?_
  refine aa_go (aa_aload0 iX2_init_12) ?_
  refine aa_go (aa_iconst iX2_init_13 ki_0) ?_
  refine aa_go ((aa_putI iX2_init_14 fl_X2_15 (fun h => nomatch h) (show (cI9, cL1, cS124, 59, 1015).2.2.1[57]? = some (.inr (.inl (2, [.null, .ref 58, .int 0, .int 0, .int 0]))) from rfl) rfl ⟨rfl, rfl⟩).to (st2 := []) (σ2 := (cI9, cL1, cS124, 59, 1015)) rfl (sI_id rfl)) ?_
  refine aa_go (aa_aload0 iX2_init_17) ?_
  refine aa_go (aa_iconst iX2_init_18 ki_0) ?_
  refine aa_go ((aa_putI iX2_init_19 fl_X2_19 (fun h => nomatch h) (show (cI9, cL1, cS124, 59, 1015).2.2.1[57]? = some (.inr (.inl (2, [.null, .ref 58, .int 0, .int 0, .int 0]))) from rfl) rfl ⟨rfl, rfl⟩).to (st2 := []) (σ2 := (cI9, cL1, cS124, 59, 1015)) rfl (sI_id rfl)) ?_
  refine aa_go (aa_aload0 iX2_init_22) ?_
  refine aa_go (aa_iconst iX2_init_23 ki_0) ?_
  refine aa_go ((aa_putI iX2_init_24 fl_X2_22 (fun h => nomatch h) (show (cI9, cL1, cS124, 59, 1015).2.2.1[57]? = some (.inr (.inl (2, [.null, .ref 58, .int 0, .int 0, .int 0]))) from rfl) rfl ⟨rfl, rfl⟩).to (st2 := []) (σ2 := (cI9, cL1, cS124, 59, 1015)) rfl (sI_id rfl)) ?_
  refine aa_go (aa_aload0 iX2_init_27) ?_
  refine aa_go (aa_aload1 iX2_init_28) ?_
  refine aa_go ((aa_putR iX2_init_29 fl_X2_25 (fun _ => rfl) (show (cI9, cL1, cS124, 59, 1015).2.2.1[57]? = some (.inr (.inl (2, [.null, .ref 58, .int 0, .int 0, .int 0]))) from rfl) (Nat.le_of_ble_eq_true rfl) (fun _ => ⟨rfl, rfl⟩)).to (st2 := []) (σ2 := (cI9, cL1, cS125, 59, 1015)) rfl (rfl)) ?_
  refine aa_vret iX2_init_32 rfl ?_
  exact ⟨rfl, rfl⟩
set_option maxRecDepth 20000 in
theorem n17_X2_init : aa_SX mX2_init 20 [.ref 59, .ref 7] (cI9, cL1, cS127, 60, 1020) none (cI9, cL1, cS130, 61, 1038) := by
  refine aa_E_of (by decide) 0 [some (.ref 59), some (.ref 7)] rfl rfl ?_
  refine aa_go (aa_aload0 iX2_init_0) ?_
  refine aa_go (aa_obj iX2_init_1 lo_X2_3 lo_1 lo_2 (by decide) (Nat.le_of_ble_eq_true rfl)) ?_
  refine aa_go (aa_aload0 iX2_init_4) ?_
  refine aa_go (aa_bipush iX2_init_5 kb_18) ?_
  refine aa_go ((aa_newa (t := 0) (N := 18) iX2_init_7 la_int (fun _ => rfl) (by decide) rfl (by decide) (by decide) (by decide)).to (st2 := [.ref 60, .ref 59]) (σ2 := (cI9, cL1, cS128, 61, 1038)) rfl (nw_tup (k := 60) _ _ rfl (fun _ => rfl) (fun _ => rfl))) ?_
  refine aa_go ((aa_putR iX2_init_9 fl_X2_9 (fun _ => rfl) (show (cI9, cL1, cS128, 61, 1038).2.2.1[59]? = some (.inr (.inl (2, [.null, .null, .int 0, .int 0, .int 0]))) from rfl) (Nat.le_of_ble_eq_true rfl) (fun _ => ⟨rfl, rfl⟩)).to (st2 := []) (σ2 := (cI9, cL1, cS129, 61, 1038)) rfl (rfl)) ?_
  refine aa_go (aa_aload0 iX2_init_12) ?_
  refine aa_go (aa_iconst iX2_init_13 ki_0) ?_
  refine aa_go ((aa_putI iX2_init_14 fl_X2_15 (fun h => nomatch h) (show (cI9, cL1, cS129, 61, 1038).2.2.1[59]? = some (.inr (.inl (2, [.null, .ref 60, .int 0, .int 0, .int 0]))) from rfl) rfl ⟨rfl, rfl⟩).to (st2 := []) (σ2 := (cI9, cL1, cS129, 61, 1038)) rfl (sI_id rfl)) ?_
  refine aa_go (aa_aload0 iX2_init_17) ?_
  refine aa_go (aa_iconst iX2_init_18 ki_0) ?_
  refine aa_go ((aa_putI iX2_init_19 fl_X2_19 (fun h => nomatch h) (show (cI9, cL1, cS129, 61, 1038).2.2.1[59]? = some (.inr (.inl (2, [.null, .ref 60, .int 0, .int 0, .int 0]))) from rfl) rfl ⟨rfl, rfl⟩).to (st2 := []) (σ2 := (cI9, cL1, cS129, 61, 1038)) rfl (sI_id rfl)) ?_
  refine aa_go (aa_aload0 iX2_init_22) ?_
  refine aa_go (aa_iconst iX2_init_23 ki_0) ?_
  refine aa_go ((aa_putI iX2_init_24 fl_X2_22 (fun h => nomatch h) (show (cI9, cL1, cS129, 61, 1038).2.2.1[59]? = some (.inr (.inl (2, [.null, .ref 60, .int 0, .int 0, .int 0]))) from rfl) rfl ⟨rfl, rfl⟩).to (st2 := []) (σ2 := (cI9, cL1, cS129, 61, 1038)) rfl (sI_id rfl)) ?_
  refine aa_go (aa_aload0 iX2_init_27) ?_
  refine aa_go (aa_aload1 iX2_init_28) ?_
  refine aa_go ((aa_putR iX2_init_29 fl_X2_25 (fun _ => rfl) (show (cI9, cL1, cS129, 61, 1038).2.2.1[59]? = some (.inr (.inl (2, [.null, .ref 60, .int 0, .int 0, .int 0]))) from rfl) (Nat.le_of_ble_eq_true rfl) (fun _ => ⟨rfl, rfl⟩)).to (st2 := []) (σ2 := (cI9, cL1, cS130, 61, 1038)) rfl (rfl)) ?_
  refine aa_vret iX2_init_32 rfl ?_
  exact ⟨rfl, rfl⟩
set_option maxRecDepth 20000 in
theorem n18_X2_init : aa_SX mX2_init 20 [.ref 61, .ref 7] (cI9, cL1, cS132, 62, 1043) none (cI9, cL1, cS135, 63, 1061) := by
  refine aa_E_of (by decide) 0 [some (.ref 61), some (.ref 7)] rfl rfl ?_
  refine aa_go (aa_aload0 iX2_init_0) ?_
  refine aa_go (aa_obj iX2_init_1 lo_X2_3 lo_1 lo_2 (by decide) (Nat.le_of_ble_eq_true rfl)) ?_
  refine aa_go (aa_aload0 iX2_init_4) ?_
  refine aa_go (aa_bipush iX2_init_5 kb_18) ?_
  refine aa_go ((aa_newa (t := 0) (N := 18) iX2_init_7 la_int (fun _ => rfl) (by decide) rfl (by decide) (by decide) (by decide)).to (st2 := [.ref 62, .ref 61]) (σ2 := (cI9, cL1, cS133, 63, 1061)) rfl (nw_tup (k := 62) _ _ rfl (fun _ => rfl) (fun _ => rfl))) ?_
  refine aa_go ((aa_putR iX2_init_9 fl_X2_9 (fun _ => rfl) (show (cI9, cL1, cS133, 63, 1061).2.2.1[61]? = some (.inr (.inl (2, [.null, .null, .int 0, .int 0, .int 0]))) from rfl) (Nat.le_of_ble_eq_true rfl) (fun _ => ⟨rfl, rfl⟩)).to (st2 := []) (σ2 := (cI9, cL1, cS134, 63, 1061)) rfl (rfl)) ?_
  refine aa_go (aa_aload0 iX2_init_12) ?_
  refine aa_go (aa_iconst iX2_init_13 ki_0) ?_
  refine aa_go ((aa_putI iX2_init_14 fl_X2_15 (fun h => nomatch h) (show (cI9, cL1, cS134, 63, 1061).2.2.1[61]? = some (.inr (.inl (2, [.null, .ref 62, .int 0, .int 0, .int 0]))) from rfl) rfl ⟨rfl, rfl⟩).to (st2 := []) (σ2 := (cI9, cL1, cS134, 63, 1061)) rfl (sI_id rfl)) ?_
  refine aa_go (aa_aload0 iX2_init_17) ?_
  refine aa_go (aa_iconst iX2_init_18 ki_0) ?_
  refine aa_go ((aa_putI iX2_init_19 fl_X2_19 (fun h => nomatch h) (show (cI9, cL1, cS134, 63, 1061).2.2.1[61]? = some (.inr (.inl (2, [.null, .ref 62, .int 0, .int 0, .int 0]))) from rfl) rfl ⟨rfl, rfl⟩).to (st2 := []) (σ2 := (cI9, cL1, cS134, 63, 1061)) rfl (sI_id rfl)) ?_
  refine aa_go (aa_aload0 iX2_init_22) ?_
  refine aa_go (aa_iconst iX2_init_23 ki_0) ?_
  refine aa_go ((aa_putI iX2_init_24 fl_X2_22 (fun h => nomatch h) (show (cI9, cL1, cS134, 63, 1061).2.2.1[61]? = some (.inr (.inl (2, [.null, .ref 62, .int 0, .int 0, .int 0]))) from rfl) rfl ⟨rfl, rfl⟩).to (st2 := []) (σ2 := (cI9, cL1, cS134, 63, 1061)) rfl (sI_id rfl)) ?_
  refine aa_go (aa_aload0 iX2_init_27) ?_
  refine aa_go (aa_aload1 iX2_init_28) ?_
  refine aa_go ((aa_putR iX2_init_29 fl_X2_25 (fun _ => rfl) (show (cI9, cL1, cS134, 63, 1061).2.2.1[61]? = some (.inr (.inl (2, [.null, .ref 62, .int 0, .int 0, .int 0]))) from rfl) (Nat.le_of_ble_eq_true rfl) (fun _ => ⟨rfl, rfl⟩)).to (st2 := []) (σ2 := (cI9, cL1, cS135, 63, 1061)) rfl (rfl)) ?_
  refine aa_vret iX2_init_32 rfl ?_
  exact ⟨rfl, rfl⟩
