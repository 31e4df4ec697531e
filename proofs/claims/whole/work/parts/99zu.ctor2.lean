/-! CONSTRUCTORS, walked: the class, the reference (printed by wip/gen/ctor.py) -/
set_option maxRecDepth 20000 in
theorem n19_X11_init : aa_SX mX11_init 60 [.ref 0] (cI0, cL0, cS1, 1, 14) none (cI9, cL1, cS136, 63, 1061) := by
  refine aa_E_of (by decide) 1 [some (.ref 0), none] rfl rfl ?_
  refine aa_go (aa_aload0 iX11_init_0) ?_
  refine aa_go (aa_obj iX11_init_1 lo_X11_3 lo_1 lo_2 (by decide) (Nat.le_of_ble_eq_true rfl)) ?_
  refine aa_go (aa_aload0 iX11_init_4) ?_
  refine aa_go ((aa_new iX11_init_5 nl_X11_9).to (st2 := [.ref 1, .ref 0]) (σ2 := (cI0, cL0, cS2, 2, 26)) rfl (nw_tup (k := 1) _ _ rfl (fun _ => rfl) (fun _ => rfl))) ?_
  refine aa_go (aa_dup iX11_init_8 rfl) ?_
  refine aa_go (aa_callN iX11_init_9 n0_X7_init (by decide) lc_X7_init lk_X11_11 rfl (Nat.le_of_ble_eq_true rfl)) ?_
  refine aa_go ((aa_putR iX11_init_12 fl_X11_12 (fun _ => rfl) (show (cI1, cL0, cS12, 7, 162).2.2.1[0]? = some (.inr (.inl (11, [.null, .null, .null, .null, .null, .null, .null, .null, .null, .null, .null, .null, .null, .int 0]))) from rfl) (Nat.le_of_ble_eq_true rfl) (fun _ => ⟨rfl, rfl⟩)).to (st2 := []) (σ2 := (cI1, cL0, cS13, 7, 162)) rfl (rfl)) ?_
  refine aa_go (aa_aload0 iX11_init_15) ?_
  refine aa_go ((aa_new iX11_init_16 nl_X11_16).to (st2 := [.ref 7, .ref 0]) (σ2 := (cI1, cL0, cS14, 8, 178)) rfl (nw_tup (k := 7) _ _ rfl (fun _ => rfl) (fun _ => rfl))) ?_
  refine aa_go (aa_dup iX11_init_19 rfl) ?_
  refine aa_go (aa_callN iX11_init_20 n1_X6_init (by decide) lc_X6_init lk_X11_18 rfl (Nat.le_of_ble_eq_true rfl)) ?_
  refine aa_go ((aa_putR iX11_init_23 fl_X11_19 (fun _ => rfl) (show (cI1, cL0, cS38, 20, 556).2.2.1[0]? = some (.inr (.inl (11, [.ref 1, .null, .null, .null, .null, .null, .null, .null, .null, .null, .null, .null, .null, .int 0]))) from rfl) (Nat.le_of_ble_eq_true rfl) (fun _ => ⟨rfl, rfl⟩)).to (st2 := []) (σ2 := (cI1, cL0, cS39, 20, 556)) rfl (rfl)) ?_
  refine aa_go (aa_aload0 iX11_init_26) ?_
  refine aa_go ((aa_new iX11_init_27 nl_X11_23).to (st2 := [.ref 20, .ref 0]) (σ2 := (cI1, cL0, cS40, 21, 561)) rfl (nw_tup (k := 20) _ _ rfl (fun _ => rfl) (fun _ => rfl))) ?_
  refine aa_go (aa_dup iX11_init_30 rfl) ?_
  refine aa_go (aa_aload0 iX11_init_31) ?_
  refine aa_go (aa_getR iX11_init_32 fl_X11_19 (show (cI1, cL0, cS40, 21, 561).2.2.1[0]? = some (.inr (.inl (11, [.ref 1, .ref 7, .null, .null, .null, .null, .null, .null, .null, .null, .null, .null, .null, .int 0]))) from rfl) rfl) ?_
  refine aa_go (aa_callI iX11_init_35 n2_X2_init (by decide) lc_X2_init lk_X11_25 rfl (Nat.le_of_ble_eq_true rfl)) ?_
  refine aa_go ((aa_putR iX11_init_38 fl_X11_28 (fun _ => rfl) (show (cI1, cL0, cS43, 22, 579).2.2.1[0]? = some (.inr (.inl (11, [.ref 1, .ref 7, .null, .null, .null, .null, .null, .null, .null, .null, .null, .null, .null, .int 0]))) from rfl) (Nat.le_of_ble_eq_true rfl) (fun _ => ⟨rfl, rfl⟩)).to (st2 := []) (σ2 := (cI1, cL0, cS44, 22, 579)) rfl (rfl)) ?_
  refine aa_go (aa_aload0 iX11_init_41) ?_
  refine aa_go (aa_iconst iX11_init_42 ki_3) ?_
  refine aa_go ((aa_anew (N := 3) iX11_init_43 ⟨aa_t1 129 rfl, rfl⟩ (by decide) (by decide) (by decide)).to (st2 := [.ref 22, .ref 0]) (σ2 := (cI1, cL0, cS45, 23, 582)) rfl (nw_tup (k := 22) _ _ rfl (fun _ => rfl) (fun _ => rfl))) ?_
  refine aa_go ((aa_putR iX11_init_46 fl_X11_32 (fun _ => rfl) (show (cI1, cL0, cS45, 23, 582).2.2.1[0]? = some (.inr (.inl (11, [.ref 1, .ref 7, .ref 20, .null, .null, .null, .null, .null, .null, .null, .null, .null, .null, .int 0]))) from rfl) (Nat.le_of_ble_eq_true rfl) (fun _ => ⟨rfl, rfl⟩)).to (st2 := []) (σ2 := (cI1, cL0, cS46, 23, 582)) rfl (rfl)) ?_
  refine aa_go (aa_aload0 iX11_init_49) ?_
  refine aa_go (aa_iconst iX11_init_50 ki_3) ?_
  refine aa_go ((aa_newa (t := 2) (N := 3) iX11_init_51 la_boolean (fun _ => rfl) (by decide) rfl (by decide) (by decide) (by decide)).to (st2 := [.ref 23, .ref 0]) (σ2 := (cI1, cL0, cS47, 24, 585)) rfl (nw_tup (k := 23) _ _ rfl (fun _ => rfl) (fun _ => rfl))) ?_
  refine aa_go ((aa_putR iX11_init_53 fl_X11_36 (fun _ => rfl) (show (cI1, cL0, cS47, 24, 585).2.2.1[0]? = some (.inr (.inl (11, [.ref 1, .ref 7, .ref 20, .ref 22, .null, .null, .null, .null, .null, .null, .null, .null, .null, .int 0]))) from rfl) (Nat.le_of_ble_eq_true rfl) (fun _ => ⟨rfl, rfl⟩)).to (st2 := []) (σ2 := (cI1, cL0, cS48, 24, 585)) rfl (rfl)) ?_
  refine aa_go (aa_aload0 iX11_init_56) ?_
  refine aa_go ((aa_new iX11_init_57 nl_X11_40).to (st2 := [.ref 24, .ref 0]) (σ2 := (cI1, cL0, cS49, 25, 591)) rfl (nw_tup (k := 24) _ _ rfl (fun _ => rfl) (fun _ => rfl))) ?_
  refine aa_go (aa_dup iX11_init_60 rfl) ?_
  refine aa_go (aa_aload0 iX11_init_61) ?_
  refine aa_go (aa_getR iX11_init_62 fl_X11_19 (show (cI1, cL0, cS49, 25, 591).2.2.1[0]? = some (.inr (.inl (11, [.ref 1, .ref 7, .ref 20, .ref 22, .ref 23, .null, .null, .null, .null, .null, .null, .null, .null, .int 0]))) from rfl) rfl) ?_
  refine aa_go (aa_callI iX11_init_65 n5_X9_init (by decide) lc_X9_init lk_X11_42 rfl (Nat.le_of_ble_eq_true rfl)) ?_
  refine aa_go ((aa_putR iX11_init_68 fl_X11_43 (fun _ => rfl) (show (cI3, cL0, cS58, 29, 597).2.2.1[0]? = some (.inr (.inl (11, [.ref 1, .ref 7, .ref 20, .ref 22, .ref 23, .null, .null, .null, .null, .null, .null, .null, .null, .int 0]))) from rfl) (Nat.le_of_ble_eq_true rfl) (fun _ => ⟨rfl, rfl⟩)).to (st2 := []) (σ2 := (cI3, cL0, cS59, 29, 597)) rfl (rfl)) ?_
  refine aa_go (aa_aload0 iX11_init_71) ?_
  refine aa_go ((aa_new iX11_init_72 nl_X11_47).to (st2 := [.ref 29, .ref 0]) (σ2 := (cI3, cL0, cS60, 30, 603)) rfl (nw_tup (k := 29) _ _ rfl (fun _ => rfl) (fun _ => rfl))) ?_
  refine aa_go (aa_dup iX11_init_75 rfl) ?_
  refine aa_go (aa_aload0 iX11_init_76) ?_
  refine aa_go (aa_getR iX11_init_77 fl_X11_19 (show (cI3, cL0, cS60, 30, 603).2.2.1[0]? = some (.inr (.inl (11, [.ref 1, .ref 7, .ref 20, .ref 22, .ref 23, .ref 24, .null, .null, .null, .null, .null, .null, .null, .int 0]))) from rfl) rfl) ?_
  refine aa_go (aa_callI iX11_init_80 n7_X3_init (by decide) lc_X3_init lk_X11_49 rfl (Nat.le_of_ble_eq_true rfl)) ?_
  refine aa_go ((aa_putR iX11_init_83 fl_X11_50 (fun _ => rfl) (show (cI4, cL0, cS73, 36, 638).2.2.1[0]? = some (.inr (.inl (11, [.ref 1, .ref 7, .ref 20, .ref 22, .ref 23, .ref 24, .null, .null, .null, .null, .null, .null, .null, .int 0]))) from rfl) (Nat.le_of_ble_eq_true rfl) (fun _ => ⟨rfl, rfl⟩)).to (st2 := []) (σ2 := (cI4, cL0, cS74, 36, 638)) rfl (rfl)) ?_
  refine aa_go (aa_aload0 iX11_init_86) ?_
  refine aa_go ((aa_new iX11_init_87 nl_X11_54).to (st2 := [.ref 36, .ref 0]) (σ2 := (cI4, cL0, cS75, 37, 639)) rfl (nw_tup (k := 36) _ _ rfl (fun _ => rfl) (fun _ => rfl))) ?_
  refine aa_go (aa_dup iX11_init_90 rfl) ?_
  refine aa_go (aa_callN iX11_init_91 n8_X8_init (by decide) lc_X8_init lk_X11_56 rfl (Nat.le_of_ble_eq_true rfl)) ?_
  refine aa_go ((aa_putR iX11_init_94 fl_X11_57 (fun _ => rfl) (show (cI4, cL0, cS77, 38, 639).2.2.1[0]? = some (.inr (.inl (11, [.ref 1, .ref 7, .ref 20, .ref 22, .ref 23, .ref 24, .ref 29, .null, .null, .null, .null, .null, .null, .int 0]))) from rfl) (Nat.le_of_ble_eq_true rfl) (fun _ => ⟨rfl, rfl⟩)).to (st2 := []) (σ2 := (cI4, cL0, cS78, 38, 639)) rfl (rfl)) ?_
  refine aa_go (aa_aload0 iX11_init_97) ?_
  refine aa_go ((aa_new iX11_init_98 nl_X11_61).to (st2 := [.ref 38, .ref 0]) (σ2 := (cI4, cL0, cS79, 39, 642)) rfl (nw_tup (k := 38) _ _ rfl (fun _ => rfl) (fun _ => rfl))) ?_
  refine aa_go (aa_dup iX11_init_101 rfl) ?_
  refine aa_go (aa_aload0 iX11_init_102) ?_
  refine aa_go (aa_getR iX11_init_103 fl_X11_19 (show (cI4, cL0, cS79, 39, 642).2.2.1[0]? = some (.inr (.inl (11, [.ref 1, .ref 7, .ref 20, .ref 22, .ref 23, .ref 24, .ref 29, .ref 36, .null, .null, .null, .null, .null, .int 0]))) from rfl) rfl) ?_
  refine aa_go (aa_callI iX11_init_106 n10_X10_init (by decide) lc_X10_init lk_X11_63 rfl (Nat.le_of_ble_eq_true rfl)) ?_
  refine aa_go ((aa_putR iX11_init_109 fl_X11_64 (fun _ => rfl) (show (cI5, cL1, cS84, 41, 645).2.2.1[0]? = some (.inr (.inl (11, [.ref 1, .ref 7, .ref 20, .ref 22, .ref 23, .ref 24, .ref 29, .ref 36, .null, .null, .null, .null, .null, .int 0]))) from rfl) (Nat.le_of_ble_eq_true rfl) (fun _ => ⟨rfl, rfl⟩)).to (st2 := []) (σ2 := (cI5, cL1, cS85, 41, 645)) rfl (rfl)) ?_
  refine aa_go (aa_aload0 iX11_init_112) ?_
  refine aa_go ((aa_new iX11_init_113 nl_X11_68).to (st2 := [.ref 41, .ref 0]) (σ2 := (cI5, cL1, cS86, 42, 654)) rfl (nw_tup (k := 41) _ _ rfl (fun _ => rfl) (fun _ => rfl))) ?_
  refine aa_go (aa_dup iX11_init_116 rfl) ?_
  refine aa_go (aa_aload0 iX11_init_117) ?_
  refine aa_go (aa_getR iX11_init_118 fl_X11_19 (show (cI5, cL1, cS86, 42, 654).2.2.1[0]? = some (.inr (.inl (11, [.ref 1, .ref 7, .ref 20, .ref 22, .ref 23, .ref 24, .ref 29, .ref 36, .ref 38, .null, .null, .null, .null, .int 0]))) from rfl) rfl) ?_
  refine aa_go (aa_callI iX11_init_121 n11_X1_init (by decide) lc_X1_init lk_X11_70 rfl (Nat.le_of_ble_eq_true rfl)) ?_
  refine aa_go ((aa_putR iX11_init_124 fl_X11_71 (fun _ => rfl) (show (cI5, cL1, cS95, 46, 800).2.2.1[0]? = some (.inr (.inl (11, [.ref 1, .ref 7, .ref 20, .ref 22, .ref 23, .ref 24, .ref 29, .ref 36, .ref 38, .null, .null, .null, .null, .int 0]))) from rfl) (Nat.le_of_ble_eq_true rfl) (fun _ => ⟨rfl, rfl⟩)).to (st2 := []) (σ2 := (cI5, cL1, cS96, 46, 800)) rfl (rfl)) ?_
  refine aa_go (aa_aload0 iX11_init_127) ?_
  refine aa_go ((aa_new iX11_init_128 nl_X11_75).to (st2 := [.ref 46, .ref 0]) (σ2 := (cI5, cL1, cS97, 47, 803)) rfl (nw_tup (k := 46) _ _ rfl (fun _ => rfl) (fun _ => rfl))) ?_
  refine aa_go (aa_dup iX11_init_131 rfl) ?_
  refine aa_go (aa_aload0 iX11_init_132) ?_
  refine aa_go (aa_getR iX11_init_133 fl_X11_19 (show (cI5, cL1, cS97, 47, 803).2.2.1[0]? = some (.inr (.inl (11, [.ref 1, .ref 7, .ref 20, .ref 22, .ref 23, .ref 24, .ref 29, .ref 36, .ref 38, .ref 41, .null, .null, .null, .int 0]))) from rfl) rfl) ?_
  refine aa_go (aa_callI iX11_init_136 n13_X5_init (by decide) lc_X5_init lk_X11_77 rfl (Nat.le_of_ble_eq_true rfl)) ?_
  refine aa_go ((aa_putR iX11_init_139 fl_X11_78 (fun _ => rfl) (show (cI6, cL1, cS102, 49, 806).2.2.1[0]? = some (.inr (.inl (11, [.ref 1, .ref 7, .ref 20, .ref 22, .ref 23, .ref 24, .ref 29, .ref 36, .ref 38, .ref 41, .null, .null, .null, .int 0]))) from rfl) (Nat.le_of_ble_eq_true rfl) (fun _ => ⟨rfl, rfl⟩)).to (st2 := []) (σ2 := (cI6, cL1, cS103, 49, 806)) rfl (rfl)) ?_
  refine aa_go (aa_aload0 iX11_init_142) ?_
  refine aa_go ((aa_new iX11_init_143 nl_X11_82).to (st2 := [.ref 49, .ref 0]) (σ2 := (cI6, cL1, cS104, 50, 817)) rfl (nw_tup (k := 49) _ _ rfl (fun _ => rfl) (fun _ => rfl))) ?_
  refine aa_go (aa_dup iX11_init_146 rfl) ?_
  refine aa_go (aa_aload0 iX11_init_147) ?_
  refine aa_go (aa_getR iX11_init_148 fl_X11_19 (show (cI6, cL1, cS104, 50, 817).2.2.1[0]? = some (.inr (.inl (11, [.ref 1, .ref 7, .ref 20, .ref 22, .ref 23, .ref 24, .ref 29, .ref 36, .ref 38, .ref 41, .ref 46, .null, .null, .int 0]))) from rfl) rfl) ?_
  refine aa_go (aa_callI iX11_init_151 n15_X0_init (by decide) lc_X0_init lk_X11_84 rfl (Nat.le_of_ble_eq_true rfl)) ?_
  refine aa_go ((aa_putR iX11_init_154 fl_X11_85 (fun _ => rfl) (show (cI9, cL1, cS118, 56, 972).2.2.1[0]? = some (.inr (.inl (11, [.ref 1, .ref 7, .ref 20, .ref 22, .ref 23, .ref 24, .ref 29, .ref 36, .ref 38, .ref 41, .ref 46, .null, .null, .int 0]))) from rfl) (Nat.le_of_ble_eq_true rfl) (fun _ => ⟨rfl, rfl⟩)).to (st2 := []) (σ2 := (cI9, cL1, cS119, 56, 972)) rfl (rfl)) ?_
  refine aa_go (aa_aload0 iX11_init_157) ?_
  refine aa_go (aa_bipush iX11_init_158 kb_20) ?_
  refine aa_go ((aa_newa (t := 1) (N := 20) iX11_init_160 la_long (fun _ => rfl) (by decide) rfl (by decide) (by decide) (by decide)).to (st2 := [.ref 56, .ref 0]) (σ2 := (cI9, cL1, cS120, 57, 992)) rfl (nw_tup (k := 56) _ _ rfl (fun _ => rfl) (fun _ => rfl))) ?_
  refine aa_go ((aa_putR iX11_init_162 fl_X11_89 (fun _ => rfl) (show (cI9, cL1, cS120, 57, 992).2.2.1[0]? = some (.inr (.inl (11, [.ref 1, .ref 7, .ref 20, .ref 22, .ref 23, .ref 24, .ref 29, .ref 36, .ref 38, .ref 41, .ref 46, .ref 49, .null, .int 0]))) from rfl) (Nat.le_of_ble_eq_true rfl) (fun _ => ⟨rfl, rfl⟩)).to (st2 := []) (σ2 := (cI9, cL1, cS121, 57, 992)) rfl (rfl)) ?_
  refine aa_go (aa_aload0 iX11_init_165) ?_
  refine aa_go (aa_iconst iX11_init_166 ki_0) ?_
  refine aa_go ((aa_putI iX11_init_167 fl_X11_93 (fun h => nomatch h) (show (cI9, cL1, cS121, 57, 992).2.2.1[0]? = some (.inr (.inl (11, [.ref 1, .ref 7, .ref 20, .ref 22, .ref 23, .ref 24, .ref 29, .ref 36, .ref 38, .ref 41, .ref 46, .ref 49, .ref 56, .int 0]))) from rfl) rfl ⟨rfl, rfl⟩).to (st2 := []) (σ2 := (cI9, cL1, cS121, 57, 992)) rfl (sI_id rfl)) ?_
  refine aa_go (aa_iconst iX11_init_170 ki_0) ?_
  refine aa_go (aa_istore1 iX11_init_171 rfl (by decide)) ?_
  refine aa_go (aa_iload1 iX11_init_172) ?_
  refine aa_go (aa_iconst iX11_init_173 ki_3) ?_
  refine aa_go (aa_ic_geF iX11_init_174 (by decide)) ?_
  refine aa_go (aa_aload0 iX11_init_177) ?_
  refine aa_go (aa_getR iX11_init_178 fl_X11_32 (show (cI9, cL1, cS121, 57, 992).2.2.1[0]? = some (.inr (.inl (11, [.ref 1, .ref 7, .ref 20, .ref 22, .ref 23, .ref 24, .ref 29, .ref 36, .ref 38, .ref 41, .ref 46, .ref 49, .ref 56, .int 0]))) from rfl) rfl) ?_
  refine aa_go (aa_iload1 iX11_init_181) ?_
  refine aa_go ((aa_new iX11_init_182 nl_X11_23).to (st2 := [.ref 57, .int (nI 0), .ref 22]) (σ2 := (cI9, cL1, cS122, 58, 997)) rfl (nw_tup (k := 57) _ _ rfl (fun _ => rfl) (fun _ => rfl))) ?_
  refine aa_go (aa_dup iX11_init_185 rfl) ?_
  refine aa_go (aa_aload0 iX11_init_186) ?_
  refine aa_go (aa_getR iX11_init_187 fl_X11_19 (show (cI9, cL1, cS122, 58, 997).2.2.1[0]? = some (.inr (.inl (11, [.ref 1, .ref 7, .ref 20, .ref 22, .ref 23, .ref 24, .ref 29, .ref 36, .ref 38, .ref 41, .ref 46, .ref 49, .ref 56, .int 0]))) from rfl) rfl) ?_
  refine aa_go (aa_callI iX11_init_190 n16_X2_init (by decide) lc_X2_init lk_X11_25 rfl (Nat.le_of_ble_eq_true rfl)) ?_
  refine aa_go ((aa_aast iX11_init_193 (show (cI9, cL1, cS125, 59, 1015).2.2.1[22]? = some (.inr (.inr (.inl [none, none, none]))) from rfl) (show (cI9, cL1, cS125, 59, 1015).2.2.1[57]? = some (.inr (.inl (2, [.ref 7, .ref 58, .int 0, .int 0, .int 0]))) from rfl) (show ¬ (nI 0 < 0 ∨ 3 ≤ (nI 0).toNatClampNeg) by decide)).to (st2 := []) (σ2 := (cI9, cL1, cS126, 59, 1015)) rfl (rfl)) ?_
  refine aa_go (aa_iincN1 (k := 1) iX11_init_194 rfl (by decide)) ?_
  refine aa_go (aa_goto iX11_init_197) ?_
  refine aa_go (aa_iload1 iX11_init_172) ?_
  refine aa_go (aa_iconst iX11_init_173 ki_3) ?_
  refine aa_go (aa_ic_geF iX11_init_174 (by decide)) ?_
  refine aa_go (aa_aload0 iX11_init_177) ?_
  refine aa_go (aa_getR iX11_init_178 fl_X11_32 (show (cI9, cL1, cS126, 59, 1015).2.2.1[0]? = some (.inr (.inl (11, [.ref 1, .ref 7, .ref 20, .ref 22, .ref 23, .ref 24, .ref 29, .ref 36, .ref 38, .ref 41, .ref 46, .ref 49, .ref 56, .int 0]))) from rfl) rfl) ?_
  refine aa_go (aa_iload1 iX11_init_181) ?_
  refine aa_go ((aa_new iX11_init_182 nl_X11_23).to (st2 := [.ref 59, .int (nI 1), .ref 22]) (σ2 := (cI9, cL1, cS127, 60, 1020)) rfl (nw_tup (k := 59) _ _ rfl (fun _ => rfl) (fun _ => rfl))) ?_
  refine aa_go (aa_dup iX11_init_185 rfl) ?_
  refine aa_go (aa_aload0 iX11_init_186) ?_
  refine aa_go (aa_getR iX11_init_187 fl_X11_19 (show (cI9, cL1, cS127, 60, 1020).2.2.1[0]? = some (.inr (.inl (11, [.ref 1, .ref 7, .ref 20, .ref 22, .ref 23, .ref 24, .ref 29, .ref 36, .ref 38, .ref 41, .ref 46, .ref 49, .ref 56, .int 0]))) from rfl) rfl) ?_
  refine aa_go (aa_callI iX11_init_190 n17_X2_init (by decide) lc_X2_init lk_X11_25 rfl (Nat.le_of_ble_eq_true rfl)) ?_
  refine aa_go ((aa_aast iX11_init_193 (show (cI9, cL1, cS130, 61, 1038).2.2.1[22]? = some (.inr (.inr (.inl [some 57, none, none]))) from rfl) (show (cI9, cL1, cS130, 61, 1038).2.2.1[59]? = some (.inr (.inl (2, [.ref 7, .ref 60, .int 0, .int 0, .int 0]))) from rfl) (show ¬ (nI 1 < 0 ∨ 3 ≤ (nI 1).toNatClampNeg) by decide)).to (st2 := []) (σ2 := (cI9, cL1, cS131, 61, 1038)) rfl (rfl)) ?_
  refine aa_go (aa_iincN1 (k := 1) iX11_init_194 rfl (by decide)) ?_
  refine aa_go (aa_goto iX11_init_197) ?_
  refine aa_go (aa_iload1 iX11_init_172) ?_
  refine aa_go (aa_iconst iX11_init_173 ki_3) ?_
  refine aa_go (aa_ic_geF iX11_init_174 (by decide)) ?_
  refine aa_go (aa_aload0 iX11_init_177) ?_
  refine aa_go (aa_getR iX11_init_178 fl_X11_32 (show (cI9, cL1, cS131, 61, 1038).2.2.1[0]? = some (.inr (.inl (11, [.ref 1, .ref 7, .ref 20, .ref 22, .ref 23, .ref 24, .ref 29, .ref 36, .ref 38, .ref 41, .ref 46, .ref 49, .ref 56, .int 0]))) from rfl) rfl) ?_
  refine aa_go (aa_iload1 iX11_init_181) ?_
  refine aa_go ((aa_new iX11_init_182 nl_X11_23).to (st2 := [.ref 61, .int (nI 2), .ref 22]) (σ2 := (cI9, cL1, cS132, 62, 1043)) rfl (nw_tup (k := 61) _ _ rfl (fun _ => rfl) (fun _ => rfl))) ?_
  refine aa_go (aa_dup iX11_init_185 rfl) ?_
  refine aa_go (aa_aload0 iX11_init_186) ?_
  refine aa_go (aa_getR iX11_init_187 fl_X11_19 (show (cI9, cL1, cS132, 62, 1043).2.2.1[0]? = some (.inr (.inl (11, [.ref 1, .ref 7, .ref 20, .ref 22, .ref 23, .ref 24, .ref 29, .ref 36, .ref 38, .ref 41, .ref 46, .ref 49, .ref 56, .int 0]))) from rfl) rfl) ?_
  refine aa_go (aa_callI iX11_init_190 n18_X2_init (by decide) lc_X2_init lk_X11_25 rfl (Nat.le_of_ble_eq_true rfl)) ?_
  refine aa_go ((aa_aast iX11_init_193 (show (cI9, cL1, cS135, 63, 1061).2.2.1[22]? = some (.inr (.inr (.inl [some 57, some 59, none]))) from rfl) (show (cI9, cL1, cS135, 63, 1061).2.2.1[61]? = some (.inr (.inl (2, [.ref 7, .ref 62, .int 0, .int 0, .int 0]))) from rfl) (show ¬ (nI 2 < 0 ∨ 3 ≤ (nI 2).toNatClampNeg) by decide)).to (st2 := []) (σ2 := (cI9, cL1, cS136, 63, 1061)) rfl (rfl)) ?_
  refine aa_go (aa_iincN1 (k := 1) iX11_init_194 rfl (by decide)) ?_
  refine aa_go (aa_goto iX11_init_197) ?_
  refine aa_go (aa_iload1 iX11_init_172) ?_
  refine aa_go (aa_iconst iX11_init_173 ki_3) ?_
  refine aa_go (aa_ic_geT iX11_init_174 (by decide)) ?_
  refine aa_vret iX11_init_200 rfl ?_
  exact ⟨rfl, rfl⟩
set_option maxRecDepth 20000 in
theorem n20_X12_init : aa_SX mX12_init 60 [.ref 63] (cI9, cL1, cS137, 64, 1099) none (cI11, cL1, cS181, 86, 755161) := by
  refine aa_E_of (by decide) 0 [some (.ref 63)] rfl rfl ?_
  refine aa_go (aa_aload0 iX12_init_0) ?_
  refine aa_go (aa_obj iX12_init_1 lo_X12_367 lo_1 lo_2 (by decide) (Nat.le_of_ble_eq_true rfl)) ?_
  refine aa_go (aa_aload0 iX12_init_4) ?_
  refine aa_go (aa_bipush iX12_init_5 kb_20) ?_
  refine aa_go ((aa_newa (t := 1) (N := 20) iX12_init_7 la_long (fun _ => rfl) (by decide) rfl (by decide) (by decide) (by decide)).to (st2 := [.ref 64, .ref 63]) (σ2 := (cI9, cL1, cS138, 65, 1119)) rfl (nw_tup (k := 64) _ _ rfl (fun _ => rfl) (fun _ => rfl))) ?_
  refine aa_go ((aa_putR iX12_init_9 fl_X12_7 (fun _ => rfl) (show (cI9, cL1, cS138, 65, 1119).2.2.1[63]? = some (.inr (.inl (12, [.int 0, .int 0, .null, .int 0, .null, .null, .null, .null, .int 0, .null, .int 0, .int 0, .int 0, .int 0, .null, .null, .null, .int 0, .int 0, .int 0, .int 0, .null, .null, .null, .int 0, .int 0, .null, .null, .null, .null, .null, .null, .null, .int 0, .int 0, .null, .null, .null]))) from rfl) (Nat.le_of_ble_eq_true rfl) (fun _ => ⟨rfl, rfl⟩)).to (st2 := []) (σ2 := (cI9, cL1, cS139, 65, 1119)) rfl (rfl)) ?_
  refine aa_go (aa_aload0 iX12_init_12) ?_
  refine aa_go (aa_bipush iX12_init_13 kb_16) ?_
  refine aa_go ((aa_newa (t := 0) (N := 16) iX12_init_15 la_int (fun _ => rfl) (by decide) rfl (by decide) (by decide) (by decide)).to (st2 := [.ref 65, .ref 63]) (σ2 := (cI9, cL1, cS140, 66, 1135)) rfl (nw_tup (k := 65) _ _ rfl (fun _ => rfl) (fun _ => rfl))) ?_
  refine aa_go ((aa_putR iX12_init_17 fl_X12_54 (fun _ => rfl) (show (cI9, cL1, cS140, 66, 1135).2.2.1[63]? = some (.inr (.inl (12, [.int 0, .int 0, .ref 64, .int 0, .null, .null, .null, .null, .int 0, .null, .int 0, .int 0, .int 0, .int 0, .null, .null, .null, .int 0, .int 0, .int 0, .int 0, .null, .null, .null, .int 0, .int 0, .null, .null, .null, .null, .null, .null, .null, .int 0, .int 0, .null, .null, .null]))) from rfl) (Nat.le_of_ble_eq_true rfl) (fun _ => ⟨rfl, rfl⟩)).to (st2 := []) (σ2 := (cI9, cL1, cS141, 66, 1135)) rfl (rfl)) ?_
  refine aa_go (aa_aload0 iX12_init_20) ?_
  refine aa_go (aa_bipush iX12_init_21 kb_16) ?_
  refine aa_go ((aa_newa (t := 0) (N := 16) iX12_init_23 la_int (fun _ => rfl) (by decide) rfl (by decide) (by decide) (by decide)).to (st2 := [.ref 66, .ref 63]) (σ2 := (cI9, cL1, cS142, 67, 1151)) rfl (nw_tup (k := 66) _ _ rfl (fun _ => rfl) (fun _ => rfl))) ?_
  refine aa_go ((aa_putR iX12_init_25 fl_X12_57 (fun _ => rfl) (show (cI9, cL1, cS142, 67, 1151).2.2.1[63]? = some (.inr (.inl (12, [.int 0, .int 0, .ref 64, .int 0, .ref 65, .null, .null, .null, .int 0, .null, .int 0, .int 0, .int 0, .int 0, .null, .null, .null, .int 0, .int 0, .int 0, .int 0, .null, .null, .null, .int 0, .int 0, .null, .null, .null, .null, .null, .null, .null, .int 0, .int 0, .null, .null, .null]))) from rfl) (Nat.le_of_ble_eq_true rfl) (fun _ => ⟨rfl, rfl⟩)).to (st2 := []) (σ2 := (cI9, cL1, cS143, 67, 1151)) rfl (rfl)) ?_
  refine aa_go (aa_aload0 iX12_init_28) ?_
  refine aa_go (aa_bipush iX12_init_29 kb_16) ?_
  refine aa_go ((aa_newa (t := 0) (N := 16) iX12_init_31 la_int (fun _ => rfl) (by decide) rfl (by decide) (by decide) (by decide)).to (st2 := [.ref 67, .ref 63]) (σ2 := (cI9, cL1, cS144, 68, 1167)) rfl (nw_tup (k := 67) _ _ rfl (fun _ => rfl) (fun _ => rfl))) ?_
  refine aa_go ((aa_putR iX12_init_33 fl_X12_47 (fun _ => rfl) (show (cI9, cL1, cS144, 68, 1167).2.2.1[63]? = some (.inr (.inl (12, [.int 0, .int 0, .ref 64, .int 0, .ref 65, .ref 66, .null, .null, .int 0, .null, .int 0, .int 0, .int 0, .int 0, .null, .null, .null, .int 0, .int 0, .int 0, .int 0, .null, .null, .null, .int 0, .int 0, .null, .null, .null, .null, .null, .null, .null, .int 0, .int 0, .null, .null, .null]))) from rfl) (Nat.le_of_ble_eq_true rfl) (fun _ => ⟨rfl, rfl⟩)).to (st2 := []) (σ2 := (cI9, cL1, cS145, 68, 1167)) rfl (rfl)) ?_
  refine aa_go (aa_aload0 iX12_init_36) ?_
  refine aa_go (aa_bipush iX12_init_37 kb_16) ?_
  refine aa_go ((aa_newa (t := 0) (N := 16) iX12_init_39 la_int (fun _ => rfl) (by decide) rfl (by decide) (by decide) (by decide)).to (st2 := [.ref 68, .ref 63]) (σ2 := (cI9, cL1, cS146, 69, 1183)) rfl (nw_tup (k := 68) _ _ rfl (fun _ => rfl) (fun _ => rfl))) ?_
  refine aa_go ((aa_putR iX12_init_41 fl_X12_92 (fun _ => rfl) (show (cI9, cL1, cS146, 69, 1183).2.2.1[63]? = some (.inr (.inl (12, [.int 0, .int 0, .ref 64, .int 0, .ref 65, .ref 66, .ref 67, .null, .int 0, .null, .int 0, .int 0, .int 0, .int 0, .null, .null, .null, .int 0, .int 0, .int 0, .int 0, .null, .null, .null, .int 0, .int 0, .null, .null, .null, .null, .null, .null, .null, .int 0, .int 0, .null, .null, .null]))) from rfl) (Nat.le_of_ble_eq_true rfl) (fun _ => ⟨rfl, rfl⟩)).to (st2 := []) (σ2 := (cI9, cL1, cS147, 69, 1183)) rfl (rfl)) ?_
  refine aa_go (aa_aload0 iX12_init_44) ?_
  refine aa_go (aa_iconst iX12_init_45 ki_2) ?_
  refine aa_go ((aa_newa (t := 0) (N := 2) iX12_init_46 la_int (fun _ => rfl) (by decide) rfl (by decide) (by decide) (by decide)).to (st2 := [.ref 69, .ref 63]) (σ2 := (cI9, cL1, cS148, 70, 1185)) rfl (nw_tup (k := 69) _ _ rfl (fun _ => rfl) (fun _ => rfl))) ?_
  refine aa_go ((aa_putR iX12_init_48 fl_X12_69 (fun _ => rfl) (show (cI9, cL1, cS148, 70, 1185).2.2.1[63]? = some (.inr (.inl (12, [.int 0, .int 0, .ref 64, .int 0, .ref 65, .ref 66, .ref 67, .ref 68, .int 0, .null, .int 0, .int 0, .int 0, .int 0, .null, .null, .null, .int 0, .int 0, .int 0, .int 0, .null, .null, .null, .int 0, .int 0, .null, .null, .null, .null, .null, .null, .null, .int 0, .int 0, .null, .null, .null]))) from rfl) (Nat.le_of_ble_eq_true rfl) (fun _ => ⟨rfl, rfl⟩)).to (st2 := []) (σ2 := (cI9, cL1, cS149, 70, 1185)) rfl (rfl)) ?_
  refine aa_go (aa_aload0 iX12_init_51) ?_
  refine aa_go (aa_bipush iX12_init_52 kb_24) ?_
  refine aa_go ((aa_newa (t := 0) (N := 24) iX12_init_54 la_int (fun _ => rfl) (by decide) rfl (by decide) (by decide) (by decide)).to (st2 := [.ref 70, .ref 63]) (σ2 := (cI9, cL1, cS150, 71, 1209)) rfl (nw_tup (k := 70) _ _ rfl (fun _ => rfl) (fun _ => rfl))) ?_
  refine aa_go ((aa_putR iX12_init_56 fl_X12_149 (fun _ => rfl) (show (cI9, cL1, cS150, 71, 1209).2.2.1[63]? = some (.inr (.inl (12, [.int 0, .int 0, .ref 64, .int 0, .ref 65, .ref 66, .ref 67, .ref 68, .int 0, .ref 69, .int 0, .int 0, .int 0, .int 0, .null, .null, .null, .int 0, .int 0, .int 0, .int 0, .null, .null, .null, .int 0, .int 0, .null, .null, .null, .null, .null, .null, .null, .int 0, .int 0, .null, .null, .null]))) from rfl) (Nat.le_of_ble_eq_true rfl) (fun _ => ⟨rfl, rfl⟩)).to (st2 := []) (σ2 := (cI9, cL1, cS151, 71, 1209)) rfl (rfl)) ?_
  refine aa_go (aa_aload0 iX12_init_59) ?_
  refine aa_go (aa_bipush iX12_init_60 kb_24) ?_
  refine aa_go ((aa_newa (t := 0) (N := 24) iX12_init_62 la_int (fun _ => rfl) (by decide) rfl (by decide) (by decide) (by decide)).to (st2 := [.ref 71, .ref 63]) (σ2 := (cI9, cL1, cS152, 72, 1233)) rfl (nw_tup (k := 71) _ _ rfl (fun _ => rfl) (fun _ => rfl))) ?_
  refine aa_go ((aa_putR iX12_init_64 fl_X12_152 (fun _ => rfl) (show (cI9, cL1, cS152, 72, 1233).2.2.1[63]? = some (.inr (.inl (12, [.int 0, .int 0, .ref 64, .int 0, .ref 65, .ref 66, .ref 67, .ref 68, .int 0, .ref 69, .int 0, .int 0, .int 0, .int 0, .ref 70, .null, .null, .int 0, .int 0, .int 0, .int 0, .null, .null, .null, .int 0, .int 0, .null, .null, .null, .null, .null, .null, .null, .int 0, .int 0, .null, .null, .null]))) from rfl) (Nat.le_of_ble_eq_true rfl) (fun _ => ⟨rfl, rfl⟩)).to (st2 := []) (σ2 := (cI9, cL1, cS153, 72, 1233)) rfl (rfl)) ?_
  refine aa_go (aa_aload0 iX12_init_67) ?_
  refine aa_go (aa_bipush iX12_init_68 kb_80) ?_
  refine aa_go ((aa_newa (t := 0) (N := 80) iX12_init_70 la_int (fun _ => rfl) (by decide) rfl (by decide) (by decide) (by decide)).to (st2 := [.ref 72, .ref 63]) (σ2 := (cI9, cL1, cS154, 73, 1313)) rfl (nw_tup (k := 72) _ _ rfl (fun _ => rfl) (fun _ => rfl))) ?_
  refine aa_go ((aa_putR iX12_init_72 fl_X12_17 (fun _ => rfl) (show (cI9, cL1, cS154, 73, 1313).2.2.1[63]? = some (.inr (.inl (12, [.int 0, .int 0, .ref 64, .int 0, .ref 65, .ref 66, .ref 67, .ref 68, .int 0, .ref 69, .int 0, .int 0, .int 0, .int 0, .ref 70, .ref 71, .null, .int 0, .int 0, .int 0, .int 0, .null, .null, .null, .int 0, .int 0, .null, .null, .null, .null, .null, .null, .null, .int 0, .int 0, .null, .null, .null]))) from rfl) (Nat.le_of_ble_eq_true rfl) (fun _ => ⟨rfl, rfl⟩)).to (st2 := []) (σ2 := (cI9, cL1, cS155, 73, 1313)) rfl (rfl)) ?_
  refine aa_go (aa_aload0 iX12_init_75) ?_
  refine aa_go (aa_iconst iX12_init_76 ki_2) ?_
  refine aa_go ((aa_newa (t := 0) (N := 2) iX12_init_77 la_int (fun _ => rfl) (by decide) rfl (by decide) (by decide) (by decide)).to (st2 := [.ref 73, .ref 63]) (σ2 := (cI9, cL1, cS156, 74, 1315)) rfl (nw_tup (k := 73) _ _ rfl (fun _ => rfl) (fun _ => rfl))) ?_
  refine aa_go ((aa_putR iX12_init_79 fl_X12_157 (fun _ => rfl) (show (cI9, cL1, cS156, 74, 1315).2.2.1[63]? = some (.inr (.inl (12, [.int 0, .int 0, .ref 64, .int 0, .ref 65, .ref 66, .ref 67, .ref 68, .int 0, .ref 69, .int 0, .int 0, .int 0, .int 0, .ref 70, .ref 71, .ref 72, .int 0, .int 0, .int 0, .int 0, .null, .null, .null, .int 0, .int 0, .null, .null, .null, .null, .null, .null, .null, .int 0, .int 0, .null, .null, .null]))) from rfl) (Nat.le_of_ble_eq_true rfl) (fun _ => ⟨rfl, rfl⟩)).to (st2 := []) (σ2 := (cI9, cL1, cS157, 74, 1315)) rfl (rfl)) ?_
  refine aa_go (aa_aload0 iX12_init_82) ?_
  refine aa_go (aa_ldcw iX12_init_83 ld_X12_372) ?_
  refine aa_go ((aa_newa (t := 0) (N := 196608) iX12_init_86 la_int (fun _ => rfl) (by decide) rfl (by decide) (by decide) (by decide)).to (st2 := [.ref 74, .ref 63]) (σ2 := (cI9, cL1, cS158, 75, 197923)) rfl (nw_tup (k := 74) _ _ rfl (fun _ => rfl) (fun _ => rfl))) ?_
  refine aa_go ((aa_putR iX12_init_88 fl_X12_171 (fun _ => rfl) (show (cI9, cL1, cS158, 75, 197923).2.2.1[63]? = some (.inr (.inl (12, [.int 0, .int 0, .ref 64, .int 0, .ref 65, .ref 66, .ref 67, .ref 68, .int 0, .ref 69, .int 0, .int 0, .int 0, .int 0, .ref 70, .ref 71, .ref 72, .int 0, .int 0, .int 0, .int 0, .ref 73, .null, .null, .int 0, .int 0, .null, .null, .null, .null, .null, .null, .null, .int 0, .int 0, .null, .null, .null]))) from rfl) (Nat.le_of_ble_eq_true rfl) (fun _ => ⟨rfl, rfl⟩)).to (st2 := []) (σ2 := (cI9, cL1, cS159, 75, 197923)) rfl (rfl)) ?_
  refine aa_go (aa_aload0 iX12_init_91) ?_
  refine aa_go (aa_ldcw iX12_init_92 ld_X12_372) ?_
  refine aa_go ((aa_newa (t := 0) (N := 196608) iX12_init_95 la_int (fun _ => rfl) (by decide) rfl (by decide) (by decide) (by decide)).to (st2 := [.ref 75, .ref 63]) (σ2 := (cI9, cL1, cS160, 76, 394531)) rfl (nw_tup (k := 75) _ _ rfl (fun _ => rfl) (fun _ => rfl))) ?_
  refine aa_go ((aa_putR iX12_init_97 fl_X12_174 (fun _ => rfl) (show (cI9, cL1, cS160, 76, 394531).2.2.1[63]? = some (.inr (.inl (12, [.int 0, .int 0, .ref 64, .int 0, .ref 65, .ref 66, .ref 67, .ref 68, .int 0, .ref 69, .int 0, .int 0, .int 0, .int 0, .ref 70, .ref 71, .ref 72, .int 0, .int 0, .int 0, .int 0, .ref 73, .ref 74, .null, .int 0, .int 0, .null, .null, .null, .null, .null, .null, .null, .int 0, .int 0, .null, .null, .null]))) from rfl) (Nat.le_of_ble_eq_true rfl) (fun _ => ⟨rfl, rfl⟩)).to (st2 := []) (σ2 := (cI9, cL1, cS161, 76, 394531)) rfl (rfl)) ?_
  refine aa_go (aa_aload0 iX12_init_100) ?_
  refine aa_go (aa_ldcw iX12_init_101 ld_X12_372) ?_
  refine aa_go ((aa_newa (t := 0) (N := 196608) iX12_init_104 la_int (fun _ => rfl) (by decide) rfl (by decide) (by decide) (by decide)).to (st2 := [.ref 76, .ref 63]) (σ2 := (cI9, cL1, cS162, 77, 591139)) rfl (nw_tup (k := 76) _ _ rfl (fun _ => rfl) (fun _ => rfl))) ?_
  refine aa_go ((aa_putR iX12_init_106 fl_X12_201 (fun _ => rfl) (show (cI9, cL1, cS162, 77, 591139).2.2.1[63]? = some (.inr (.inl (12, [.int 0, .int 0, .ref 64, .int 0, .ref 65, .ref 66, .ref 67, .ref 68, .int 0, .ref 69, .int 0, .int 0, .int 0, .int 0, .ref 70, .ref 71, .ref 72, .int 0, .int 0, .int 0, .int 0, .ref 73, .ref 74, .ref 75, .int 0, .int 0, .null, .null, .null, .null, .null, .null, .null, .int 0, .int 0, .null, .null, .null]))) from rfl) (Nat.le_of_ble_eq_true rfl) (fun _ => ⟨rfl, rfl⟩)).to (st2 := []) (σ2 := (cI9, cL1, cS163, 77, 591139)) rfl (rfl)) ?_
  refine aa_go (aa_aload0 iX12_init_109) ?_
  refine aa_go (aa_ldc iX12_init_110 ld_X12_170) ?_
  refine aa_go ((aa_newa (t := 1) (N := 65536) iX12_init_112 la_long (fun _ => rfl) (by decide) rfl (by decide) (by decide) (by decide)).to (st2 := [.ref 77, .ref 63]) (σ2 := (cI9, cL1, cS164, 78, 656675)) rfl (nw_tup (k := 77) _ _ rfl (fun _ => rfl) (fun _ => rfl))) ?_
  refine aa_go ((aa_putR iX12_init_114 fl_X12_206 (fun h => nomatch h) (show (cI9, cL1, cS164, 78, 656675).2.2.1[63]? = some (.inr (.inl (12, [.int 0, .int 0, .ref 64, .int 0, .ref 65, .ref 66, .ref 67, .ref 68, .int 0, .ref 69, .int 0, .int 0, .int 0, .int 0, .ref 70, .ref 71, .ref 72, .int 0, .int 0, .int 0, .int 0, .ref 73, .ref 74, .ref 75, .int 0, .int 0, .ref 76, .null, .null, .null, .null, .null, .null, .int 0, .int 0, .null, .null, .null]))) from rfl) (Nat.le_of_ble_eq_true rfl) (fun _ => ⟨rfl, rfl⟩)).to (st2 := []) (σ2 := (cI9, cL1, cS165, 78, 656675)) rfl (rfl)) ?_
  refine aa_go (aa_aload0 iX12_init_117) ?_
  refine aa_go (aa_ldc iX12_init_118 ld_X12_170) ?_
  refine aa_go ((aa_newa (t := 1) (N := 65536) iX12_init_120 la_long (fun _ => rfl) (by decide) rfl (by decide) (by decide) (by decide)).to (st2 := [.ref 78, .ref 63]) (σ2 := (cI9, cL1, cS166, 79, 722211)) rfl (nw_tup (k := 78) _ _ rfl (fun _ => rfl) (fun _ => rfl))) ?_
  refine aa_go ((aa_putR iX12_init_122 fl_X12_209 (fun h => nomatch h) (show (cI9, cL1, cS166, 79, 722211).2.2.1[63]? = some (.inr (.inl (12, [.int 0, .int 0, .ref 64, .int 0, .ref 65, .ref 66, .ref 67, .ref 68, .int 0, .ref 69, .int 0, .int 0, .int 0, .int 0, .ref 70, .ref 71, .ref 72, .int 0, .int 0, .int 0, .int 0, .ref 73, .ref 74, .ref 75, .int 0, .int 0, .ref 76, .ref 77, .null, .null, .null, .null, .null, .int 0, .int 0, .null, .null, .null]))) from rfl) (Nat.le_of_ble_eq_true rfl) (fun _ => ⟨rfl, rfl⟩)).to (st2 := []) (σ2 := (cI9, cL1, cS167, 79, 722211)) rfl (rfl)) ?_
  refine aa_go (aa_aload0 iX12_init_125) ?_
  refine aa_go (aa_bipush iX12_init_126 kb_14) ?_
  refine aa_go ((aa_newa (t := 0) (N := 14) iX12_init_128 la_int (fun _ => rfl) (by decide) rfl (by decide) (by decide) (by decide)).to (st2 := [.ref 79, .ref 63]) (σ2 := (cI9, cL1, cS168, 80, 722225)) rfl (nw_tup (k := 79) _ _ rfl (fun _ => rfl) (fun _ => rfl))) ?_
  refine aa_go ((aa_putR iX12_init_130 fl_X12_245 (fun _ => rfl) (show (cI9, cL1, cS168, 80, 722225).2.2.1[63]? = some (.inr (.inl (12, [.int 0, .int 0, .ref 64, .int 0, .ref 65, .ref 66, .ref 67, .ref 68, .int 0, .ref 69, .int 0, .int 0, .int 0, .int 0, .ref 70, .ref 71, .ref 72, .int 0, .int 0, .int 0, .int 0, .ref 73, .ref 74, .ref 75, .int 0, .int 0, .ref 76, .ref 77, .ref 78, .null, .null, .null, .null, .int 0, .int 0, .null, .null, .null]))) from rfl) (Nat.le_of_ble_eq_true rfl) (fun _ => ⟨rfl, rfl⟩)).to (st2 := []) (σ2 := (cI9, cL1, cS169, 80, 722225)) rfl (rfl)) ?_
  refine aa_go (aa_aload0 iX12_init_133) ?_
  refine aa_go (aa_iconst iX12_init_134 ki_3) ?_
  refine aa_go ((aa_newa (t := 0) (N := 3) iX12_init_135 la_int (fun _ => rfl) (by decide) rfl (by decide) (by decide) (by decide)).to (st2 := [.ref 80, .ref 63]) (σ2 := (cI9, cL1, cS170, 81, 722228)) rfl (nw_tup (k := 80) _ _ rfl (fun _ => rfl) (fun _ => rfl))) ?_
  refine aa_go (aa_dup iX12_init_137 rfl) ?_
  refine aa_go (aa_iconst iX12_init_138 ki_0) ?_
  refine aa_go (aa_iconst iX12_init_139 ki_1) ?_
  refine aa_go ((aa_iasN iX12_init_140 (show (cI9, cL1, cS170, 81, 722228).2.2.1[80]? = some (.inl (0, 3)) from rfl) (by decide) (by decide)).to (st2 := [.ref 80, .ref 63]) (σ2 := (cI10, cL1, cS170, 81, 722228)) rfl (rfl)) ?_
  refine aa_go (aa_dup iX12_init_141 rfl) ?_
  refine aa_go (aa_iconst iX12_init_142 ki_1) ?_
  refine aa_go (aa_iconst iX12_init_143 ki_2) ?_
  refine aa_go ((aa_iasN iX12_init_144 (show (cI10, cL1, cS170, 81, 722228).2.2.1[80]? = some (.inl (0, 3)) from rfl) (by decide) (by decide)).to (st2 := [.ref 80, .ref 63]) (σ2 := (cI11, cL1, cS170, 81, 722228)) rfl (rfl)) ?_
  refine aa_go (aa_dup iX12_init_145 rfl) ?_
  refine aa_go (aa_iconst iX12_init_146 ki_2) ?_
  refine aa_go (aa_iconst iX12_init_147 ki_0) ?_
  refine aa_go ((aa_iasN iX12_init_148 (show (cI11, cL1, cS170, 81, 722228).2.2.1[80]? = some (.inl (0, 3)) from rfl) (by decide) (by decide)).to (st2 := [.ref 80, .ref 63]) (σ2 := (cI11, cL1, cS170, 81, 722228)) rfl (sI_id rfl)) ?_
  refine aa_go ((aa_putR iX12_init_149 fl_X12_290 (fun _ => rfl) (show (cI11, cL1, cS170, 81, 722228).2.2.1[63]? = some (.inr (.inl (12, [.int 0, .int 0, .ref 64, .int 0, .ref 65, .ref 66, .ref 67, .ref 68, .int 0, .ref 69, .int 0, .int 0, .int 0, .int 0, .ref 70, .ref 71, .ref 72, .int 0, .int 0, .int 0, .int 0, .ref 73, .ref 74, .ref 75, .int 0, .int 0, .ref 76, .ref 77, .ref 78, .ref 79, .null, .null, .null, .int 0, .int 0, .null, .null, .null]))) from rfl) (Nat.le_of_ble_eq_true rfl) (fun _ => ⟨rfl, rfl⟩)).to (st2 := []) (σ2 := (cI11, cL1, cS171, 81, 722228)) rfl (rfl)) ?_
  refine aa_go (aa_aload0 iX12_init_152) ?_
  refine aa_go (aa_iconst iX12_init_153 ki_3) ?_
  refine aa_go ((aa_newa (t := 0) (N := 3) iX12_init_154 la_int (fun _ => rfl) (by decide) rfl (by decide) (by decide) (by decide)).to (st2 := [.ref 81, .ref 63]) (σ2 := (cI11, cL1, cS172, 82, 722231)) rfl (nw_tup (k := 81) _ _ rfl (fun _ => rfl) (fun _ => rfl))) ?_
  refine aa_go ((aa_putR iX12_init_156 fl_X12_299 (fun _ => rfl) (show (cI11, cL1, cS172, 82, 722231).2.2.1[63]? = some (.inr (.inl (12, [.int 0, .int 0, .ref 64, .int 0, .ref 65, .ref 66, .ref 67, .ref 68, .int 0, .ref 69, .int 0, .int 0, .int 0, .int 0, .ref 70, .ref 71, .ref 72, .int 0, .int 0, .int 0, .int 0, .ref 73, .ref 74, .ref 75, .int 0, .int 0, .ref 76, .ref 77, .ref 78, .ref 79, .ref 80, .null, .null, .int 0, .int 0, .null, .null, .null]))) from rfl) (Nat.le_of_ble_eq_true rfl) (fun _ => ⟨rfl, rfl⟩)).to (st2 := []) (σ2 := (cI11, cL1, cS173, 82, 722231)) rfl (rfl)) ?_
  refine aa_go (aa_aload0 iX12_init_159) ?_
  refine aa_go (aa_ldcw iX12_init_160 ld_X12_373) ?_
  refine aa_go ((aa_newa (t := 1) (N := 32768) iX12_init_163 la_long (fun _ => rfl) (by decide) rfl (by decide) (by decide) (by decide)).to (st2 := [.ref 82, .ref 63]) (σ2 := (cI11, cL1, cS174, 83, 754999)) rfl (nw_tup (k := 82) _ _ rfl (fun _ => rfl) (fun _ => rfl))) ?_
  refine aa_go ((aa_putR iX12_init_165 fl_X12_271 (fun _ => rfl) (show (cI11, cL1, cS174, 83, 754999).2.2.1[63]? = some (.inr (.inl (12, [.int 0, .int 0, .ref 64, .int 0, .ref 65, .ref 66, .ref 67, .ref 68, .int 0, .ref 69, .int 0, .int 0, .int 0, .int 0, .ref 70, .ref 71, .ref 72, .int 0, .int 0, .int 0, .int 0, .ref 73, .ref 74, .ref 75, .int 0, .int 0, .ref 76, .ref 77, .ref 78, .ref 79, .ref 80, .ref 81, .null, .int 0, .int 0, .null, .null, .null]))) from rfl) (Nat.le_of_ble_eq_true rfl) (fun _ => ⟨rfl, rfl⟩)).to (st2 := []) (σ2 := (cI11, cL1, cS175, 83, 754999)) rfl (rfl)) ?_
  refine aa_go (aa_aload0 iX12_init_168) ?_
  refine aa_go (aa_iconst iX12_init_169 ki_3) ?_
  refine aa_go ((aa_newa (t := 2) (N := 3) iX12_init_170 la_boolean (fun _ => rfl) (by decide) rfl (by decide) (by decide) (by decide)).to (st2 := [.ref 83, .ref 63]) (σ2 := (cI11, cL1, cS176, 84, 755002)) rfl (nw_tup (k := 83) _ _ rfl (fun _ => rfl) (fun _ => rfl))) ?_
  refine aa_go ((aa_putR iX12_init_172 fl_X12_354 (fun _ => rfl) (show (cI11, cL1, cS176, 84, 755002).2.2.1[63]? = some (.inr (.inl (12, [.int 0, .int 0, .ref 64, .int 0, .ref 65, .ref 66, .ref 67, .ref 68, .int 0, .ref 69, .int 0, .int 0, .int 0, .int 0, .ref 70, .ref 71, .ref 72, .int 0, .int 0, .int 0, .int 0, .ref 73, .ref 74, .ref 75, .int 0, .int 0, .ref 76, .ref 77, .ref 78, .ref 79, .ref 80, .ref 81, .ref 82, .int 0, .int 0, .null, .null, .null]))) from rfl) (Nat.le_of_ble_eq_true rfl) (fun _ => ⟨rfl, rfl⟩)).to (st2 := []) (σ2 := (cI11, cL1, cS177, 84, 755002)) rfl (rfl)) ?_
  refine aa_go (aa_aload0 iX12_init_175) ?_
  refine aa_go (aa_iconst iX12_init_176 ki_3) ?_
  refine aa_go ((aa_newa (t := 0) (N := 3) iX12_init_177 la_int (fun _ => rfl) (by decide) rfl (by decide) (by decide) (by decide)).to (st2 := [.ref 84, .ref 63]) (σ2 := (cI11, cL1, cS178, 85, 755005)) rfl (nw_tup (k := 84) _ _ rfl (fun _ => rfl) (fun _ => rfl))) ?_
  refine aa_go ((aa_putR iX12_init_179 fl_X12_358 (fun _ => rfl) (show (cI11, cL1, cS178, 85, 755005).2.2.1[63]? = some (.inr (.inl (12, [.int 0, .int 0, .ref 64, .int 0, .ref 65, .ref 66, .ref 67, .ref 68, .int 0, .ref 69, .int 0, .int 0, .int 0, .int 0, .ref 70, .ref 71, .ref 72, .int 0, .int 0, .int 0, .int 0, .ref 73, .ref 74, .ref 75, .int 0, .int 0, .ref 76, .ref 77, .ref 78, .ref 79, .ref 80, .ref 81, .ref 82, .int 0, .int 0, .ref 83, .null, .null]))) from rfl) (Nat.le_of_ble_eq_true rfl) (fun _ => ⟨rfl, rfl⟩)).to (st2 := []) (σ2 := (cI11, cL1, cS179, 85, 755005)) rfl (rfl)) ?_
  refine aa_go (aa_aload0 iX12_init_182) ?_
  refine aa_go (aa_sipush iX12_init_183 ks_156) ?_
  refine aa_go ((aa_newa (t := 0) (N := 156) iX12_init_186 la_int (fun _ => rfl) (by decide) rfl (by decide) (by decide) (by decide)).to (st2 := [.ref 85, .ref 63]) (σ2 := (cI11, cL1, cS180, 86, 755161)) rfl (nw_tup (k := 85) _ _ rfl (fun _ => rfl) (fun _ => rfl))) ?_
  refine aa_go ((aa_putR iX12_init_188 fl_X12_361 (fun _ => rfl) (show (cI11, cL1, cS180, 86, 755161).2.2.1[63]? = some (.inr (.inl (12, [.int 0, .int 0, .ref 64, .int 0, .ref 65, .ref 66, .ref 67, .ref 68, .int 0, .ref 69, .int 0, .int 0, .int 0, .int 0, .ref 70, .ref 71, .ref 72, .int 0, .int 0, .int 0, .int 0, .ref 73, .ref 74, .ref 75, .int 0, .int 0, .ref 76, .ref 77, .ref 78, .ref 79, .ref 80, .ref 81, .ref 82, .int 0, .int 0, .ref 83, .ref 84, .null]))) from rfl) (Nat.le_of_ble_eq_true rfl) (fun _ => ⟨rfl, rfl⟩)).to (st2 := []) (σ2 := (cI11, cL1, cS181, 86, 755161)) rfl (rfl)) ?_
  refine aa_vret iX12_init_191 rfl ?_
  exact ⟨rfl, rfl⟩
