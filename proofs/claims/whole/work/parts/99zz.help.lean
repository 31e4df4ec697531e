/-! THE HELPERS' CONTRACTS -/
section
variable {M : aa_M} {d : Nat} {avs : List Value} {σ σ' : aa_St} {r : Option Value} {ls : aa_L}
/-- a contract of a method with a handler -/
def ee_SW (M : aa_M) (hh : List (Nat × Nat × Nat × Nat)) (d : Nat) (avs : List Value) (σ : aa_St) (r : Option Value) (σ' : aa_St) : Prop :=
  σ.2.2.2.1 ≤ σ'.2.2.2.1 ∧ σ.2.2.2.2 ≤ σ'.2.2.2.2 ∧ ∀ (l : Launch), ee_L l → ∀ (D : va_G) (cA : Nat → ClassId) (b : Nat) (z : Nat × Nat),
    Met l M.1 (Cond.codeWith M.1 M.2.1 M.2.2.1 M.2.2.2 hh :: aa_tb) { frames := d, cells := σ'.2.2.2.1 - σ.2.2.2.1, slots := σ'.2.2.2.2 - σ.2.2.2.2, locals := 100 * d } (ee_PX D cA b z avs σ) (aa_QX D cA b z r σ') (σ'.2.2.2.1 - σ.2.2.2.1) (σ'.2.2.2.2 - σ.2.2.2.2) (fun q => b ≤ q)
def ee_tbl (c : Code) (h : Nat × Nat × Nat × Nat) : Prop := ∃ x : ExceptionTableEntry, c.exceptionTable.toList = [x] ∧ x.startPc = h.1 ∧ x.endPc = h.2.1 ∧ x.handlerPc = h.2.2.1 ∧ x.catchType = h.2.2.2
theorem ee_SW_of {h : Nat × Nat × Nat × Nat} (hy : plainName M.1.cls = true) (n : Nat) (hls : aa_l1 avs ++ List.replicate n none = ls) (hn : ls.length = M.2.2.1) (h1 : σ.2.2.2.1 ≤ σ'.2.2.2.1) (h2 : σ.2.2.2.2 ≤ σ'.2.2.2.2)
    (body : ∀ (p : Program) (l : Launch) (e : Env) (R : Room) (s : State) (m : MethodId) (args : Array Value) (below : List Frame) (meth : Method) (c : Code) (D : va_G) (cA : Nat → ClassId) (b : Nat) (z : Nat × Nat), ee_L l → ee_K b s → ee_tbl c h → aa_OK M d p R s m args meth c D cA b z → σ'.2.2.2.1 - σ.2.2.2.1 ≤ R.cells → σ'.2.2.2.2 - σ.2.2.2.2 ≤ R.slots →
      aa_Cf p l e R s m args below meth c D cA b z σ.2.2.2.1 σ.2.2.2.2 (MQ below (aa_QX D cA b z r σ') args s (σ'.2.2.2.1 - σ.2.2.2.1) (σ'.2.2.2.2 - σ.2.2.2.2) (fun q => b ≤ q)) M.2.2.1 0 ls [] σ) : ee_SW M [h] d avs σ r σ' := by
  refine ⟨h1, h2, fun l hL D cA b z => ?_⟩
  refine va_MetW (cc := M.2.1) (maxL := M.2.2.1) (ret := M.2.2.2) (hh := [h]) hy rfl ?_
  intro p e s m args below meth c s₁ B hml hv
  obtain ⟨⟨rfl, hP, hsz, hK, hXL, hNW⟩, hEK⟩ := hv
  have hts := atoms_spec (ws := Cond.codeWith M.1 M.2.1 M.2.2.1 M.2.2.2 [h] :: aa_tb) B.pre
  have hown : s.vm.findClass M.1.cls = some m.cls := findClass_of_methodNamed B.named
  have hin : meth.name = M.1.name := (name_of_methodNamed B.named B.method).1
  obtain ⟨m', meth', c', m0, m1, m2, -, -, m3, -⟩ := Cond.codeWith_spec (hts _ List.mem_cons_self)
  have X0 := Stand.of_body B
  cases B.named.symm.trans m0
  cases m1.symm.trans X0.method
  cases m2.symm.trans X0.code
  have hT : ee_tbl c h := by
    cases ht : c.exceptionTable.toList with
    | nil => rw [ht] at m3; cases m3
    | cons x t =>
      cases t with
      | nil =>
        rw [ht] at m3
        simp only [List.map_cons, List.map_nil, List.cons.injEq, and_true] at m3
        exact ⟨x, ht, by rw [← m3], by rw [← m3], by rw [← m3], by rw [← m3]⟩
      | cons y t => rw [ht] at m3; cases m3
  have ok : aa_OK M d p (headSpec (Cond.codeWith M.1 M.2.1 M.2.2.1 M.2.2.2 [h] :: aa_tb) { frames := d, cells := σ'.2.2.2.1 - σ.2.2.2.1, slots := σ'.2.2.2.2 - σ.2.2.2.2, locals := 100 * d }).room s m (avs.map (aa_tr b z)).toArray meth c D cA b z :=
    ⟨B.exec, B.bytes, hml, hown, fun w hw => hts w (List.mem_cons_of_mem _ hw), B.returns, B.notSynchronized, hin, hK, by omega, Nat.le_refl _, Nat.le_refl _, hXL, hNW⟩
  have key := body p l e _ s m _ below meth c D cA b z hL hEK hT ok (Nat.le_refl _) (Nat.le_refl _)
  have hle : (lg_sl (avs.map (aa_tr b z))).length ≤ M.2.2.1 := by rw [aa_l1_len, ← hn, ← hls]; simp
  have hl := lv_entry (avs.map (aa_tr b z)) (n := M.2.2.1) hle
  rw [lg_entry_eq]
  have k2 := key s.heap [] _ hP hsz va_S.rf (show aa_lv b z _ M.2.2.1 _ from ⟨hl.1, hl.2.1, fun q hq => hl.2.2 q (aa_l1_args b z avs 0 q (by rw [← hls, aa_al_app] at hq; exact hq))⟩)
  rw [Nat.sub_self, Nat.sub_self] at k2
  exact k2
/-- on a road where nothing is thrown -/
theorem ee_SW_go {h : Nat × Nat × Nat × Nat} (hy : plainName M.1.cls = true) (n : Nat) (hls : aa_l1 avs ++ List.replicate n none = ls) (hn : ls.length = M.2.2.1) (hv : aa_V M d 0 ls [] σ (fun r1 σ1 => r1 = r ∧ σ1 = σ')) : ee_SW M [h] d avs σ r σ' := by
  obtain ⟨r1, σ1, ⟨rfl, rfl⟩, v1, v2, v3⟩ := hv
  exact ee_SW_of hy n hls hn v1 v2 (fun p l e R s m args below meth c D cA b z _ _ _ ok hc hs => v3 p l e R s m args below meth c D cA b z _ _ ok (Nat.le_refl _) (Nat.le_refl _) hc hs)
end
abbrev uS : aa_Shp := .inr (.inr (.inr ()))
section
variable {P : pl_T} {tx : Nat → Nat} {n : Nat} {g : gm_T} {kp : Nat → Option gm_T} {lk tl : Nat} {rw : Nat → Int} {N v W S R : Nat} {r : Nat → Nat} {dy : List aa_Shp} {σ : aa_St}
/-- the class's throws -/
theorem t_thing (h : XIv P tx n g kp lk tl rw N v W S R r dy σ) {x y : Int32} (hx : ¬ (0 ≤ x ∧ x < nI (pl_n P)) ∨ (y < 0 ∨ nI 5 < y)) : ee_SX mX11_thing 100 [.ref 0, .int x, .int y] σ := by
  have hg : aa_Go mX11_thing 100 0 [some (.ref 0), some (.int x), some (.int y)] [] σ 20 [some (.ref 0), some (.int x), some (.int y)] [] σ := by
    have g1 : aa_Go mX11_thing 100 0 [some (.ref 0), some (.int x), some (.int y)] [] σ 8 [some (.ref 0), some (.int x), some (.int y)] [.int (nI (decide (0 ≤ x ∧ x < nI (pl_n P))).toNat)] σ :=
      (aa_aload0 iX11_thing_0).trans ((aa_getR iX11_thing_1 fl_X11_19 (sh_0 h.1) rfl).trans ((aa_iload1 iX11_thing_4).trans (aa_cVi iX11_thing_5 (c_X6_has h.1 h.X x) (by decide) lc_X6_has lk_X11_115 (sh_7 h.1) rfl rfl (Nat.le_of_ble_eq_true rfl))))
    by_cases c1 : 0 ≤ x ∧ x < nI (pl_n P)
    · rw [decide_eq_true c1] at g1
      have g2 := g1.trans ((aa_if_eqF iX11_thing_8 (by decide)).trans (aa_iload2 iX11_thing_11))
      have hy : y < 0 ∨ nI 5 < y := hx.resolve_left (fun q => q c1)
      by_cases c2 : y < 0
      · exact g2.trans (aa_if_ltT iX11_thing_12 c2)
      · have c3 := hy.resolve_left c2
        exact g2.trans ((aa_if_ltF iX11_thing_12 c2).trans ((aa_iload2 iX11_thing_15).trans ((aa_iconst (v := nI 5) iX11_thing_16 rfl).trans (aa_ic_leF iX11_thing_17 (Int32.not_le.mpr c3)))))
    · rw [decide_eq_false c1] at g1
      exact g1.trans (aa_if_eqT iX11_thing_8 rfl)
  exact ee_SX_of (ix := 118) (ic := 122) (is := 120) (k := 2) (text := "no such thing") (by decide) rfl 0 rfl rfl hg (Or.inl rfl) iX11_thing_20.1 iX11_thing_23.1 (Or.inl ⟨iX11_thing_24.1, rfl⟩) iX11_thing_26.1 iX11_thing_29.1 (by decide) (by decide)
theorem t_row (h : XIv P tx n g kp lk tl rw N v W S R r dy σ) {x : Int32} (hx : ¬ (0 ≤ x ∧ x < nI tl)) : ee_SX mX11_row 100 [.ref 0, .int x] σ := by
  obtain ⟨t1, t2, t3⟩ := h.T.2.2.2.2
  have hg : aa_Go mX11_row 100 0 [some (.ref 0), some (.int x)] [] σ 21 [some (.ref 0), some (.int x)] [] σ := by
    by_cases c1 : x < 0
    · exact (aa_iload1 iX11_row_0).trans (aa_if_ltT iX11_row_1 c1)
    · exact (aa_iload1 iX11_row_0).trans ((aa_if_ltF iX11_row_1 c1).trans ((aa_iload1 iX11_row_4).trans ((aa_aload0 iX11_row_5).trans ((aa_getE iX11_row_6 fl_X11_93 (sh_0 h.1) rfl t1).trans (aa_ic_geT iX11_row_9 (Int32.not_lt.mp (fun q => hx ⟨Int32.not_lt.mp c1, q⟩)))))))
  exact ee_SX_of (ix := 118) (ic := 122) (is := 379) (k := 3) (text := "no such number") (by decide) rfl 0 rfl rfl hg (Or.inr rfl) iX11_row_21.1 iX11_row_24.1 (Or.inr ⟨iX11_row_25.1, rfl⟩) iX11_row_28.1 iX11_row_31.1 (by decide) (by decide)
theorem lk_L_13 : aa_lk (.classLink RL 13 ee_N) := ⟨aa_t6 12 rfl, rfl⟩
/-- the helpers, when the class throws -/
theorem s_thingT (h : aa_W r dy σ) {x y : Int32} (hT : ee_SX mX11_thing 100 [.ref 0, .int x, .int y] σ) : ee_SW mL_thing [(0, 10, 13, 13)] 101 [.ref 0, .int x, .int y, .ref 86] σ (some (.int (nI 1))) (aa_nw σ uS 6) := by
  refine ee_SW_of (ls := [some (.ref 0), some (.int x), some (.int y), some (.ref 86), none]) (by decide) 1 rfl rfl (Nat.le_succ _) (Nat.le_add_right _ _) ?_
  intro p l e R s m args below meth c D cA b z hL hK hTb ok hc hs
  obtain ⟨xt, t1, t2, t3, t4, t5⟩ := hTb
  have g1 : aa_Go mL_thing 101 0 [some (.ref 0), some (.int x), some (.int y), some (.ref 86), none] [] σ 5 [some (.ref 0), some (.int x), some (.int y), some (.ref 86), none] [.int y, .int x, .ref 0, .int (nI 0), .ref 86] σ :=
    (aa_aload3 iL_thing_0).trans ((aa_iconst (v := nI 0) iL_thing_1 rfl).trans ((aa_aload0 iL_thing_2).trans ((aa_iload1 iL_thing_3).trans (aa_iload2 iL_thing_4))))
  have g2 : aa_V mL_thing 101 13 [some (.ref 0), some (.int x), some (.int y), some (.ref 86), none] [.ref σ.2.2.1.length] (aa_nw σ uS 6) (fun r1 σ1 => r1 = some (.int (nI 1)) ∧ σ1 = aa_nw σ uS 6) :=
    aa_go (aa_astore4 iL_thing_13 rfl (by decide)) (aa_go (aa_iconst (v := nI 1) iL_thing_15 rfl) (aa_iret iL_thing_16 rfl ⟨rfl, rfl⟩))
  obtain ⟨r1, σ1, ⟨rfl, rfl⟩, -, -, g3⟩ := g2
  have hcov : covers xt 5 = true := by simp only [covers, t2, t3]; decide
  have k := g3 p l e R s m args below meth c D cA b z σ.2.2.2.1 σ.2.2.2.2 ok (Nat.le_succ _) (Nat.le_add_right _ _) hc hs
  refine g1.2.2 p l e R s m args below meth c D cA b z _ _ _ ok (Nat.le_refl _) (Nat.le_refl _) (by omega) (by omega) ?_
  refine ee_callT (st := [.int (nI 0), .ref 86]) (As := [.int x, .int y]) (x := xt) ok hL hK iL_thing_5 hT (by decide) lc_X11_thing lk_L_7 (sh_0 h) rfl rfl (by decide) t1 hcov (by rw [t5]; decide) (by rw [t5]; exact lk_L_13) (Nat.le_refl _) (Nat.le_refl _) hc hs ?_
  rw [t4]
  exact k
theorem s_rowT (h : aa_W r dy σ) {x : Int32} (hT : ee_SX mX11_row 100 [.ref 0, .int x] σ) : ee_SW mL_row [(0, 8, 11, 13)] 101 [.ref 0, .int x, .ref 86] σ (some (.int (nI 1))) (aa_nw σ uS 6) := by
  refine ee_SW_of (ls := [some (.ref 0), some (.int x), some (.ref 86), none]) (by decide) 1 rfl rfl (Nat.le_succ _) (Nat.le_add_right _ _) ?_
  intro p l e R s m args below meth c D cA b z hL hK hTb ok hc hs
  obtain ⟨xt, t1, t2, t3, t4, t5⟩ := hTb
  have g1 : aa_Go mL_row 101 0 [some (.ref 0), some (.int x), some (.ref 86), none] [] σ 4 [some (.ref 0), some (.int x), some (.ref 86), none] [.int x, .ref 0, .int (nI 0), .ref 86] σ :=
    (aa_aload2 iL_row_0).trans ((aa_iconst (v := nI 0) iL_row_1 rfl).trans ((aa_aload0 iL_row_2).trans (aa_iload1 iL_row_3)))
  have g2 : aa_V mL_row 101 11 [some (.ref 0), some (.int x), some (.ref 86), none] [.ref σ.2.2.1.length] (aa_nw σ uS 6) (fun r1 σ1 => r1 = some (.int (nI 1)) ∧ σ1 = aa_nw σ uS 6) :=
    aa_go (aa_astore3 iL_row_11 rfl (by decide)) (aa_go (aa_iconst (v := nI 1) iL_row_12 rfl) (aa_iret iL_row_13 rfl ⟨rfl, rfl⟩))
  obtain ⟨r1, σ1, ⟨rfl, rfl⟩, -, -, g3⟩ := g2
  have hcov : covers xt 4 = true := by simp only [covers, t2, t3]; decide
  have k := g3 p l e R s m args below meth c D cA b z σ.2.2.2.1 σ.2.2.2.2 ok (Nat.le_succ _) (Nat.le_add_right _ _) hc hs
  refine g1.2.2 p l e R s m args below meth c D cA b z _ _ _ ok (Nat.le_refl _) (Nat.le_refl _) (by omega) (by omega) ?_
  refine ee_callT (st := [.int (nI 0), .ref 86]) (As := [.int x]) (x := xt) ok hL hK iL_row_4 hT (by decide) lc_X11_row lk_L_15 (sh_0 h) rfl rfl (by decide) t1 hcov (by rw [t5]; decide) (by rw [t5]; exact lk_L_13) (Nat.le_refl _) (Nat.le_refl _) hc hs ?_
  rw [t4]
  exact k
/-- the helpers, when the class answers -/
theorem s_thing {r' : Nat → Nat} {dy' : List aa_Shp} {σ1 : aa_St} (h : aa_W r dy σ) (h' : aa_W r' dy' σ1) {x y w : Int32} (hS : aa_SX mX11_thing 100 [.ref 0, .int x, .int y] σ (some (.int w)) σ1) : ee_SW mL_thing [(0, 10, 13, 13)] 101 [.ref 0, .int x, .int y, .ref 86] σ (some (.int (nI 0))) (aa_sL σ1 86 0 w.toInt64) := by
  refine ee_SW_go (ls := [some (.ref 0), some (.int x), some (.int y), some (.ref 86), none]) (by decide) 1 rfl rfl ?_
  refine aa_go (aa_aload3 iL_thing_0) (aa_go (aa_iconst (v := nI 0) iL_thing_1 rfl) (aa_go (aa_aload0 iL_thing_2) (aa_go (aa_iload1 iL_thing_3) (aa_go (aa_iload2 iL_thing_4) ?_))))
  refine aa_go (aa_cVi iL_thing_5 hS (by decide) lc_X11_thing lk_L_7 (sh_0 h) rfl rfl (Nat.le_of_ble_eq_true rfl)) ?_
  exact aa_go (aa_i2l iL_thing_8) (aa_go (aa_lasN iL_thing_9 (sh_86 h') (by decide) (by decide)) (aa_go (aa_goto iL_thing_10) (aa_go (aa_iconst (v := nI 0) iL_thing_17 rfl) (aa_iret iL_thing_18 rfl ⟨rfl, rfl⟩))))
theorem s_row {r' : Nat → Nat} {dy' : List aa_Shp} {σ1 : aa_St} (h : aa_W r dy σ) (h' : aa_W r' dy' σ1) {x : Int32} {w : Int64} (hS : aa_SX mX11_row 100 [.ref 0, .int x] σ (some (.long w)) σ1) : ee_SW mL_row [(0, 8, 11, 13)] 101 [.ref 0, .int x, .ref 86] σ (some (.int (nI 0))) (aa_sL σ1 86 0 w) := by
  refine ee_SW_go (ls := [some (.ref 0), some (.int x), some (.ref 86), none]) (by decide) 1 rfl rfl ?_
  refine aa_go (aa_aload2 iL_row_0) (aa_go (aa_iconst (v := nI 0) iL_row_1 rfl) (aa_go (aa_aload0 iL_row_2) (aa_go (aa_iload1 iL_row_3) ?_)))
  refine aa_go (aa_cVl iL_row_4 hS (by decide) lc_X11_row lk_L_15 (sh_0 h) rfl rfl (Nat.le_of_ble_eq_true rfl)) ?_
  exact aa_go (aa_lasN iL_row_7 (sh_86 h') (by decide) (by decide)) (aa_go (aa_goto iL_row_8) (aa_go (aa_iconst (v := nI 0) iL_row_14 rfl) (aa_iret iL_row_15 rfl ⟨rfl, rfl⟩)))
end
