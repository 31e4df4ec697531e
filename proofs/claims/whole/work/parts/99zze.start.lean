/-! WHAT THE STATEMENT GIVES AT THE LAW'S ENTRY -/
section
variable {s : State} {args : Array Value}
theorem st_arr {ty : FieldType} (h : (Cond.arrayClass ty).before args s = true) : ∃ c k comp, s.vm.findClass ("[" ++ ty.toString) = some c ∧ s.vm.classes[c]? = some k ∧ k.kind = .array comp ty := Cond.arrayClass_spec h
theorem st_arrT {ty : FieldType} {c : ClassId} {k : Class} {comp : ClassId} (h2 : s.vm.classes[c]? = some k) (h3 : k.kind = .array comp ty) : ArrOfT s c ty := fun n z => ⟨(fun q h => by cases h), k, h2, comp, h3⟩
theorem st_K (hts : ∀ w ∈ lw_tbl, w.before args s = true) : ∃ (D : va_G) (cA : Nat → ClassId), va_K D vwCl (aa_tys cA) s := by
  have htb : ∀ w ∈ aa_tb, w.before args s = true := fun w hw => hts w (List.mem_filter.mp hw).1
  obtain ⟨cX0, iX0, kX0⟩ := u_known htb icX0 (hts (.instantiable RX0 11) (aa_t2 60 rfl))
  obtain ⟨cX1, iX1, kX1⟩ := u_known htb icX1 (hts (.instantiable RX1 9) (aa_t2 8 rfl))
  obtain ⟨cX2, iX2, kX2⟩ := u_known htb icX2 (hts (.instantiable RX2 5) (aa_t1 130 rfl))
  obtain ⟨cX3, iX3, kX3⟩ := u_known htb icX3 (hts (.instantiable RX3 6) (aa_t1 192 rfl))
  obtain ⟨cX4, iX4, kX4⟩ := u_known htb icX4 (hts (.instantiable RX4 2) (aa_t1 159 rfl))
  obtain ⟨cX5, iX5, kX5⟩ := u_known htb icX5 (hts (.instantiable RX5 3) (aa_t2 42 rfl))
  obtain ⟨cX6, iX6, kX6⟩ := u_known htb icX6 (hts (.instantiable RX6 16) (aa_t1 75 rfl))
  obtain ⟨cX7, iX7, kX7⟩ := u_known htb icX7 (hts (.instantiable RX7 12) (aa_t1 30 rfl))
  obtain ⟨cX8, iX8, kX8⟩ := u_known htb icX8 (hts (.instantiable RX8 1) (aa_t1 219 rfl))
  obtain ⟨cX9, iX9, kX9⟩ := u_known htb icX9 (hts (.instantiable RX9 6) (aa_t1 153 rfl))
  obtain ⟨cX10, iX10, kX10⟩ := u_known htb icX10 (hts (.instantiable RX10 3) (aa_t1 230 rfl))
  obtain ⟨cX11, iX11, kX11⟩ := u_known htb icX11 (hts (.instantiable RX11 14) (aa_t1 22 rfl))
  obtain ⟨cX12, iX12, kX12⟩ := u_known htb icX12 (hts (.instantiable RX12 38) (aa_t6 124 rfl))
  obtain ⟨a0, q0, m0, x0, y0, z0⟩ := st_arr (hts (.arrayClass .int) (aa_t1 72 rfl))
  obtain ⟨a1, q1, m1, x1, y1, z1⟩ := st_arr (hts (.arrayClass .long) (aa_t1 171 rfl))
  obtain ⟨a2, q2, m2, x2, y2, z2⟩ := st_arr (hts (.arrayClass .boolean) (aa_t1 73 rfl))
  obtain ⟨a3, q3, m3, x3, y3, z3⟩ := st_arr (hts (.arrayClass .byte) (aa_t1 228 rfl))
  obtain ⟨m4, a4, q4, w4, -, y4, z4, x4⟩ := Cond.arrayOver_spec (hts (.arrayOver (.object "AllAboveIt$Game")) (aa_t1 151 rfl))
  refine ⟨(fun c => [cX0, cX1, cX2, cX3, cX4, cX5, cX6, cX7, cX8, cX9, cX10, cX11, cX12].getD c 0, fun c => [iX0, iX1, iX2, iX3, iX4, iX5, iX6, iX7, iX8, iX9, iX10, iX11, iX12].getD c (fun _ => 0)), fun t => [a0, a1, a2, a3, a4].getD t 0, fun c q hq => ?_, fun k q hq => ?_⟩
  · have hc : c < 13 := (List.getElem?_eq_some_iff.mp hq).1
    rcases (show c = 0 ∨ c = 1 ∨ c = 2 ∨ c = 3 ∨ c = 4 ∨ c = 5 ∨ c = 6 ∨ c = 7 ∨ c = 8 ∨ c = 9 ∨ c = 10 ∨ c = 11 ∨ c = 12 by omega) with rfl | rfl | rfl | rfl | rfl | rfl | rfl | rfl | rfl | rfl | rfl | rfl | rfl
    · cases hq; exact kX0
    · cases hq; exact kX1
    · cases hq; exact kX2
    · cases hq; exact kX3
    · cases hq; exact kX4
    · cases hq; exact kX5
    · cases hq; exact kX6
    · cases hq; exact kX7
    · cases hq; exact kX8
    · cases hq; exact kX9
    · cases hq; exact kX10
    · cases hq; exact kX11
    · cases hq; exact kX12
  · have hc : k < 5 := (List.getElem?_eq_some_iff.mp hq).1
    rcases (show k = 0 ∨ k = 1 ∨ k = 2 ∨ k = 3 ∨ k = 4 by omega) with rfl | rfl | rfl | rfl | rfl
    · cases hq; exact ⟨st_arrT y0 z0, x0⟩
    · cases hq; exact ⟨st_arrT y1 z1, x1⟩
    · cases hq; exact ⟨st_arrT y2 z2, x2⟩
    · cases hq; exact ⟨st_arrT y3 z3, x3⟩
    · cases hq; exact ⟨st_arrT y4 z4, q4, m4, y4, z4, w4, x4⟩
theorem st_NW (hts : ∀ w ∈ lw_tbl, w.before args s = true) : aa_NW s := by
  refine ⟨fun w hw => ?_, va_AO.of (hts _ (aa_t1 151 rfl))⟩
  simp only [aa_nest, List.mem_cons, List.not_mem_nil, or_false] at hw
  rcases hw with rfl | rfl | rfl | rfl | rfl | rfl | rfl
  · exact va_Nw.of rfl (hts _ (aa_t1 31 rfl))
  · exact va_Nw.of rfl (hts _ (aa_t1 76 rfl))
  · exact va_Nw.of rfl (hts _ (aa_t1 160 rfl))
  · exact va_Nw.of rfl (hts _ (aa_t1 198 rfl))
  · exact va_Nw.of rfl (hts _ (aa_t1 220 rfl))
  · exact va_Nw.of rfl (hts _ (aa_t1 236 rfl))
  · exact va_Nw.of rfl (hts _ (aa_t2 48 rfl))
theorem st_len {tm : Term} {t : Nat} {cell : Cell} {v : Value} (hl : (Term.length tm).eval args s none [] s = some v) (ht : tm.eval args s none [] s = some (.ref t)) (g2 : s.arrayAt? t = some cell) : cell.slots.size < 2147483648 := by
  simp only [Term.eval, ht, g2, Option.bind_eq_bind, Option.bind_some] at hl
  by_cases q : cell.slots.size < 2147483648
  · exact q
  · simp [q] at hl
/-- the static row -/
theorem st_least (h : (Jvm.Cond.and given_1 narrow_1).before args s = true) : ∃ t : Nat, (Term.static "AllAboveItModel" "LEAST" "[I").eval args s none [] s = some (.ref t) ∧ va_X t 7 aa_ls7 s s.heap := by
  have hs := flat_of_before _ h
  have harr : (Cond.arrayOf (.static "AllAboveItModel" "LEAST" "[I") .int).before args s = true := hs _ (by decide +kernel)
  have hlen := va_eqt (hs (.eq (.length (.static "AllAboveItModel" "LEAST" "[I")) (.int 7)) (by decide +kernel))
  have e0 := va_eqt (hs (.eq (.elem (.static "AllAboveItModel" "LEAST" "[I") (.int 0)) (.int 1)) (by decide +kernel))
  have e1 := va_eqt (hs (.eq (.elem (.static "AllAboveItModel" "LEAST" "[I") (.int 1)) (.int 1)) (by decide +kernel))
  have e2 := va_eqt (hs (.eq (.elem (.static "AllAboveItModel" "LEAST" "[I") (.int 2)) (.int 2)) (by decide +kernel))
  have e3 := va_eqt (hs (.eq (.elem (.static "AllAboveItModel" "LEAST" "[I") (.int 3)) (.int 6)) (by decide +kernel))
  have e4 := va_eqt (hs (.eq (.elem (.static "AllAboveItModel" "LEAST" "[I") (.int 4)) (.int 12)) (by decide +kernel))
  have e5 := va_eqt (hs (.eq (.elem (.static "AllAboveItModel" "LEAST" "[I") (.int 5)) (.int 60)) (by decide +kernel))
  have e6 := va_eqt (hs (.eq (.elem (.static "AllAboveItModel" "LEAST" "[I") (.int 6)) (.int 60)) (by decide +kernel))
  obtain ⟨t, ht, cell, c1, c2, c3, c4, c5, c6, -⟩ := va_Tof (A := fun _ => False) (N := 7) (f := fun j => .int (aa_ls7 j)) (by decide) harr hlen (fun j hj => by
    rcases (show j = 0 ∨ j = 1 ∨ j = 2 ∨ j = 3 ∨ j = 4 ∨ j = 5 ∨ j = 6 by omega) with rfl | rfl | rfl | rfl | rfl | rfl | rfl
    · exact e0
    · exact e1
    · exact e2
    · exact e3
    · exact e4
    · exact e5
    · exact e6) (fun _ _ q => q)
  refine ⟨t, ht, cell, c1, c2, c3, ?_, c6⟩
  obtain ⟨t', cell', g1, g2, -⟩ := Term.length_spec hlen
  cases ht.symm.trans g1
  have hsz := st_len hlen ht g2
  cases c1.symm.trans (State.arrayAt?_spec g2).1
  have e9 : (Int32.ofNat cell.slots.size).toInt = (Int32.ofNat 7).toInt := congrArg Int32.toInt c5
  rw [Int32.toInt_ofNat_of_lt hsz] at e9
  have : (Int32.ofNat 7).toInt = 7 := by decide
  omega
/-- the static fields of the exceptions -/
theorem st_lays {U : State} (hW : s.WarmedH U.vm) (hq : ∀ q, q < s.heap.size → U.heap[q]? = s.heap[q]?) {C n d : String} (h : (Cond.laysStatic C n d).before args s = true) (args' : Array Value) : (Cond.laysStatic C n d).before args' U = true := by
  obtain ⟨c, k, i, f, a, cell, hc, hi, hst, ha, hcell, hs, hcls, hlt, hty⟩ := Cond.laysStatic_spec h
  obtain ⟨k', hi', hek⟩ := State.fieldFound?_setVm hW.alike hi
  exact Cond.laysStatic_of (s := U) (by rw [hW.alike.findClass]; exact hc) hi' hst (by rw [hek]; exact ha) (by rw [hq a (Array.getElem?_eq_some_iff.mp hcell).1]; exact hcell) hs hcls hlt (by rw [hek]; exact hty)
theorem st_isr {U : State} (hW : s.WarmedH U.vm) (hq : ∀ q, q < s.heap.size → U.heap[q]? = s.heap[q]?) {C n d : String} (h : (Cond.laysStatic C n d).before args s = true) (h2 : (Cond.isRef (.static C n d)).before args s = true) (args' : Array Value) : (Cond.isRef (.static C n d)).before args' U = true := by
  obtain ⟨c, k, i, f, a, cell, hc, hi, hst, ha, hcell, hs, hcls, hlt, hty⟩ := Cond.laysStatic_spec h
  obtain ⟨k', hi', hek⟩ := State.fieldFound?_setVm hW.alike hi
  have hi2 : U.fieldFound? C n d = some (c, k', i, f) := hi'
  have ha' : k'.statics = some a := by rw [hek]; exact ha
  have hcU : U.heap[a]? = some cell := by rw [hq a (Array.getElem?_eq_some_iff.mp hcell).1]; exact hcell
  have e1 : (Term.static C n d).eval args s none [] s = cell.slots[f.slot]? := by simp [Term.eval, State.fieldNamed?, hi, hst, ha, hcell, hs]
  have e2 : (Term.static C n d).eval args' U none [] U = cell.slots[f.slot]? := by simp [Term.eval, State.fieldNamed?, hi2, hst, ha', hcU, hs]
  simp only [Cond.before, Cond.holds, Cond.value, e1] at h2
  simp only [Cond.before, Cond.holds, Cond.value, e2]
  exact h2
end
