/-! EXCEPTIONS: thrown by the class, caught by the law -/
section
variable {p : Program} {l : Launch} {e : Env} {R : Room} {s : State} {m : MethodId} {args : Array Value} {below : List Frame} {meth : Method} {c : Code} {T : State} {locs : List Loc} {cells slots : Nat}
/-- the walk seen from where it stands -/
def ee_at (s T : State) : State := { s with heap := T.heap, slotsUsed := T.slotsUsed, vm := T.vm }
theorem ee_room (X : Stand p l e R s m args below meth c T locs cells slots) (hc : cells ≤ R.cells) (hs : slots ≤ R.slots) : (ee_at s T).hasRoom e.platform { R with cells := R.cells - cells, slots := R.slots - slots } = true := by
  have h := X.room
  have hb := X.book
  have hF : (ee_at s T).frames = .invoking m args :: below := X.frames
  have hm' : (ee_at s T).vm.method? m = some meth := by
    show T.vm.method? m = some meth
    rw [X.warmed.alike.method?]; exact X.method
  have hU : (ee_at s T).localsInUse = s.localsInUse := by
    rw [State.localsInUse_invoking hF hm' X.code, State.localsInUse_invoking X.frames X.method X.code]
  obtain ⟨q1, q2, q3, q4, q5, q6⟩ := X.same
  unfold State.hasRoom at h ⊢
  rw [hU]
  simp only [Bool.and_eq_true, decide_eq_true_eq] at h ⊢
  obtain ⟨⟨⟨⟨h1, h2⟩, h3⟩, h4⟩, h5⟩ := h
  have q3' : T.heap.size ≤ s.heap.size + cells := q3
  have q4' : T.slotsUsed = s.slotsUsed + ((T.heap.toList.drop s.heap.size).map (·.slots.size)).sum := q4
  have q5' : ((T.heap.toList.drop s.heap.size).map (·.slots.size)).sum ≤ slots := q5
  refine ⟨⟨⟨⟨h1, h2⟩, ?_⟩, ?_⟩, ?_⟩
  · show T.heap.size + (R.cells - cells) ≤ _
    omega
  · show T.slotsUsed + (R.slots - slots) ≤ _
    omega
  · exact hb
theorem ee_stand (X : Stand p l e R s m args below meth c T locs cells slots) (hc : cells ≤ R.cells) (hs : slots ≤ R.slots) : Stand p l e { R with cells := R.cells - cells, slots := R.slots - slots } (ee_at s T) m args below meth c T [] 0 0 := by
  have hm' : (ee_at s T).vm.method? m = some meth := by
    show T.vm.method? m = some meth
    rw [X.warmed.alike.method?]; exact X.method
  have hmeth : ∀ mm : MethodId, (ee_at s T).vm.method? mm = s.vm.method? mm := fun mm => X.warmed.alike.method? mm
  have hcode : ∀ mm : MethodId, (ee_at s T).code? mm = s.code? mm := fun mm => by
    rw [State.code?_eq, State.code?_eq, hmeth]
  have hhears : (ee_at s T).hears m below = true := by
    have h := X.hears
    cases hb : below with
    | nil => rw [hb] at h; simp only [State.hears] at h ⊢; rw [hmeth]; exact h
    | cons f r =>
      rw [hb] at h
      cases f <;> simp only [State.hears] at h ⊢ <;> first | (rw [hcode]; exact h) | (rw [hmeth]; exact h) | exact h
  obtain ⟨q1, q2, q3, q4, q5, q6⟩ := X.same
  refine ⟨X.admits, X.cas, X.clock, X.frames, ee_room X hc hs, hhears, hm', X.code, X.here, X.tail, State.WarmedH.refl _, X.limits, X.bytes, ?_, Nat.le_refl _, Nat.le_refl _, ?_, ?_, ?_⟩
  · show T.setVm T.vm = _
    have : T = (T.setVm s.vm).setVm T.vm := rfl
    rw [q1] at this
    exact this
  · show T.slotsUsed = T.slotsUsed + _
    have : (T.heap.toList.drop T.heap.size) = [] := by simp
    show T.slotsUsed = T.slotsUsed + ((T.heap.toList.drop T.heap.size).map _).sum
    rw [this]; rfl
  · show ((T.heap.toList.drop T.heap.size).map _).sum ≤ 0
    have : (T.heap.toList.drop T.heap.size) = [] := by simp
    rw [this]; exact Nat.le_refl _
  · intro a cl h
    exact ⟨cl, h, rfl, rfl, fun _ _ => rfl⟩
end
def ee_N : String := "java/util/NoSuchElementException"

section
variable {p : Program} {l : Launch} {e : Env} {R : Room} {s : State} {m : MethodId} {args : Array Value} {below : List Frame} {meth : Method} {c : Code} {H : Heap} {locs : List Loc} {cells slots : Nat} {Q : State → Prop} {cc : ByteArray} {pc : Nat} {ls : Array Slot} {rest : List Value}
theorem ee_ldcs (hexec : p.tables.exec = Jvm.exec) (hb : c.code = cc) {own text : String} {index : Nat} (hown : s.vm.findClass own = some m.cls) (hs : (Jvm.Cond.stringRef own index text).before args s = true) (hdg : decode cc pc = .ok (.ldc index, 2))
    (k : ∀ a : Nat, W p l e R s m args below meth c H locs cells slots Q (F0 m (pc + 2) ls (.ref a :: rest))) : W p l e R s m args below meth c H locs cells slots Q (F0 m pc ls rest) := by
  intro T hT X
  have h2 := Cond.stringRef_warmed X.warmed hs
  obtain ⟨k1, cf, i, a, h1, hcf, hc, -, hr, -⟩ := Cond.stringRef_spec (cur := m.cls) (by rw [State.vm_setVm, X.warmed.alike.findClass]; exact hown) h2
  obtain ⟨t, st, q⟩ := k a T hT X
  refine ⟨t, ?_, q⟩
  subst hb
  jvm_step X.here [hexec, hdg, ldc.wp_string (s := T) (f := F0 m pc ls rest) X.here.top h1 hcf hc hr]
  exact st
theorem ee_ldcsw (hexec : p.tables.exec = Jvm.exec) (hb : c.code = cc) {own text : String} {index : Nat} (hown : s.vm.findClass own = some m.cls) (hs : (Jvm.Cond.stringRef own index text).before args s = true) (hdg : decode cc pc = .ok (.ldc_w index, 3))
    (k : ∀ a : Nat, W p l e R s m args below meth c H locs cells slots Q (F0 m (pc + 3) ls (.ref a :: rest))) : W p l e R s m args below meth c H locs cells slots Q (F0 m pc ls rest) := by
  intro T hT X
  have h2 := Cond.stringRef_warmed X.warmed hs
  obtain ⟨k1, cf, i, a, h1, hcf, hc, -, hr, -⟩ := Cond.stringRef_spec (cur := m.cls) (by rw [State.vm_setVm, X.warmed.alike.findClass]; exact hown) h2
  obtain ⟨t, st, q⟩ := k a T hT X
  refine ⟨t, ?_, q⟩
  subst hb
  jvm_step X.here [hexec, hdg, ldc_w.wp_string (s := T) (f := F0 m pc ls rest) X.here.top h1 hcf hc hr]
  exact st
end
/-- what is left behind by a throw: nothing but the new object -/
def ee_Q (s : State) (below : List Frame) : State → Prop := fun U => U.status = .running ∧ Ended U below (.threw s.heap.size) ∧ s.WarmedH U.vm ∧ s.sameButNew ({ U with vm := s.vm } : State) [] 1 6 ∧ ∃ ce : Cell, U.heap[s.heap.size]? = some ce ∧ s.vm.findClass ee_N = some ce.cls ∧ ce.vm = .none ∧ s.vm.assignable ce.cls ce.cls = true
/-- the constructor of the exception: it hands on to the class above it -/
def ee_b13 : ByteArray := ⟨#[0x2a, 0x2b, 0xb7, 0x00, 0x0d, 0xb1]⟩
def ee_R : String := "java/lang/RuntimeException"
def ee_at2 : List Cond := [.selects ee_N Bundle.tFill0 Bundle.tFill0, .selects ee_N Bundle.tFill Bundle.tFill, .lays ee_N Bundle.tN "cause" "Ljava/lang/Throwable;", .lays ee_N Bundle.tN "stackTrace" Bundle.steD, .lays ee_N Bundle.tN "suppressedExceptions" Bundle.listD, .lays ee_N Bundle.tN "detailMessage" "Ljava/lang/String;",
  .isRef (.static Bundle.tN "UNASSIGNED_STACK" Bundle.steD), .isRef (.static Bundle.tN "SUPPRESSED_SENTINEL" Bundle.listD), .fieldLink Bundle.tN 198 Bundle.tN "backtrace" "Ljava/lang/Object;", .lays Bundle.tN Bundle.tN "backtrace" "Ljava/lang/Object;", .lays ee_N Bundle.tN "backtrace" "Ljava/lang/Object;"]
/-- the words of a throw -/
def ee_ws (own : String) (ix ic is : Nat) (text : String) : List Cond := [.classLink own ix ee_N, .instantiable ee_N 6, .initialized ee_N, .stringRef own is text, .methodLink own ic (Bundle.initS ee_N), .castable ee_N ee_N] ++ (Bundle.throwableAtoms ++ (Bundle.throwableSAtoms ++ (Bundle.passSAtoms ee_N ee_R 13 ee_b13 ++ (Bundle.chainSAtoms ee_R ["java/lang/Exception"] ++ ee_at2))))
section
variable {p : Program} {l : Launch} {e : Env} {R : Room} {s : State} {m : MethodId} {args : Array Value} {below : List Frame} {meth : Method} {c : Code} {cc : ByteArray} {pc : Nat} {ls : Array Slot} {rest : List Value}
theorem ee_ctor (hexec : p.tables.exec = Jvm.exec) (htr : e.platform.stackTraces = false) (hb : c.code = cc) {own text : String} {ix ic is : Nat} (hown : s.vm.findClass own = some m.cls) (hw : ∀ w ∈ ee_ws own ix ic is text, w.before args s = true)
    {cX : ClassId} {kX : Class} (h1 : s.vm.findClass ee_N = some cX) (h2 : s.vm.classes[cX]? = some kX) (hsz : ls.size = c.maxLocals) (hlk : meth.locks = false) {x : Nat}
    (hd1 : decode cc pc = .ok (.invokespecial ic, 3)) (hd2 : decode cc (pc + 3) = .ok (.athrow, 1)) (hx : ∀ x ∈ c.exceptionTable.toList, covers x (pc + 3) = false)
    (hf : 5 < R.frames) (hl : (rest.map fun v => v.category).sum + 100 ≤ R.locals) :
    W p l e R s m args below meth c (s.heap.push (freshCell cX kX)) [] 1 6 (ee_Q s below) (F0 m pc ls (.ref x :: .ref s.heap.size :: .ref s.heap.size :: rest)) := by
  intro V hV X
  subst hb
  have hpl : e.platform.magicAccessors = ({} : Platform).magicAccessors := by rw [X.admits.platform]
  have w1 : ∀ w, w ∈ Bundle.throwableAtoms → w.before args s = true := fun w h => hw w (by simp [ee_ws, h])
  have w2 : ∀ w, w ∈ Bundle.throwableSAtoms → w.before args s = true := fun w h => hw w (by simp [ee_ws, h])
  have w3 : ∀ w, w ∈ Bundle.passSAtoms ee_N ee_R 13 ee_b13 → w.before args s = true := fun w h => hw w (by simp [ee_ws, h])
  have w4 : ∀ w, w ∈ Bundle.chainSAtoms ee_R ["java/lang/Exception"] → w.before args s = true := fun w h => hw w (by simp [ee_ws, h])
  have w5 : ∀ w, w ∈ ee_at2 → w.before args s = true := fun w h => hw w (by simp [ee_ws, h])
  have w6 : ∀ w, w ∈ [Cond.instantiable ee_N 6, .methodLink own ic (Bundle.initS ee_N), .castable ee_N ee_N] → w.before args s = true := fun w h => hw w (by simp at h; simp [ee_ws, h]; rcases h with h | h | h <;> simp [h])
  -- the constructors, one above the other
  obtain ⟨T, Z0, L, -, Y⟩ := ThrowableC.of_atoms (args := args) (by rw [X.admits.platform]) (by rw [X.admits.platform]) hpl w1
  obtain ⟨Z, M, LZ, LM, hZ⟩ := Init0T.ofS_atoms (args := args) hpl L Y w2
  obtain ⟨A, LA, hA, hA'⟩ := PassC.ofS_atoms (args := args) hpl (X := ee_N) (Y := ee_R) (by decide +kernel) (by decide) (by decide +kernel) (by decide +kernel) (by decide +kernel) (by decide +kernel) w3
  obtain ⟨B, Bs, hBl, LB, LBs, hB, hB1, hB2⟩ := Bundle.chainS (args := args) hpl hZ ["java/lang/Exception"] ee_R (by decide +kernel) (by decide +kernel) w4
  have hN : s.vm.findClass ee_N = some A.m.cls := findClass_of_methodNamed hA
  cases Option.some.inj (h1.symm.trans hN)
  obtain ⟨q1, q2, q3, hk, hord, -, -, h6⟩ := Cond.instantiable_spec (w6 (.instantiable ee_N 6) (by simp))
  cases Option.some.inj (q3.symm.trans hN)
  cases Option.some.inj (h2.symm.trans hk)
  -- which methods are chosen
  have sel : ∀ (t : MethodName) (mt : MethodId), s.methodNamed? t = some mt → (t.cls ≠ "java/lang/invoke/MethodHandle" ∧ t.cls ≠ "java/lang/invoke/VarHandle") → (Cond.selects ee_N t t).before args s = true → selectMethod e.platform s.vm A.m.cls mt = .method mt := by
    intro t mt hn hne hs
    obtain ⟨_, _, _, g1, g2, g3, g4, -⟩ := Cond.selects_spec hs
    cases Option.some.inj (g1.symm.trans hN)
    cases Option.some.inj (g2.symm.trans (State.methodFound?_of_named hn hne))
    cases Option.some.inj (g3.symm.trans hn)
    rw [Launch.admits_selectMethod X.admits]; exact g4
  -- the two static fields
  obtain ⟨cS, hcS, hsS⟩ := Y.statics
  obtain ⟨u0, hu0⟩ := Cond.staticRefV Y.unassigned L.unassignedStatic L.statics hcS hsS (w5 (.isRef (.static Bundle.tN "UNASSIGNED_STACK" Bundle.steD)) (by simp [ee_at2]))
  obtain ⟨sen, hsen⟩ := Cond.staticRefV Y.sentinel L.sentinelStatic L.statics hcS hsS (w5 (.isRef (.static Bundle.tN "SUPPRESSED_SENTINEL" Bundle.listD)) (by simp [ee_at2]))
  have hlt : T.aS < s.heap.size := (Array.getElem?_eq_some_iff.mp hcS).1
  have hcV : V.heap[T.aS]? = some cS := by rw [hV, Array.getElem?_push, if_neg (Nat.ne_of_lt hlt)]; exact hcS
  have hkn : cS.vm ≠ .unknown := fun h => by rw [h] at hsS; cases hsS
  -- the fields of the new object
  obtain ⟨c9, i9, fB, b1, b2, b3, b4, -, b5, b6, b7⟩ := Cond.ownField (t := .object "java/lang/Object") Y.found L.cls (by decide +kernel) (w5 (.fieldLink Bundle.tN 198 Bundle.tN "backtrace" "Ljava/lang/Object;") (by simp [ee_at2])) (w5 (.lays Bundle.tN Bundle.tN "backtrace" "Ljava/lang/Object;") (by simp [ee_at2])) e.platform hpl
  obtain ⟨iM, hM⟩ := Y.msg
  obtain ⟨tC, dC, eC, fC⟩ := Cond.laysAt hN hk Y.cause (w5 (.lays ee_N Bundle.tN "cause" "Ljava/lang/Throwable;") (by simp [ee_at2]))
  obtain ⟨tS, dS, eS, fS⟩ := Cond.laysAt hN hk Y.stack (w5 (.lays ee_N Bundle.tN "stackTrace" Bundle.steD) (by simp [ee_at2]))
  obtain ⟨tP, dP, eP, fP⟩ := Cond.laysAt hN hk Y.supp (w5 (.lays ee_N Bundle.tN "suppressedExceptions" Bundle.listD) (by simp [ee_at2]))
  obtain ⟨tM, dM, eM, fM⟩ := Cond.laysAt hN hk hM (w5 (.lays ee_N Bundle.tN "detailMessage" "Ljava/lang/String;") (by simp [ee_at2]))
  obtain ⟨tB, dB, eB, fB'⟩ := Cond.laysAt hN hk b7 (w5 (.lays ee_N Bundle.tN "backtrace" "Ljava/lang/Object;") (by simp [ee_at2]))
  have nC := Cond.laysApart eB eC fB' fC (by rw [b5, Y.causeName]; decide)
  have nS := Cond.laysApart eB eS fB' fS (by rw [b5, Y.stackName]; decide)
  have nP := Cond.laysApart eB eP fB' fP (by rw [b5, Y.suppName]; decide)
  have skip : SkipFacts T e.platform s (fun u => u) u0 ((preparedCellV T.toThrowableT (freshCell A.m.cls kX) s.heap.size u0 sen).withEntry V.cur) := by
    refine ⟨{ ci198 := c9, i198 := i9, fBack := fB }, ⟨b1, b2, b3, b4⟩, ?_, fun _ _ => rfl⟩
    have h0 := fresh_default (c := A.m.cls) tB
    rw [b6] at h0
    simpa [preparedCellV, Cell.setSlot, Cell.withEntry, Array.getElem?_setIfInBounds, nC, nS, nP, nC.symm, nS.symm, nP.symm, defaultValue] using h0
  -- the call
  obtain ⟨tm, _, _, _, vm₁, k1, -, -, -, -, -, -, -, hW₁, st1⟩ := Steps.initColdS (tb := p.tables) (e := e) (below := below) (s := s) (U := V) X.here hexec X.warmed hpl hown (t := Bundle.initS ee_N) rfl rfl (by decide)
    (w6 (.methodLink own ic (Bundle.initS ee_N)) (by simp)) (w3 (.instanceMethod (Bundle.initS ee_N)) (by simp [Bundle.passSAtoms])) (bytes := ee_b13) (maxL := 2) (w3 (.code (Bundle.initS ee_N) ee_b13 2 none) (by simp [Bundle.passSAtoms]))
    (f := F0 m pc ls (.ref x :: .ref s.heap.size :: .ref s.heap.size :: rest)) rfl (a := s.heap.size) (msg := .ref x) (rest := .ref s.heap.size :: rest) rfl hd1
  cases Option.some.inj (k1.symm.trans hA)
  have X₁ := X.noted hW₁
  have hnew : V.heap[s.heap.size]? = some (freshCell A.m.cls kX) := by rw [hV, Array.getElem?_push_size]
  obtain ⟨vm₂, X₂, st2⟩ := X₁.ctorMessageOffV hexec (g := F0 m pc ls (.ref s.heap.size :: rest)) rfl hsz T L Z LZ M LM (A :: B :: Bs)
    (fun P hP => by
      rcases List.mem_cons.mp hP with rfl | hP
      · exact LA
      rcases List.mem_cons.mp hP with rfl | hP
      · exact LB
      · exact LBs P hP) ⟨Option.some.inj (hA'.symm.trans hB), hB1, hB2⟩ (u0 := u0) (sen := sen) (self := s.heap.size) (msg := .ref x) rfl (cell := freshCell A.m.cls kX) (cellS := cS)
    hnew (fun _ => by simp) (by simp) rfl rfl (sel _ _ Y.fill0 (by decide) (w5 (.selects ee_N Bundle.tFill0 Bundle.tFill0) (by simp [ee_at2]))) (sel _ _ Y.fill (by decide) (w5 (.selects ee_N Bundle.tFill Bundle.tFill) (by simp [ee_at2]))) hcV (Nat.ne_of_lt hlt) hkn hu0 hsen
    (Takes.of_laid hk hord tC (by rw [Y.causeType]; rfl)) (Takes.of_laid hk hord tS (by rw [Y.stackType]; exact fits_refV_array _ u0)) (Takes.of_laid hk hord tP (by rw [Y.suppType]; exact fits_refV_object _ sen))
    (Takes.of_laid hk hord tM (by rw [Y.msgType]; exact fits_refV_object _ ⟨.ref x, rfl⟩)) Y.objLocals skip htr [] hd1
    (by simp only [List.length_cons, hBl, List.length_nil]; omega) (by
      show 2 * 0 + ((Value.ref s.heap.size :: rest).map fun v => v.category).sum + _ ≤ _
      have e1 : (Value.ref s.heap.size).category = 1 := rfl
      rw [List.map_cons, List.sum_cons, e1]
      simp only [List.length_cons, hBl, List.length_nil]
      omega)
  obtain ⟨hwalk, hrun, hended, hWU, hsame⟩ := X₂.athrowLeaves hexec (g := F0 m (pc + 3) ls (.ref s.heap.size :: rest)) rfl rfl rfl hx (a := s.heap.size) (rest := rest) rfl hd2
  obtain ⟨c3, c4, g3, g4, hasg⟩ := Cond.castable_spec (w6 (.castable ee_N ee_N) (by simp))
  cases Option.some.inj (g3.symm.trans hN)
  cases Option.some.inj (g4.symm.trans hN)
  have hU := heapAt_setCell_self (s := (V.setVm vm₁).setVm vm₂) (plainBareV T.toThrowableT (freshCell A.m.cls kX) s.heap.size u0 sen (.ref x)) (Array.getElem?_eq_some_iff.mp hnew).1
  refine ⟨_, st1 _ (fun acts => ?_), hrun, hended, hWU, hsame.weaken (fun y hy hlt' => ?_) (Nat.le_refl _) (Nat.le_refl _), _, hU, hN, rfl, hasg⟩
  · rw [doInvoke_state]
    exact st2 _ hwalk
  · exfalso
    have : y.base = s.heap.size := by
      simp only [List.nil_append, List.mem_cons, List.not_mem_nil, or_false] at hy
      rcases hy with rfl | rfl | rfl | rfl | rfl <;> rfl
    rw [this] at hlt'
    exact Nat.lt_irrefl _ hlt'
theorem ee_new {H : Heap} (hH : H = s.heap) (hexec : p.tables.exec = Jvm.exec) (htr : e.platform.stackTraces = false) (hb : c.code = cc) {own text : String} {ix ic is n : Nat} {il : Instr} (hown : s.vm.findClass own = some m.cls) (hw : ∀ w ∈ ee_ws own ix ic is text, w.before args s = true)
    (hsz : ls.size = c.maxLocals) (hlk : meth.locks = false) (hd1 : decode cc pc = .ok (.new ix, 3)) (hd2 : decode cc (pc + 3) = .ok (.dup, 1)) (hd3 : (decode cc (pc + 4) = .ok (.ldc is, 2) ∧ n = 2) ∨ (decode cc (pc + 4) = .ok (.ldc_w is, 3) ∧ n = 3))
    (hd4 : decode cc (pc + 4 + n) = .ok (.invokespecial ic, 3)) (hd5 : decode cc (pc + 4 + n + 3) = .ok (.athrow, 1)) (hx : ∀ x ∈ c.exceptionTable.toList, covers x (pc + 4 + n + 3) = false)
    (hf : 5 < R.frames) (hl : (rest.map fun v => v.category).sum + 100 ≤ R.locals) (hc : 1 ≤ R.cells) (hs : 6 ≤ R.slots) :
    W p l e R s m args below meth c H [] 0 0 (ee_Q s below) (F0 m pc ls rest) := by
  subst hH
  refine W.newc hexec hb hown (hw (.classLink own ix ee_N) (by simp [ee_ws])) (hw (.instantiable ee_N 6) (by simp [ee_ws])) (hw (.initialized ee_N) (by simp [ee_ws])) rfl hd1 (by omega) (by omega) fun cC kC f1 f2 f3 f4 => ?_
  refine lv_dup hexec hb hd2 rfl ?_
  rcases hd3 with ⟨h3, rfl⟩ | ⟨h3, rfl⟩
  · refine ee_ldcs hexec hb hown (hw (.stringRef own is text) (by simp [ee_ws])) h3 fun a => ?_
    exact ee_ctor hexec htr hb hown hw f1 f2 hsz hlk hd4 hd5 hx hf hl
  · refine ee_ldcsw hexec hb hown (hw (.stringRef own is text) (by simp [ee_ws])) h3 fun a => ?_
    exact ee_ctor hexec htr hb hown hw f1 f2 hsz hlk hd4 hd5 hx hf hl
/-- what a throw leaves, seen from the start of the method -/
def ee_E (s : State) (H : Heap) (below : List Frame) (locs : List Loc) (cells slots : Nat) : State → Prop := fun U => U.status = .running ∧ Ended U below (.threw H.size) ∧ s.WarmedH U.vm ∧ s.sameButNew ({ U with vm := s.vm } : State) locs (cells + 1) (slots + 6) ∧ U.heap.size = H.size + 1 ∧ (∀ q, q < H.size → U.heap[q]? = H[q]?) ∧ ∃ ce : Cell, U.heap[H.size]? = some ce ∧ s.vm.findClass ee_N = some ce.cls ∧ ce.vm = .none ∧ s.vm.assignable ce.cls ce.cls = true
theorem ee_throw {H : Heap} {locs : List Loc} {cells slots : Nat} (hexec : p.tables.exec = Jvm.exec) (htr : e.platform.stackTraces = false) (hb : c.code = cc) {own text : String} {ix ic is n : Nat} (hown : s.vm.findClass own = some m.cls)
    (hw : ∀ U : State, U.heap = H → s.WarmedH U.vm → ∀ w ∈ ee_ws own ix ic is text, w.before args U = true)
    (hsz : ls.size = c.maxLocals) (hlk : meth.locks = false) (hd1 : decode cc pc = .ok (.new ix, 3)) (hd2 : decode cc (pc + 3) = .ok (.dup, 1)) (hd3 : (decode cc (pc + 4) = .ok (.ldc is, 2) ∧ n = 2) ∨ (decode cc (pc + 4) = .ok (.ldc_w is, 3) ∧ n = 3))
    (hd4 : decode cc (pc + 4 + n) = .ok (.invokespecial ic, 3)) (hd5 : decode cc (pc + 4 + n + 3) = .ok (.athrow, 1)) (hx : ∀ x ∈ c.exceptionTable.toList, covers x (pc + 4 + n + 3) = false)
    (hf : 5 < R.frames) (hl : (rest.map fun v => v.category).sum + 100 ≤ R.locals) (hc : cells + 1 ≤ R.cells) (hs : slots + 6 ≤ R.slots) :
    W p l e R s m args below meth c H locs cells slots (ee_E s H below locs cells slots) (F0 m pc ls rest) := by
  intro T hT X
  have Y := ee_stand X (by omega) (by omega)
  obtain ⟨U, st, b1, b2, b3, b4, ce, b5, b6, b7, b8⟩ := ee_new (s := ee_at s T) (R := { R with cells := R.cells - cells, slots := R.slots - slots }) (H := T.heap) (ls := ls) (rest := rest) (l := l) (below := below) (m := m) (meth := meth) rfl hexec htr hb (own := own) (ix := ix) (ic := ic) (is := is) (n := n) (il := .nop) (by show T.vm.findClass own = _; rw [X.warmed.alike.findClass]; exact hown) (hw (ee_at s T) hT X.warmed) hsz hlk hd1 hd2 hd3 hd4 hd5 hx hf hl (by show 1 ≤ R.cells - cells; omega) (by show 6 ≤ R.slots - slots; omega) T rfl Y
  have hW : T.WarmedH U.vm := b3
  have b2' : Ended U below (.threw T.heap.size) := b2
  obtain ⟨c1, c2, c3, c4, c5, c6⟩ := b4
  have hB : (T.setVm s.vm).sameButNew ({ U with vm := s.vm } : State) [] 1 6 := by
    refine ⟨?_, c2, c3, c4, c5, fun a cl h => ?_⟩
    · have e1 : ({ U with vm := s.vm } : State) = ({ s.setFrames U.frames with heap := U.heap, slotsUsed := U.slotsUsed } : State) := congrArg (fun z : State => z.setVm s.vm) c1
      have e2 := X.same.1
      refine e1.trans ?_
      rw [e2]
      show _ = ({ (s.setFrames T.frames).setFrames U.frames with heap := U.heap, slotsUsed := U.slotsUsed } : State)
      rw [State.setFrames_setFrames]
    · exact c6 a cl h
  subst hT
  refine ⟨U, st, b1, b2', State.WarmedH.trans X.warmed hW, ?_, ?_, ?_, ce, b5, ?_, b7, ?_⟩
  · have := X.same.trans hB
    rwa [List.append_nil] at this
  · have c3' : U.heap.size ≤ T.heap.size + 1 := c3
    have := (Array.getElem?_eq_some_iff.mp b5).1
    have : T.heap.size < U.heap.size := this
    omega
  · intro q hq
    obtain ⟨c', d1, d2, d3, d4⟩ := c6 q T.heap[q] (by show T.heap[q]? = _; exact Array.getElem?_eq_getElem hq)
    rw [Array.getElem?_eq_getElem hq]
    have d1' : U.heap[q]? = some c' := d1
    rw [d1', d2]
    congr 1
    have : c'.slots = T.heap[q].slots := Array.ext_getElem? fun i => d4 i (by simp)
    rw [this]
  · have : T.vm.findClass ee_N = some ce.cls := b6
    rw [X.warmed.alike.findClass] at this
    exact this
  · have : T.vm.assignable ce.cls ce.cls = true := b8
    rw [X.warmed.alike.assignable] at this
    exact this
end
/-- one handler, whose class may still have to be looked up -/
theorem ee_find {e : Env} {s : State} {f : JFrame} {a : Addr} {me : Method} {code : Code} {x : ExceptionTableEntry} {cT : ClassId} {cell : Cell} (hm : s.vm.method? f.method = some me) (hc : me.code = some code) (htab : code.exceptionTable.toList = [x])
    (hx : covers x f.pc = true) (h0 : x.catchType ≠ 0) (hl : s.vm.ClassLinks e.platform f.method.cls x.catchType cT) (hcell : s.heap[a]? = some cell) (hobj : ∀ k, cell.vm ≠ .statics k)
    (h1 : ∃ k, s.vm.classes[cell.cls]? = some k) (h2 : ∃ k, s.vm.classes[cT]? = some k) (hfit : s.vm.assignable cell.cls cT = true) (Q : Handler → Jvm.Pre) (E : CtlPost) (d : Bool) (acts : List Action) :
    Jvm.Sem.wp (findHandler f a) Q E e d acts s ↔ Q (.found x.handlerPc) d acts (s.setVm (s.vm.noted f.method.cls x.catchType (.cls cT))) := by
  rw [W.findHandler_eq hm hc, htab]
  obtain ⟨g1, g2⟩ := (resolveClass_links e.toSetting hl).op (op := VmOp.resolveClass f.method.cls x.catchType) rfl
  have al : s.vm.Alike (s.vm.noted f.method.cls x.catchType (.cls cT)) := (Vm.Alike.refl s.vm).noted _ _ _
  obtain ⟨k1, h1⟩ := h1
  obtain ⟨k2, h2⟩ := h2
  obtain ⟨k1', h1', -⟩ := al.2.2 _ _ h1
  obtain ⟨k2', h2', -⟩ := al.2.2 _ _ h2
  have hf : (s.vm.noted f.method.cls x.catchType (.cls cT)).assignable cell.cls cT = true := (al.assignable _ _).trans hfit
  simp only [covers] at hx
  simp [findHandler.go, hx, h0, g1, g2, hcell, hobj, h1', h2', hf, VmOp.dirties, VmOp.acts]
section
variable {p : Program} {l : Launch} {e : Env} {R : Room} {s : State} {m : MethodId} {args : Array Value} {below : List Frame} {meth : Method} {c : Code} {T : State} {locs : List Loc} {cells slots : Nat}
theorem ee_caught (X : Stand p l e R s m args below meth c T locs cells slots) {a : Addr} {g : JFrame} (hg : g.method = m) {own name : String} (hown : s.vm.findClass own = some m.cls) {x : ExceptionTableEntry} (htab : c.exceptionTable.toList = [x])
    (hx : covers x g.pc = true) (h0 : x.catchType ≠ 0) (hlink : (Cond.classLink own x.catchType name).before args s = true) {cell : Cell} (hcell : T.heap[a]? = some cell) (hobj : cell.vm = .none) (hcl : s.vm.findClass name = some cell.cls) (hfit : s.vm.assignable cell.cls cell.cls = true) :
    ∃ vm', Stand p l e R s m args below meth c (T.setVm vm') locs cells slots ∧
      ∀ target, Steps p.tables e below ((T.setVm vm').setTop { g with pc := x.handlerPc, stack := [.ref a] }) target → Steps p.tables e below ((T.setTop g).pushFrame (.throwing a)) target := by
  have hpl : e.platform.magicAccessors = ({} : Platform).magicAccessors := by rw [X.admits.platform]
  obtain ⟨cT, hT, hL⟩ := Cond.classLink_spec hown hlink e.platform hpl
  cases hcl.symm.trans hT
  obtain ⟨dk, _, _, kt, hd, _, _, _, _, hkt, _, hop⟩ := hL.here
  have hW' : s.WarmedH (T.vm.noted m.cls x.catchType (.cls cell.cls)) := X.warmed.noted hd hop (State.rightAt_cls hL)
  have al := X.warmed.alike
  obtain ⟨kt', hkt', -⟩ := al.2.2 _ _ hkt
  subst hg
  refine ⟨_, X.noted hW', fun target hrest => ?_⟩
  obtain ⟨hgo, hw⟩ := X.here.throwing a
  refine Steps.head hgo hw ?_
  have key : (stepThrowing e ((T.setTop g).pushFrame (.throwing a)) a (.java g :: T.frames.tail)).Is ((((T.setTop g).pushFrame (.throwing a)).setVm (T.vm.noted g.method.cls x.catchType (.cls cell.cls))).setFrames (.java { g with pc := x.handlerPc, stack := [.ref a] } :: T.frames.tail)) [] := by
    simp only [stepThrowing, searchFrame, vmDo]
    generalize hr : Sem.go _ e false [] ((T.setTop g).pushFrame (.throwing a)) = res
    obtain ⟨as, rfl, ha⟩ := Sem.eq_ok_of hr (a := Handler.found x.handlerPc) (s' := ((T.setTop g).pushFrame (.throwing a)).setVm (T.vm.noted g.method.cls x.catchType (.cls cell.cls))) (acts' := []) (by
      have hf := ee_find (e := e) (s := (T.setTop g).pushFrame (.throwing a)) (f := g) (a := a) (me := meth) (code := c) (x := x) (cT := cell.cls) (cell := cell) X.method' X.code htab hx h0 (X.warmed.classLinks hL) hcell (fun k hk => by rw [hobj] at hk; cases hk) ⟨kt', hkt'⟩ ⟨kt', hkt'⟩ ((al.assignable _ _).trans hfit)
      simp [hf]
      rfl)
    exact ⟨rfl, ha⟩
  rw [stepThread_throwing (frames_entered X.here.top _), key.1]
  obtain ⟨g₀, hr⟩ := X.frames_eq
  have hr' : (T.setVm (T.vm.noted g.method.cls x.catchType (.cls cell.cls))).frames = .java g₀ :: below := hr
  rw [State.setTop_of_frames _ hr'] at hrest
  have e1 : (((T.setTop g).pushFrame (.throwing a)).setVm (T.vm.noted g.method.cls x.catchType (.cls cell.cls))).setFrames (.java { g with pc := x.handlerPc, stack := [.ref a] } :: T.frames.tail) = (T.setVm (T.vm.noted g.method.cls x.catchType (.cls cell.cls))).setFrames (.java { g with pc := x.handlerPc, stack := [.ref a] } :: below) := by
    rw [X.tail, State.setTop_of_frames _ hr, State.pushFrame]
    show (((T.setVm (T.vm.noted g.method.cls x.catchType (.cls cell.cls))).setFrames _).setFrames _).setFrames _ = _
    rw [State.setFrames_setFrames, State.setFrames_setFrames]
  rw [e1]
  exact hrest
end
/-- the words of the class's two throws, wherever the tables are warmer and the cells below b as they were -/
def ee_w1 : List Cond := ee_ws "AllAboveIt" 118 122 120 "no such thing"
def ee_w2 : List Cond := ee_ws "AllAboveIt" 118 122 379 "no such number"
def ee_K (b : Nat) (s : State) : Prop := ∀ U : State, s.WarmedH U.vm → (∀ q, q < b → U.heap[q]? = s.heap[q]?) → ∀ args : Array Value, (∀ w ∈ ee_w1, w.before args U = true) ∧ ∀ w ∈ ee_w2, w.before args U = true
theorem ee_K.to {b : Nat} {s U : State} (h : ee_K b s) (hW : s.WarmedH U.vm) (hq : ∀ q, q < b → U.heap[q]? = s.heap[q]?) : ee_K b U := fun V hV hv args => h V (State.WarmedH.trans hW hV) (fun q hb => (hv q hb).trans (hq q hb)) args
def ee_L (l : Launch) : Prop := ∀ e : Env, l.admits e → e.platform.stackTraces = false
/-- what a throwing call finds, and leaves -/
def ee_PX (D : va_G) (cA : Nat → ClassId) (b : Nat) (z : Nat × Nat) (avs : List Value) (σ : aa_St) : Array Value → State → Prop := fun a U => aa_PX D cA b z avs σ a U ∧ ee_K b U
def ee_QX (D : va_G) (cA : Nat → ClassId) (b : Nat) (z : Nat × Nat) (σ : aa_St) : Array Value → State → Outcome → State → Prop := fun _ st o t =>
  o = .threw (b + σ.2.2.1.length) ∧ st.WarmedH t.vm ∧ (∃ L : List Loc, st.sameButNew ({ t with vm := st.vm } : State) L 1 6 ∧ ∀ q ∈ L, b ≤ q.base) ∧ aa_PP D cA b z σ t.heap ∧ t.heap.size = b + σ.2.2.1.length + 1 ∧ va_F (fun q => b ≤ q) st t ∧
    ∃ ce : Cell, t.heap[b + σ.2.2.1.length]? = some ce ∧ st.vm.findClass ee_N = some ce.cls ∧ ce.vm = .none ∧ st.vm.assignable ce.cls ce.cls = true
/-- a method throws, and changes nothing -/
def ee_SX (M : aa_M) (d : Nat) (avs : List Value) (σ : aa_St) : Prop := ∀ (l : Launch), ee_L l → ∀ (D : va_G) (cA : Nat → ClassId) (b : Nat) (z : Nat × Nat),
  MetFree l M.1 (headSpec (aa_ws M) { frames := d, cells := 1, slots := 6, locals := 100 * d }) (ee_PX D cA b z avs σ) (fun _ _ _ _ _ => True) (ee_QX D cA b z σ)
theorem ee_nil {c : Code} (h : c.exceptionTable.isEmpty = true) : c.exceptionTable.toList = [] := by
  have := Array.isEmpty_iff.mp h
  rw [this]
theorem ee_SX_of {M : aa_M} {d : Nat} {avs : List Value} {σ : aa_St} {pc k : Nat} {ls ls1 : aa_L} {st1 : List Value} {ix ic is : Nat} {text : String} (hy : plainName M.1.cls = true) (hcl : M.1.cls = "AllAboveIt") (n : Nat) (hls : aa_l1 avs ++ List.replicate n none = ls) (hn : ls.length = M.2.2.1) (hg : aa_Go M d 0 ls [] σ pc ls1 st1 σ)
    (hws : ee_ws "AllAboveIt" ix ic is text = ee_w1 ∨ ee_ws "AllAboveIt" ix ic is text = ee_w2) (hd1 : decode M.2.1 pc = .ok (.new ix, 3)) (hd2 : decode M.2.1 (pc + 3) = .ok (.dup, 1)) (hd3 : (decode M.2.1 (pc + 4) = .ok (.ldc is, 2) ∧ k = 2) ∨ (decode M.2.1 (pc + 4) = .ok (.ldc_w is, 3) ∧ k = 3))
    (hd4 : decode M.2.1 (pc + 4 + k) = .ok (.invokespecial ic, 3)) (hd5 : decode M.2.1 (pc + 4 + k + 3) = .ok (.athrow, 1)) (hf : 5 < d) (hl0 : (st1.map fun v => v.category).sum ≤ 8) : ee_SX M d avs σ := by
  intro l hL D cA b z
  refine MetFree.of_bodyS (code := M.2.1) (maxLocals := M.2.2.1) (ret := M.2.2.2) hy ?_ ?_
  · intro args s m h hnm
    obtain ⟨meth, c, h1, h2, h3, h4, h5, h6, -, -⟩ := Cond.code_spec hnm (atoms_spec (ws := aa_ws M) h _ List.mem_cons_self)
    exact ⟨meth, c, h1, h2, h3, h4, h5, h6⟩
  intro p e s m args below meth c s₁ B hml hv _
  obtain ⟨⟨rfl, hP, hsz, hK, hXL, hNW⟩, hEK⟩ := hv
  have hts := atoms_spec (ws := aa_ws M) B.pre
  have hown : s.vm.findClass M.1.cls = some m.cls := findClass_of_methodNamed B.named
  have hin : meth.name = M.1.name := (name_of_methodNamed B.named B.method).1
  obtain ⟨meth', c', m1, m2, -, -, -, -, m3, -⟩ := Cond.code_spec B.named (hts _ List.mem_cons_self)
  have X0 := Stand.of_body B
  have hcc : c' = c := by
    have h1 := m1.symm.trans X0.method
    cases h1
    exact Option.some.inj (m2.symm.trans X0.code)
  subst hcc
  have ok : aa_OK M d p (headSpec (aa_ws M) { frames := d, cells := 1, slots := 6, locals := 100 * d }).room s m (avs.map (aa_tr b z)).toArray meth c' D cA b z :=
    ⟨B.exec, B.bytes, hml, hown, fun w hw => hts w (List.mem_cons_of_mem _ hw), B.returns, B.notSynchronized, hin, hK, by omega, Nat.le_refl _, Nat.le_refl _, hXL, hNW⟩
  have hh0 : s₁.heap = s.heap := by rw [B.state]; rfl
  have htr := hL e X0.admits
  have key := hg.2.2 p l e _ s m _ below meth c' D cA b z σ.2.2.2.1 σ.2.2.2.2 (fun t => ∃ o, t.status = .running ∧ Ended t below o ∧ ee_QX D cA b z σ (avs.map (aa_tr b z)).toArray s o t) ok (Nat.le_refl _) (Nat.le_refl _) (by rw [Nat.sub_self]; exact Nat.zero_le _) (by rw [Nat.sub_self]; exact Nat.zero_le _) (fun H locs lsA hP1 hz1 hS1 hl1 => by
    rw [Nat.sub_self, Nat.sub_self]
    have hw := ee_throw (p := p) (l := l) (e := e) (R := (headSpec (aa_ws M) { frames := d, cells := 1, slots := 6, locals := 100 * d }).room) (s := s) (m := m) (args := (avs.map (aa_tr b z)).toArray) (below := below) (meth := meth) (c := c') (cc := M.2.1) (pc := pc) (ls := lsA) (rest := st1.map (aa_tr b z)) (H := H) (locs := locs) (cells := 0) (slots := 0) (own := "AllAboveIt") (text := text) (ix := ix) (ic := ic) (is := is) (n := k) B.exec htr B.bytes (by rw [← hcl]; exact hown)
      (fun U hU hW => by
        have := hEK U hW (fun q hq => by rw [hU]; exact hS1.2.1 q (by omega) (Nat.not_le.mpr hq)) (avs.map (aa_tr b z)).toArray
        rcases hws with h | h <;> rw [h]
        · exact this.1
        · exact this.2) (hl1.1.trans hml.symm) B.notSynchronized hd1 hd2 hd3 hd4 hd5 (fun x hx => by rw [ee_nil m3] at hx; cases hx) hf (by
        rw [aa_cats]
        show _ ≤ 100 * d
        omega) (Nat.le_refl _) (Nat.le_refl _)
    intro T hT X
    obtain ⟨t, a1, a2, a3, a4, a5, a6, a7, ce, a8⟩ := hw T hT X
    rw [hz1] at a3 a6 a8
    refine ⟨t, a1, _, a2, a3, rfl, a4, ⟨locs, a5, hS1.2.2⟩, ?_, a6, ⟨Nat.le_trans hS1.1 (by rw [a6]; omega), fun q h1 h2 => (a7 q (by have := hS1.1; omega)).trans (hS1.2.1 q h1 h2)⟩, ce, a8⟩
    intro a x hx ev hev
    have := hP1 a x hx ev hev
    have hal : a < σ.2.2.1.length := (List.getElem?_eq_some_iff.mp hx).1
    exact this.kept (a7 (b + a) (by omega)))
  have hle : (lg_sl (avs.map (aa_tr b z))).length ≤ M.2.2.1 := by rw [aa_l1_len, ← hn, ← hls]; simp
  have hl := lv_entry (avs.map (aa_tr b z)) (n := M.2.2.1) hle
  have k2 := key s.heap [] _ hP hsz va_S.rf (show aa_lv b z _ M.2.2.1 _ from ⟨hl.1, hl.2.1, fun q hq => hl.2.2 q (aa_l1_args b z avs 0 q (by rw [← hls, aa_al_app] at hq; exact hq))⟩)
  rw [Nat.sub_self, Nat.sub_self] at k2
  obtain ⟨t, b1, o, b2, b3, b4⟩ := k2 s₁ hh0 X0
  rw [lg_entry_eq]
  exact ⟨t, o, b1, b2, b3, b4⟩
