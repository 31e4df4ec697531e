/-! THE LAW'S HELPERS: they call, and catch -/
theorem ee_blind {D : va_G} {cA : Nat → ClassId} {b : Nat} {z : Nat × Nat} {avs : List Value} {σ : aa_St} : FrameBlind (ee_PX D cA b z avs σ) := fun a U g mk hp =>
  ⟨aa_blind a U g mk hp.1, hp.2.to (State.WarmedH.refl U) (fun _ _ => rfl)⟩
theorem ee_nwP {D : va_G} {cA : Nat → ClassId} {b : Nat} {z : Nat × Nat} {σ : aa_St} {H : Heap} (hP : aa_PP D cA b z σ H) : aa_PP D cA b z (aa_nw σ (.inr (.inr (.inr ()))) 6) H := by
  intro a x hx e he
  by_cases h : a < σ.2.2.1.length
  · have h1 : (aa_nw σ (.inr (.inr (.inr ()))) 6).2.2.1[a]? = σ.2.2.1[a]? := by simp [aa_nw, List.getElem?_append, h]
    have h2 : (aa_nw σ (.inr (.inr (.inr ()))) 6).1 a = σ.1 a := by funext j; simp [aa_nw, Nat.ne_of_lt h]
    have h3 : (aa_nw σ (.inr (.inr (.inr ()))) 6).2.1 a = σ.2.1 a := by funext j; simp [aa_nw, Nat.ne_of_lt h]
    rw [h2, h3] at he
    exact hP a x (h1 ▸ hx) e he
  · have hl : (aa_nw σ (.inr (.inr (.inr ()))) 6).2.2.1 = σ.2.2.1 ++ [.inr (.inr (.inr ()))] := rfl
    rw [hl] at hx
    have ha := (List.getElem?_eq_some_iff.mp hx).1
    rw [List.length_append, List.length_singleton] at ha
    have : a = σ.2.2.1.length := by omega
    subst this
    rw [List.getElem?_append_right (Nat.le_refl _), Nat.sub_self] at hx
    cases hx
    cases he
section
variable {p : Program} {l : Launch} {e : Env} {R : Room} {s : State} {m : MethodId} {args : Array Value} {below : List Frame} {meth : Method} {c : Code} {D : va_G} {cA : Nat → ClassId} {b : Nat} {z : Nat × Nat} {c0 s0 : Nat} {Q : State → Prop}
variable {M M2 : aa_M} {d d2 pc pn idx a ci : Nat} {ls : aa_L} {st st0 : List Value} {σ : aa_St} {As tp : List Value} {T : u_T} {N : Nat}
theorem ee_callT (ok : aa_OK M d p R s m args meth c D cA b z) (hL : ee_L l) (hK : ee_K b s) (h : aa_At M pc (.invokevirtual idx) 3 pn) (hT : ee_SX M2 d2 (.ref a :: As) σ) (hd : d2 < d) (hC : aa_LC M2 As.length) (hV : aa_LV M.1.cls idx M2) (hsh : σ.2.2.1[a]? = some (.inr (.inl (ci, tp)))) (hci : vwCl[ci]? = some (M2.1.cls, T, N))
    (hst : As.reverse ++ .ref a :: st = st0) (hrm : (st.map fun v => v.category).sum ≤ 8) {x : ExceptionTableEntry} (htab : c.exceptionTable.toList = [x]) (hcov : covers x pc = true) (hx0 : x.catchType ≠ 0) (hlink : aa_lk (.classLink M.1.cls x.catchType ee_N))
    (hc0 : c0 ≤ σ.2.2.2.1) (hs0 : s0 ≤ σ.2.2.2.2) (hcR : σ.2.2.2.1 + 1 - c0 ≤ R.cells) (hsR : σ.2.2.2.2 + 6 - s0 ≤ R.slots)
    (K : aa_Cf p l e R s m args below meth c D cA b z c0 s0 Q M.2.2.1 x.handlerPc ls [.ref σ.2.2.1.length] (aa_nw σ (.inr (.inr (.inr ()))) 6)) :
    aa_Cf p l e R s m args below meth c D cA b z c0 s0 Q M.2.2.1 pc ls st0 σ := by
  intro H locs lsA hP hz hS hl V hVH X
  obtain ⟨o1, o2, o3, o4, o5, o6, o7, o8, o9, o10, o11, o12, o13, o14⟩ := id ok
  obtain ⟨k1, k2, ⟨k3, k3', k3''⟩, k4⟩ := hC
  subst hst
  have hdg : decode c.code pc = .ok (.invokevirtual idx, 3) := by rw [o2]; exact h.1
  have hin := o5 _ hV.2.1.tb
  have hse := o5 _ hV.2.2.tb
  obtain ⟨mk, methM, hnamed, hmethM, hstM, habM⟩ := Cond.instanceMethod_spec hin
  obtain ⟨methM', cM, hmethM', hcM, -, hlM, -, -, -, hsigM⟩ := Cond.code_spec hnamed (o5 _ k1.tb)
  cases hmethM.symm.trans hmethM'
  obtain ⟨cell, hcell, hobj, hcls⟩ := aa_recv o9 hP hsh hci
  obtain ⟨c2, r2, m2, q1, q2, q3, q4, kP, hkP, hkPi⟩ := Cond.selects_spec hse
  cases hcls.symm.trans q1
  cases (State.methodFound?_of_named hnamed ⟨k3, k3'⟩).symm.trans q2
  cases hnamed.symm.trans q3
  have hlen : As.length = methM.sig.parameters.length := by
    rw [hsigM] at k3''
    exact (Option.some.inj k3'').symm
  obtain ⟨vm₁, X₁, hstep₁⟩ := X.invokevirtual o1 o4 (o5 _ hV.1.tb) hnamed hmethM hstM hkP hkPi ⟨k3, k3'⟩ (a := b + a) (cell := cell) (by rw [hVH]; exact hcell)
    (fun q hq => by rw [hq] at hobj; cases hobj) (by rw [Launch.admits_selectMethod X.admits]; exact q4) hmethM habM hkP hkPi (g := F0 m pc lsA ((As.reverse ++ .ref a :: st).map (aa_tr b z))) rfl (argsL := As.map (aa_tr b z)) (rest := st.map (aa_tr b z)) (by rw [List.length_map]; exact hlen) (by simp [List.map_reverse, aa_tr]) hdg
  have hn1 := X₁.named hnamed
  have wrd : ∀ w, w ∈ aa_tb → ∀ (a' : Array Value) (U : State), s.WarmedH U.vm → w.before a' U = true := fun w hw a' U hW => word_at hW (good_of_word (List.mem_filter.mp hw).2) (o5 w hw)
  obtain ⟨kY, hkY, -⟩ := className_of_methodNamed hn1
  have hinitY : kY.init = .initialized := Cond.initialized_spec (findClass_of_methodNamed hn1) hkY (wrd _ k2.tb #[] _ X₁.warmed)
  have hmY : (V.setVm vm₁).vm.method? mk = some methM := by
    rw [X₁.warmed.alike.method?]; exact hmethM
  have hsum : ((st.map (aa_tr b z)).map fun v => v.category).sum ≤ 8 := by rw [aa_cats]; exact hrm
  have happ := Spec.appliesLoose_calling (S := headSpec (aa_ws M2) { frames := d2, cells := 1, slots := 6, locals := 100 * d2 }) (x := M2.1) (e := e) (g := F0 m pc lsA (st.map (aa_tr b z))) (args := ((Value.ref a :: As).map (aa_tr b z)).toArray) X₁.here hdg hn1 hkY hinitY
    (X₁.room_calling (g := F0 m pc lsA (st.map (aa_tr b z))) (R' := (headSpec (aa_ws M2) { frames := d2, cells := 1, slots := 6, locals := 100 * d2 }).room) (hl.1.trans o3.symm) hmY hcM (by show d2 + 1 ≤ _; omega) (by
      rw [hlM]
      show 2 * 0 + ((st.map (aa_tr b z)).map fun v => v.category).sum + (M2.2.2.1 + 11) + 100 * d2 ≤ _
      omega) (by show σ.2.2.2.1 - c0 + 1 ≤ _; omega) (by show σ.2.2.2.2 - s0 + 6 ≤ _; omega))
    (atoms_intro fun w hw => by
      rcases List.mem_cons.mp hw with rfl | hw
      · exact wrd _ k1.tb _ _ X₁.warmed
      · exact wrd _ hw _ _ X₁.warmed)
  obtain ⟨mid, hmid⟩ := X₁.here.above
  have hfr : ((V.setVm vm₁).setTop (F0 m pc lsA (st.map (aa_tr b z)))).frames = (.java (F0 m pc lsA (st.map (aa_tr b z))) :: mid) ++ below := by rw [State.frames_setTop' _ X₁.here.top, hmid]; rfl
  have hpx : ee_PX D cA b z (.ref a :: As) σ ((Value.ref a :: As).map (aa_tr b z)).toArray (V.setVm vm₁) := ⟨aa_PX.of (avs := .ref a :: As) hP hz hS o9 o13 o10 o14 hVH X₁.warmed, hK.to X₁.warmed (fun q hq => by
    show V.heap[q]? = _
    rw [hVH]; exact hS.2.1 q (by omega) (Nat.not_le.mpr hq))⟩
  obtain ⟨o, s₂, hsteps, -, hend, hq⟩ := Steps.callFree (hT l hL D cA b z) p X.admits X.cas X.clock (acts := []) (m := mk) hfr happ (ee_blind _ _ (F0 m pc lsA (st.map (aa_tr b z))) mk hpx) trivial
  obtain ⟨rfl, w1, ⟨L, w2, w3⟩, w4, w5, w6, ce, w7, w8, w9, w10⟩ := hq
  rw [State.frames_setTop' _ X₁.here.top, X₁.tail] at hend
  obtain ⟨T', X', hW', hsame', heq⟩ := X₁.outOfThrown (g := F0 m pc lsA (st.map (aa_tr b z))) rfl hend w1 w2
  have hT' : T'.heap = s₂.heap := by rw [heq, throwing_heap]
  obtain ⟨vm₃, X₃, hst3⟩ := ee_caught X' (a := b + σ.2.2.1.length) (g := F0 m pc lsA (st.map (aa_tr b z))) rfl o4 htab hcov hx0 (o5 _ hlink.tb) (cell := ce) (by rw [hT']; exact w7) w9 (by
    have : (V.setVm vm₁).vm.findClass ee_N = some ce.cls := w8
    rw [X₁.warmed.alike.findClass] at this; exact this) (by
    have : (V.setVm vm₁).vm.assignable ce.cls ce.cls = true := w10
    rw [X₁.warmed.alike.assignable] at this; exact this)
  have hH : (T'.setVm vm₃).heap = s₂.heap := hT'
  have K1 := K (T'.setVm vm₃).heap (locs ++ L) lsA (by rw [hH]; exact ee_nwP w4) (by rw [hH, w5]; simp [aa_nw]; omega)
    ⟨by rw [hH]; exact Nat.le_trans hS.1 (by rw [← hVH]; exact w6.1), fun q h1 h2 => by
      have e1 : s₂.heap[q]? = V.heap[q]? := w6.2 q (by show q < V.heap.size; rw [hVH]; exact Nat.lt_of_lt_of_le h1 hS.1) h2
      rw [hH, e1, hVH]
      exact hS.2.1 q h1 h2, fun q hq => by
      rcases List.mem_append.mp hq with h | h
      · exact hS.2.2 q h
      · exact w3 q h⟩ hl
  simp only [aa_nw] at K1
  rw [show σ.2.2.2.1 + 1 - c0 = σ.2.2.2.1 - c0 + 1 by omega, show σ.2.2.2.2 + 6 - s0 = σ.2.2.2.2 - s0 + 6 by omega] at K1
  obtain ⟨t, a1, b1⟩ := K1 (T'.setVm vm₃) rfl X₃
  refine ⟨t, hstep₁ _ fun acts => ?_, b1⟩
  rw [doInvoke_state]
  rw [heq] at hsteps
  exact hsteps.trans (hst3 t a1)
end
