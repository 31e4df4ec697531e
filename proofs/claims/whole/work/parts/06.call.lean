section
variable {M : aa_M} {d pc pn : Nat} {ls tl : aa_L} {st : List Value} {σ : aa_St} {Q : Option Value → aa_St → Prop}
theorem aa_QX.of {D : va_G} {cA : Nat → ClassId} {b : Nat} {z : Nat × Nat} {r : Option Value} {σ : aa_St} {args : Array Value} {s t : State} {H : Heap} {locs : List Loc} (hP : aa_PP D cA b z σ H) (hz : H.size = b + σ.2.2.1.length) (hS : va_S (fun q => b ≤ q) s.heap H locs) (ht : t.heap = H) : aa_QX D cA b z r σ args s (.returned r) t :=
  ⟨rfl, by rw [ht]; exact hP, by rw [ht]; exact hz, hS.F ht⟩
theorem aa_iret {x : Int32} (h : aa_At M pc .ireturn 1 pn) (hr : M.2.2.2 = some .int) (hq : Q (some (.int x)) σ) : aa_V M d pc ls [.int x] σ Q := ⟨_, σ, hq, Nat.le_refl _, Nat.le_refl _, fun p l e R s m args below meth c D cA b z c0 s0 ok _ _ _ _ H locs lsA hP hz hS hl =>
  W.iret ok.1 ok.2.1 (ok.2.2.2.2.2.1.trans hr) (fun t ht _ => aa_QX.of hP hz hS ht) hS.2.2 h.1 ok.2.2.2.2.2.2.1⟩
theorem aa_zret {x : Int32} (h : aa_At M pc .ireturn 1 pn) (hr : M.2.2.2 = some .boolean) (hn : narrow .boolean (.int x) = .int x) (hq : Q (some (.int x)) σ) : aa_V M d pc ls [.int x] σ Q := ⟨_, σ, hq, Nat.le_refl _, Nat.le_refl _, fun p l e R s m args below meth c D cA b z c0 s0 ok _ _ _ _ H locs lsA hP hz hS hl =>
  W.zret ok.1 ok.2.1 (ok.2.2.2.2.2.1.trans hr) hn (fun t ht _ => aa_QX.of hP hz hS ht) hS.2.2 h.1 ok.2.2.2.2.2.2.1⟩
theorem aa_lret {x : Int64} (h : aa_At M pc .lreturn 1 pn) (hr : M.2.2.2 = some .long) (hq : Q (some (.long x)) σ) : aa_V M d pc ls [.long x] σ Q := ⟨_, σ, hq, Nat.le_refl _, Nat.le_refl _, fun p l e R s m args below meth c D cA b z c0 s0 ok _ _ _ _ H locs lsA hP hz hS hl =>
  W.lret ok.1 ok.2.1 (ok.2.2.2.2.2.1.trans hr) (fun t ht _ => aa_QX.of hP hz hS ht) hS.2.2 h.1 ok.2.2.2.2.2.2.1⟩
theorem aa_vret (h : aa_At M pc .return_ 1 pn) (hr : M.2.2.2 = none) (hq : Q none σ) : aa_V M d pc ls [] σ Q := ⟨_, σ, hq, Nat.le_refl _, Nat.le_refl _, fun p l e R s m args below meth c D cA b z c0 s0 ok _ _ _ _ H locs lsA hP hz hS hl =>
  W.vret ok.1 ok.2.1 (ok.2.2.2.2.2.1.trans hr) (fun t ht _ => aa_QX.of hP hz hS ht) hS.2.2 h.1 ok.2.2.2.2.2.2.1⟩
theorem aa_nz0 : narrow .boolean (.int 0) = .int 0 := by decide +kernel
theorem aa_nz1 : narrow .boolean (.int 1) = .int 1 := by decide +kernel
/-- calls -/
theorem aa_blind {D : va_G} {cA : Nat → ClassId} {b : Nat} {z : Nat × Nat} {avs : List Value} {σ : aa_St} : FrameBlind (aa_PX D cA b z avs σ) := by
  intro a U g mk hp
  obtain ⟨h1, h2, h3, h4, ⟨x1, x2, x3⟩, h6, h7⟩ := hp
  exact ⟨h1, h2, h3, va_K.moved (u := U) (U := U.calling g mk a) (Vm.Alike.refl U.vm) h4, ⟨va_Z.moved (u := U) (U := U.calling g mk a) (Vm.Alike.refl U.vm) x1, va_X.moved (u := U) (U := U.calling g mk a) (Vm.Alike.refl U.vm) x2, x3⟩, fun w hw => (h6 w hw).same (u := U) (U := U.calling g mk a) (by simp only [aa_nest, List.mem_cons, List.not_mem_nil, or_false] at hw; rcases hw with rfl | rfl | rfl | rfl | rfl | rfl | rfl <;> rfl) rfl, va_AO.moved (u := U) (U := U.calling g mk a) (Vm.Alike.refl U.vm) h7⟩
/-- what a callee finds -/
theorem aa_PX.of {D : va_G} {cA : Nat → ClassId} {b : Nat} {z : Nat × Nat} {avs : List Value} {σ : aa_St} {s U : State} {H : Heap} {locs : List Loc} (hP : aa_PP D cA b z σ H) (hz : H.size = b + σ.2.2.1.length) (hS : va_S (fun q => b ≤ q) s.heap H locs) (hK : va_K D vwCl (aa_tys cA) s) (hX : aa_XL b z s) (hb : b ≤ s.heap.size) (hN : aa_NW s) (hU : U.heap = H) (hW : s.WarmedH U.vm) : aa_PX D cA b z avs σ (avs.map (aa_tr b z)).toArray U := by
  obtain ⟨x1, x2, x3⟩ := hX
  refine ⟨rfl, by rw [hU]; exact hP, by rw [hU]; exact hz, va_K.moved hW.alike hK, ⟨?_, ?_, x3⟩, hN.warm hW⟩
  · rw [hU]
    exact (x1.moved hW.alike).kept (fun a ha hna => hS.2.1 a ha hna)
  · rw [hU]
    exact (x2.moved hW.alike).kept (hS.2.1 z.1 (Nat.lt_of_lt_of_le x3 hb) (Nat.not_le.mpr x3))
/-- the words of a call: static, virtual (of a class that is known), of a constructor, of a nest mate's constructor -/
def aa_LC (M2 : aa_M) (n : Nat) : Prop := aa_lk (Cond.code M2.1 M2.2.1 M2.2.2.1 M2.2.2.2) ∧ aa_lk (.initialized M2.1.cls) ∧ (M2.1.cls ≠ "java/lang/invoke/MethodHandle" ∧ M2.1.cls ≠ "java/lang/invoke/VarHandle" ∧ (parseMethodDescriptor M2.1.desc).map (fun d => d.parameters.length) = some n) ∧ M2.2.2.1 ≤ 40
def aa_LS (own : String) (idx : Nat) (M2 : aa_M) : Prop := aa_lk (.methodLink own idx M2.1) ∧ aa_lk (.static M2.1)
def aa_LV (own : String) (idx : Nat) (M2 : aa_M) : Prop := aa_lk (.methodLink own idx M2.1) ∧ aa_lk (.instanceMethod M2.1) ∧ aa_lk (.selects M2.1.cls M2.1 M2.1)
def aa_LI (own : String) (idx : Nat) (M2 : aa_M) : Prop := aa_lk (.methodLink own idx M2.1) ∧ aa_lk (.instanceMethod M2.1) ∧ M2.1.name = "<init>" ∧ M2.2.2.2 = none
def aa_LN (own : String) (idx : Nat) (M2 : aa_M) (host : String) : Prop := Cond.methodLinkNest own idx M2.1 host ∈ aa_nest ∧ aa_lk (.instanceMethod M2.1) ∧ M2.1.name = "<init>" ∧ M2.2.2.2 = none
theorem aa_back {p : Program} {l : Launch} {e : Env} {R : Room} {s : State} {m : MethodId} {args : Array Value} {below : List Frame} {meth : Method} {c : Code} {D : va_G} {cA : Nat → ClassId} {b : Nat} {z : Nat × Nat} {c0 s0 : Nat} {Q : State → Prop} {nL : Nat} {st0 : List Value} {σ1 : aa_St} {r1 : Option Value} {v1 : List Value} {H : Heap} {locs : List Loc} {lsA : Array Slot} {ar : Array Value}
    (hr : va_Run p l e R s m args below meth c H locs (σ.2.2.2.1 - c0) (σ.2.2.2.2 - s0) (σ1.2.2.2.1 - σ.2.2.2.1) (σ1.2.2.2.2 - σ.2.2.2.2) (F0 m pc lsA st0) (st.map (aa_tr b z)) (aa_QX D cA b z r1 σ1 ar) (fun q => b ≤ q))
    (h1 : σ.2.2.2.1 ≤ σ1.2.2.2.1) (h2 : σ.2.2.2.2 ≤ σ1.2.2.2.2) (hc : c0 ≤ σ.2.2.2.1) (hs : s0 ≤ σ.2.2.2.2) (hS : va_S (fun q => b ≤ q) s.heap H locs) (hpn : pc + 3 = pn) (hl : aa_lv b z lsA nL ls) (hv : r1.toList = v1) (hv2 : v1.map (aa_tr b z) = v1)
    (K : aa_Cf p l e R s m args below meth c D cA b z c0 s0 Q nL pn ls (v1 ++ st) σ1) : W p l e R s m args below meth c H locs (σ.2.2.2.1 - c0) (σ.2.2.2.2 - s0) Q (F0 m pc lsA st0) := by
  intro T hT X
  obtain ⟨v, st₀, t, T', L, g0, X', hL, e1, e2, ⟨q1, q2, q3, q4⟩, st9⟩ := hr T hT X
  cases q1
  obtain ⟨hz, hk⟩ := q4
  rw [g0] at hz hk
  have K1 := K T'.heap (locs ++ L) lsA (by rw [e1]; exact q2) (by rw [e1]; exact q3)
    ⟨Nat.le_trans hS.1 (by rw [e1]; exact hz), fun q h1 h2 => by rw [e1, hk q (Nat.lt_of_lt_of_le h1 hS.1) h2]; exact hS.2.1 q h1 h2, fun q hq => by
      rcases List.mem_append.mp hq with h | h
      · exact hS.2.2 q h
      · exact hL q h⟩ hl
  rw [List.map_append, hv2, ← hv, ← hpn, show σ1.2.2.2.1 - c0 = σ.2.2.2.1 - c0 + (σ1.2.2.2.1 - σ.2.2.2.1) by omega, show σ1.2.2.2.2 - s0 = σ.2.2.2.2 - s0 + (σ1.2.2.2.2 - σ.2.2.2.2) by omega] at K1
  obtain ⟨t2, a1, b1⟩ := K1 T' rfl X'
  exact ⟨t2, st9 t2 a1, b1⟩
theorem aa_cats (b : Nat) (z : Nat × Nat) (st : List Value) : ((st.map (aa_tr b z)).map fun v => v.category).sum = (st.map fun v => v.category).sum := by
  rw [List.map_map]
  congr 2
  funext v
  exact aa_tr_cat b z v
theorem aa_callS {M2 : aa_M} {d2 idx : Nat} {As : List Value} {σ1 : aa_St} {r1 : Option Value} {v1 st0 : List Value} (h : aa_At M pc (.invokestatic idx) 3 pn) (hS2 : aa_SX M2 d2 As σ r1 σ1) (hd : d2 < d) (hC : aa_LC M2 As.length) (hL : aa_LS M.1.cls idx M2) (hst : As.reverse ++ st = st0) (hv : r1.toList = v1) (hv2 : ∀ b z, v1.map (aa_tr b z) = v1) (hrm : (st.map fun v => v.category).sum ≤ 8) :
    aa_Go M d pc ls st0 σ pn ls (v1 ++ st) σ1 := ⟨hS2.1, hS2.2.1, fun p l e R s m args below meth c D cA b z c0 s0 Q ok hc0 hs0 hCc hSl K H locs lsA hP hz hS hl => by
  obtain ⟨o1, o2, o3, o4, o5, o6, o7, o8, o9, o10, o11, o12, o13, o14⟩ := id ok
  obtain ⟨k1, k2, k3, k4⟩ := hC
  have j1 := hS2.1
  have j2 := hS2.2.1
  subst hst
  refine aa_back (va_runS (As := As.map (aa_tr b z)) (bytes := M2.2.1) (maxL := M2.2.2.1) (ret := M2.2.2.2) (n := As.length) ⟨o1, o2, o3, o4, o5⟩ (hS2.2.2 l D cA b z) ⟨callB_of (Ts := aa_tb) As.length o5 (aa_tb_good k1) rfl rfl rfl (o5 _ k2.tb) (o5 _ hL.1.tb) k3 ⟨by show d2 + 1 ≤ _; omega, by show 8 + (_ + 11) + 100 * d2 ≤ _; omega⟩, o5 _ hL.2.tb⟩
    ⟨aa_blind, fun U hU hW => aa_PX.of hP hz hS o9 o13 o10 o14 hU hW⟩ rfl (by simp) hl.1 (by simp [List.map_reverse]) (lv_room (by rw [aa_cats]; exact hrm)) h.1 ⟨by omega, by omega⟩) hS2.1 hS2.2.1 hc0 hs0 hS h.2 hl hv (hv2 b z) K⟩
theorem aa_recv {D : va_G} {cA : Nat → ClassId} {b : Nat} {z : Nat × Nat} {s : State} {H : Heap} {a ci : Nat} {tp : List Value} (hK : va_K D vwCl (aa_tys cA) s) (hP : aa_PP D cA b z σ H) (hsh : σ.2.2.1[a]? = some (.inr (.inl (ci, tp)))) {C : String} {T : u_T} {N : Nat} (hc : vwCl[ci]? = some (C, T, N)) : ∃ cell : Cell, H[b + a]? = some cell ∧ cell.vm.isStatics = false ∧ s.vm.findClass C = some cell.cls :=
  va_recv hK (hP.obj hsh) hc (q0 := 0) rfl
theorem aa_callV {M2 : aa_M} {d2 idx a ci : Nat} {As : List Value} {tp : List Value} {σ1 : aa_St} {r1 : Option Value} {v1 st0 : List Value} {T : u_T} {N : Nat} (h : aa_At M pc (.invokevirtual idx) 3 pn) (hS2 : aa_SX M2 d2 (.ref a :: As) σ r1 σ1) (hd : d2 < d) (hC : aa_LC M2 As.length) (hL : aa_LV M.1.cls idx M2) (hsh : σ.2.2.1[a]? = some (.inr (.inl (ci, tp)))) (hci : vwCl[ci]? = some (M2.1.cls, T, N)) (hst : As.reverse ++ .ref a :: st = st0) (hv : r1.toList = v1) (hv2 : ∀ b z, v1.map (aa_tr b z) = v1) (hrm : (st.map fun v => v.category).sum ≤ 8) :
    aa_Go M d pc ls st0 σ pn ls (v1 ++ st) σ1 := ⟨hS2.1, hS2.2.1, fun p l e R s m args below meth c D cA b z c0 s0 Q ok hc0 hs0 hCc hSl K H locs lsA hP hz hS hl => by
  obtain ⟨o1, o2, o3, o4, o5, o6, o7, o8, o9, o10, o11, o12, o13, o14⟩ := id ok
  obtain ⟨k1, k2, k3, k4⟩ := hC
  have j1 := hS2.1
  have j2 := hS2.2.1
  subst hst
  refine aa_back (va_runV (As := As.map (aa_tr b z)) (C := M2.1.cls) (b := b + a) (bytes := M2.2.1) (maxL := M2.2.2.1) (ret := M2.2.2.2) (n := As.length) ⟨o1, o2, o3, o4, o5⟩ (hS2.2.2 l D cA b z) ⟨callB_of (Ts := aa_tb) As.length o5 (aa_tb_good k1) rfl rfl rfl (o5 _ k2.tb) (o5 _ hL.1.tb) k3 ⟨by show d2 + 1 ≤ _; omega, by show 8 + (_ + 11) + 100 * d2 ≤ _; omega⟩, o5 _ hL.2.1.tb, o5 _ hL.2.2.tb⟩
    ⟨aa_blind, aa_recv o9 hP hsh hci, fun U hU hW => aa_PX.of (avs := .ref a :: As) hP hz hS o9 o13 o10 o14 hU hW⟩ rfl (by simp) hl.1 (by simp [List.map_reverse, aa_tr]) (lv_room (by rw [aa_cats]; exact hrm)) h.1 ⟨by omega, by omega⟩) hS2.1 hS2.2.1 hc0 hs0 hS h.2 hl hv (hv2 b z) K⟩
theorem aa_callI {M2 : aa_M} {d2 idx a : Nat} {As : List Value} {σ1 : aa_St} {st0 : List Value} (h : aa_At M pc (.invokespecial idx) 3 pn) (hS2 : aa_SX M2 d2 (.ref a :: As) σ none σ1) (hd : d2 < d) (hC : aa_LC M2 As.length) (hL : aa_LI M.1.cls idx M2) (hst : As.reverse ++ .ref a :: st = st0) (hrm : (st.map fun v => v.category).sum ≤ 8) :
    aa_Go M d pc ls st0 σ pn ls st σ1 := ⟨hS2.1, hS2.2.1, fun p l e R s m args below meth c D cA b z c0 s0 Q ok hc0 hs0 hCc hSl K H locs lsA hP hz hS hl => by
  obtain ⟨o1, o2, o3, o4, o5, o6, o7, o8, o9, o10, o11, o12, o13, o14⟩ := id ok
  obtain ⟨k1, k2, k3, k4⟩ := hC
  have j1 := hS2.1
  have j2 := hS2.2.1
  obtain ⟨l1, l2, l3, l4⟩ := hL
  subst hst
  have hM := hS2.2.2 l D cA b z
  rw [l4] at k1
  refine aa_back (v1 := []) (va_runI (As := As.map (aa_tr b z)) (b := b + a) (bytes := M2.2.1) (maxL := M2.2.2.1) (n := As.length) ⟨o1, o2, o3, o4, o5⟩ hM ⟨callB_of (Ts := aa_tb) (ws' := aa_tb) As.length o5 (aa_tb_good (by rw [l4]; exact k1)) (by unfold aa_ws; rw [l4]) rfl rfl (o5 _ k2.tb) (o5 _ l1.tb) k3 ⟨by show d2 + 1 ≤ _; omega, by show 8 + (_ + 11) + 100 * d2 ≤ _; omega⟩, l3, o5 _ l2.tb⟩
    ⟨aa_blind, fun U hU hW => aa_PX.of (avs := .ref a :: As) hP hz hS o9 o13 o10 o14 hU hW⟩ rfl (by simp) hl.1 (by simp [List.map_reverse, aa_tr]) (lv_room (by rw [aa_cats]; exact hrm)) h.1 ⟨by omega, by omega⟩) hS2.1 hS2.2.1 hc0 hs0 hS h.2 hl rfl rfl K⟩
theorem aa_callN {M2 : aa_M} {d2 idx a : Nat} {host : String} {As : List Value} {σ1 : aa_St} {st0 : List Value} (h : aa_At M pc (.invokespecial idx) 3 pn) (hS2 : aa_SX M2 d2 (.ref a :: As) σ none σ1) (hd : d2 < d) (hC : aa_LC M2 As.length) (hL : aa_LN M.1.cls idx M2 host) (hst : As.reverse ++ .ref a :: st = st0) (hrm : (st.map fun v => v.category).sum ≤ 8) :
    aa_Go M d pc ls st0 σ pn ls st σ1 := ⟨hS2.1, hS2.2.1, fun p l e R s m args below meth c D cA b z c0 s0 Q ok hc0 hs0 hCc hSl K H locs lsA hP hz hS hl => by
  obtain ⟨o1, o2, o3, o4, o5, o6, o7, o8, o9, o10, o11, o12, o13, o14⟩ := id ok
  obtain ⟨k1, k2, k3, k4⟩ := hC
  have j1 := hS2.1
  have j2 := hS2.2.1
  obtain ⟨l1, l2, l3, l4⟩ := hL
  subst hst
  have hM := hS2.2.2 l D cA b z
  rw [l4] at k1
  refine aa_back (v1 := []) (va_runIN (As := As.map (aa_tr b z)) (b := b + a) (bytes := M2.2.1) (maxL := M2.2.2.1) (n := As.length) ⟨o1, o2, o3, o4, o5⟩ hM ⟨va_cnB (Ts := aa_tb) (ws' := aa_tb) As.length o5 (aa_tb_good (by rw [l4]; exact k1)) (by unfold aa_ws; rw [l4]) rfl rfl (o14.1 _ l1) (o5 _ k2.tb) k3 ⟨by show d2 + 1 ≤ _; omega, by show 8 + (_ + 11) + 100 * d2 ≤ _; omega⟩, l3, o5 _ l2.tb⟩
    ⟨aa_blind, fun U hU hW => aa_PX.of (avs := .ref a :: As) hP hz hS o9 o13 o10 o14 hU hW⟩ rfl (by simp) hl.1 (by simp [List.map_reverse, aa_tr]) (lv_room (by rw [aa_cats]; exact hrm)) h.1 ⟨by omega, by omega⟩) hS2.1 hS2.2.1 hc0 hs0 hS h.2 hl rfl rfl K⟩
theorem aa_obj {idx a : Nat} (h : aa_At M pc (.invokespecial idx) 3 pn) (h1 : aa_lk (.methodLink M.1.cls idx objectInit)) (h2 : aa_lk (.instanceMethod objectInit)) (h3 : aa_lk (.code objectInit ⟨#[0xb1]⟩ 1 none)) (hd : 0 < d) (hrm : (st.map fun v => v.category).sum ≤ 8) : aa_Go M d pc ls (.ref a :: st) σ pn ls st σ := ⟨Nat.le_refl _, Nat.le_refl _, fun p l e R s m args below meth c D cA b z c0 s0 Q ok _ _ _ _ K H locs lsA hP hz hS hl => by
  obtain ⟨o1, o2, o3, o4, o5, o6, o7, o8, o9, o10, o11, o12, o13, o14⟩ := id ok
  have K1 := K H locs lsA hP hz hS hl
  rw [← h.2] at K1
  refine W.objInit o1 o2 o4 (o5 _ h1.tb) (o5 _ h2.tb) (o5 _ h3.tb) rfl (hl.1.trans o3.symm) rfl h.1 (by omega) ?_ K1
  have := lv_room (m := m) (pc := pc) (ls := lsA) (rest := (Value.ref a :: st).map (aa_tr b z)) (st := st.map (aa_tr b z)) (by rw [aa_cats]; exact hrm)
  show 2 * (F0 m pc lsA ((Value.ref a :: st).map (aa_tr b z))).monitorRoom + ((st.map (aa_tr b z)).map fun v => v.category).sum + 12 ≤ _
  omega⟩
end
