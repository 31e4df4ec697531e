/-! THE LAW: walks in one context, with the script -/
abbrev lg_X : Type := Program × Launch × Env × Room × State × MethodId × Array Value × List Frame × Method × Code × va_G × (Nat → ClassId) × Nat × (Nat × Nat) × Nat × Nat × (State → Prop)
def lg_C : lg_X → Nat → aa_L → List Value → aa_St → Prop
  | (p, l, e, R, s, m, args, below, meth, c, D, cA, b, z, c0, s0, Q), pc, ls, st, σ => aa_Cf p l e R s m args below meth c D cA b z c0 s0 Q 8 pc ls st σ
/-- what holds all through the law: the context, the words of the throws, the script of n ints f -/
def lg_ok (n : Nat) (f : Nat → Int32) : lg_X → Prop
  | (p, l, e, R, s, m, args, below, meth, c, D, cA, b, z, c0, s0, Q) => aa_OK mL_law 102 p R s m args meth c D cA b z ∧ ee_L l ∧ ee_K b s ∧ va_X z.2 n f s s.heap ∧ z.2 < b
def lg_rm : lg_X → aa_St → aa_St → Prop
  | (p, l, e, R, s, m, args, below, meth, c, D, cA, b, z, c0, s0, Q), σ, σ1 => c0 ≤ σ.2.2.2.1 ∧ s0 ≤ σ.2.2.2.2 ∧ σ1.2.2.2.1 - c0 ≤ R.cells ∧ σ1.2.2.2.2 - s0 ≤ R.slots
theorem lg_rm.a {x : lg_X} {σ σ1 σ2 : aa_St} (h : lg_rm x σ σ2) (h1 : σ1.2.2.2.1 ≤ σ2.2.2.2.1) (h2 : σ1.2.2.2.2 ≤ σ2.2.2.2.2) : lg_rm x σ σ1 := by
  obtain ⟨p, l, e, R, s, m, args, below, meth, c, D, cA, b, z, c0, s0, Q⟩ := x
  obtain ⟨a1, a2, a3, a4⟩ := h
  exact ⟨a1, a2, by omega, by omega⟩
theorem lg_rm.b {x : lg_X} {σ σ1 σ2 : aa_St} (h : lg_rm x σ σ2) (h1 : σ.2.2.2.1 ≤ σ1.2.2.2.1) (h2 : σ.2.2.2.2 ≤ σ1.2.2.2.2) : lg_rm x σ1 σ2 := by
  obtain ⟨p, l, e, R, s, m, args, below, meth, c, D, cA, b, z, c0, s0, Q⟩ := x
  obtain ⟨a1, a2, a3, a4⟩ := h
  exact ⟨by omega, by omega, a3, a4⟩
def lg_G (x : lg_X) (pc : Nat) (ls : aa_L) (st : List Value) (σ : aa_St) (pc1 : Nat) (ls1 : aa_L) (st1 : List Value) (σ1 : aa_St) : Prop := σ.2.2.2.1 ≤ σ1.2.2.2.1 ∧ σ.2.2.2.2 ≤ σ1.2.2.2.2 ∧ (lg_rm x σ σ1 → lg_C x pc1 ls1 st1 σ1 → lg_C x pc ls st σ)
def lg_V (x : lg_X) (pc : Nat) (ls : aa_L) (st : List Value) (σ : aa_St) (E : Nat → aa_L → List Value → aa_St → Prop) : Prop := ∃ pc1 ls1 st1 σ1, E pc1 ls1 st1 σ1 ∧ lg_G x pc ls st σ pc1 ls1 st1 σ1
section
variable {x : lg_X} {n : Nat} {f : Nat → Int32} {pc pc1 pn : Nat} {ls ls1 tl : aa_L} {st st1 : List Value} {σ σ1 : aa_St} {E : Nat → aa_L → List Value → aa_St → Prop} {d : Nat}
theorem lg_G.of (ok : lg_ok n f x) (h : aa_Go mL_law 102 pc ls st σ pc1 ls1 st1 σ1) : lg_G x pc ls st σ pc1 ls1 st1 σ1 := by
  obtain ⟨p, l, e, R, s, m, args, below, meth, c, D, cA, b, z, c0, s0, Q⟩ := x
  obtain ⟨h1, h2, h3⟩ := h
  exact ⟨h1, h2, fun hr k => h3 p l e R s m args below meth c D cA b z c0 s0 Q ok.1 hr.1 hr.2.1 hr.2.2.1 hr.2.2.2 k⟩
theorem lg_gg (h : lg_G x pc ls st σ pc1 ls1 st1 σ1) (k : lg_V x pc1 ls1 st1 σ1 E) : lg_V x pc ls st σ E := by
  obtain ⟨pc2, ls2, st2, σ2, hE, k1, k2, k3⟩ := k
  obtain ⟨h1, h2, h3⟩ := h
  exact ⟨pc2, ls2, st2, σ2, hE, Nat.le_trans h1 k1, Nat.le_trans h2 k2, fun hr kk => h3 (hr.a k1 k2) (k3 (hr.b h1 h2) kk)⟩
theorem lg_go (ok : lg_ok n f x) (h : aa_Go mL_law 102 pc ls st σ pc1 ls1 st1 σ1) (k : lg_V x pc1 ls1 st1 σ1 E) : lg_V x pc ls st σ E := lg_gg (lg_G.of ok h) k
theorem lg_end (h : E pc ls st σ) : lg_V x pc ls st σ E := ⟨pc, ls, st, σ, h, Nat.le_refl _, Nat.le_refl _, fun _ k => k⟩
theorem aa_aload0F {M : aa_M} {y : UInt32} (h : aa_At M pc (.aload_n 0) 1 pn) : aa_Go M d pc (some (.float y) :: tl) st σ pn (some (.float y) :: tl) (.float y :: st) σ := ⟨Nat.le_refl _, Nat.le_refl _, fun p l e R s m args below meth c D cA b z c0 s0 Q ok _ _ _ _ K H locs lsA hP hz hS hl => by
  have K1 := K H locs lsA hP hz hS hl
  rw [← h.2] at K1
  exact lv_aload_n ok.1 ok.2.1 h.1 rfl (hl.at (i := 0) (v := .float y) rfl) K1⟩
/-- the script is read -/
theorem lg_scr (ok : lg_ok n f x) {j : Nat} (h : aa_At mL_law pc .iaload 1 pn) (hj : j < n) (hn : n < 2147483648) : lg_G x pc ls (.int (nI j) :: .float 1 :: st) σ pn ls (.int (f j) :: st) σ := by
  obtain ⟨p, l, e, R, s, m, args, below, meth, c, D, cA, b, z, c0, s0, Q⟩ := x
  obtain ⟨ok1, -, -, hX, hzb⟩ := ok
  refine ⟨Nat.le_refl _, Nat.le_refl _, fun _ K H locs lsA hP hz hS hl => ?_⟩
  have K1 := K H locs lsA hP hz hS hl
  rw [← h.2] at K1
  obtain ⟨-, -, -, -, -, -, -, -, -, hb0, -, -, -, -⟩ := id ok1
  have e1 : (nI j).toNatClampNeg = j := nI_clamp (Nat.lt_trans hj hn)
  exact va_sld ok1.1 ok1.2.1 hX (Nat.lt_of_lt_of_le hzb hb0) (Nat.not_le.mpr hzb) hS (aa_vin hj hn) h.1 (by rw [e1]; exact K1)
theorem lg_len (ok : lg_ok n f x) (h : aa_At mL_law pc .arraylength 1 pn) : lg_G x pc ls (.float 1 :: st) σ pn ls (.int (nI n) :: st) σ := by
  obtain ⟨p, l, e, R, s, m, args, below, meth, c, D, cA, b, z, c0, s0, Q⟩ := x
  obtain ⟨ok1, -, -, hX, hzb⟩ := ok
  refine ⟨Nat.le_refl _, Nat.le_refl _, fun _ K H locs lsA hP hz hS hl => ?_⟩
  have K1 := K H locs lsA hP hz hS hl
  rw [← h.2] at K1
  obtain ⟨-, -, -, -, -, -, -, -, -, hb0, -, -, -, -⟩ := id ok1
  exact va_slen ok1.1 ok1.2.1 hX (Nat.lt_of_lt_of_le hzb hb0) (Nat.not_le.mpr hzb) hS h.1 K1
/-- a helper is called -/
def lg_LW (idx : Nat) (M2 : aa_M) (hh : List (Nat × Nat × Nat × Nat)) (k : Nat) : Prop := M2.1.cls = RL ∧ aa_lk (.methodLink RL idx M2.1) ∧ aa_lk (.static M2.1) ∧ aa_lk (Cond.codeWith M2.1 M2.2.1 M2.2.2.1 M2.2.2.2 hh) ∧ (parseMethodDescriptor M2.1.desc).map (fun d => d.parameters.length) = some k ∧ M2.2.2.1 ≤ 40
theorem lg_callW (ok : lg_ok n f x) {M2 : aa_M} {hh : List (Nat × Nat × Nat × Nat)} {idx k : Nat} {As : List Value} {y : Int32} {st0 : List Value} (h : aa_At mL_law pc (.invokestatic idx) 3 pn) (hS2 : ee_SW M2 hh 101 As σ (some (.int y)) σ1) (hk : As.length = k) (hL : lg_LW idx M2 hh k) (hst : As.reverse ++ st = st0) (hrm : (st.map fun v => v.category).sum ≤ 8) :
    lg_G x pc ls st0 σ pn ls (.int y :: st) σ1 := by
  obtain ⟨p, l, e, R, s, m, args, below, meth, c, D, cA, b, z, c0, s0, Q⟩ := x
  obtain ⟨ok1, hl0, hK0, -, -⟩ := ok
  refine ⟨hS2.1, hS2.2.1, fun hr K H locs lsA hP hz hS hl => ?_⟩
  obtain ⟨hc0, hs0, hCc, hSl⟩ := hr
  obtain ⟨o1, o2, o3, o4, o5, o6, o7, o8, o9, o10, o11, o12, o13, o14⟩ := id ok1
  obtain ⟨k0, k1, k2, k3, k4, k5⟩ := hL
  have j1 := hS2.1
  have j2 := hS2.2.1
  subst hst
  have hM := hS2.2.2 l hl0 D cA b z
  have wrd : ∀ w, w ∈ aa_tb → ∀ (a' : Array Value) (U : State), s.WarmedH U.vm → w.before a' U = true := fun w hw a' U hW => word_at hW (good_of_word (List.mem_filter.mp hw).2) (o5 w hw)
  have hini : aa_lk (.initialized RL) := ⟨aa_t1 0 rfl, rfl⟩
  have hB : Back l R p e below s args M2.1 3 8 (PreOf R (σ1.2.2.2.1 - σ.2.2.2.1) (σ1.2.2.2.2 - σ.2.2.2.2) (ee_PX D cA b z As σ)) (PostOf (aa_QX D cA b z (some (.int y)) σ1) (σ1.2.2.2.1 - σ.2.2.2.1) (σ1.2.2.2.2 - σ.2.2.2.2) (fun q => b ≤ q)) :=
    va_backW (bytes := M2.2.1) (maxL := M2.2.2.1) (ret := M2.2.2.2) (hh := hh) hM ee_blind rfl rfl (by show 101 + 1 ≤ _; omega) (by show 8 + (M2.2.2.1 + 11) + 100 * 101 ≤ _; omega)
      (fun w hw a' U hW => by
        rcases List.mem_cons.mp hw with rfl | hw
        · exact wrd _ k3.tb a' U hW
        · exact wrd _ hw a' U hW) List.mem_cons_self (fun a' U hW => by rw [k0]; exact wrd _ hini.tb a' U hW)
  have hrun : va_Run p l e R s m args below meth c H locs (σ.2.2.2.1 - c0) (σ.2.2.2.2 - s0) (σ1.2.2.2.1 - σ.2.2.2.1) (σ1.2.2.2.2 - σ.2.2.2.2) (F0 m pc lsA ((As.reverse ++ st).map (aa_tr b z))) (st.map (aa_tr b z)) (aa_QX D cA b z (some (.int y)) σ1 (As.map (aa_tr b z)).toArray) (fun q => b ≤ q) := by
    intro T hT X
    obtain ⟨mk, methM, cM, hnamed, hmethM, -, -, -, -, -, -, hsig⟩ := Cond.codeWith_spec (o5 _ k3.tb)
    have hstatic : methM.isStatic = true := Cond.static_spec hnamed hmethM (o5 _ k2.tb)
    obtain ⟨kP, hkP, -⟩ := className_of_methodNamed hnamed
    have hinitP : kP.init = .initialized := Cond.initialized_spec (findClass_of_methodNamed hnamed) hkP (by rw [k0]; exact o5 _ hini.tb)
    have hdg : decode c.code pc = .ok (.invokestatic idx, 3) := by rw [o2]; exact h.1
    have hlen : (As.map (aa_tr b z)).length = methM.sig.parameters.length := by
      rw [hsig] at k4
      rw [List.length_map, hk]
      exact (Option.some.inj k4).symm
    obtain ⟨vm₁, X₁, hstep₁⟩ := X.invokestatic o1 o4 (o5 _ k1.tb) hnamed hmethM hstatic hkP hinitP (by rw [k0]; decide) (g := F0 m pc lsA ((As.reverse ++ st).map (aa_tr b z))) rfl (argsL := As.map (aa_tr b z)) (rest := st.map (aa_tr b z)) hlen (by simp [List.map_reverse]) hdg
    obtain ⟨v, ⟨U', l2, c2, s2⟩, X', ⟨g', mk', t, L, e1, e2, hq, q1, hL', q2, q3⟩, hsteps⟩ := hB m meth c ⟨T.setVm vm₁, locs, σ.2.2.2.1 - c0, σ.2.2.2.2 - s0⟩ (F0 m pc lsA (st.map (aa_tr b z))) (.invokestatic idx) mk (As.map (aa_tr b z)).toArray X₁ rfl (hl.1.trans o3.symm) hdg (lv_room (by rw [aa_cats]; exact hrm)) (X₁.named hnamed)
      ⟨by show σ.2.2.2.1 - c0 + _ ≤ _; omega, by show σ.2.2.2.2 - s0 + _ ≤ _; omega, aa_PX.of hP hz hS o9 o13 o10 o14 hT X₁.warmed, hK0.to X₁.warmed (fun q hq => by
        show T.heap[q]? = _
        rw [hT]; exact hS.2.1 q (by omega) (Nat.not_le.mpr hq))⟩
    dsimp only [Pt.U, Pt.locs, Pt.cells, Pt.slots] at X' e1 e2 q1 q2 q3 hsteps
    subst q1; subst q2; subst q3
    exact ⟨v, _, t, U', L, hT, X', hL', e1, e2, hq, fun target ht => hstep₁ _ fun acts => by rw [doInvoke_state]; exact hsteps.trans ht⟩
  exact aa_back hrun hS2.1 hS2.2.1 hc0 hs0 hS h.2 hl rfl rfl K
theorem lw_thing : lg_LW 38 mL_thing [(0, 10, 13, 13)] 4 := ⟨rfl, ⟨aa_t6 9 rfl, rfl⟩, ⟨aa_t6 10 rfl, rfl⟩, ⟨aa_t6 11 rfl, rfl⟩, by decide +kernel, by decide⟩
theorem lw_row : lg_LW 205 mL_row [(0, 8, 11, 13)] 3 := ⟨rfl, ⟨aa_t6 93 rfl, rfl⟩, ⟨aa_t6 94 rfl, rfl⟩, ⟨aa_t6 95 rfl, rfl⟩, by decide +kernel, by decide⟩
end
