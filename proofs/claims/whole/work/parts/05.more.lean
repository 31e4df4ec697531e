section
variable {M : aa_M} {d pc pn : Nat} {ls tl : aa_L} {st : List Value} {σ : aa_St}
/-- an array of ints, bytes or booleans -/
theorem aa_iald {a n : Nat} {j : Int32} (h : aa_At M pc .iaload 1 pn) (hsh : σ.2.2.1[a]? = some (.inl (0, n))) (hin : vp_in j n) : aa_Go M d pc ls (.int j :: .ref a :: st) σ pn ls (.int (σ.1 a j.toNatClampNeg) :: st) σ := ⟨Nat.le_refl _, Nat.le_refl _, fun p l e R s m args below meth c D cA b z c0 s0 Q ok _ _ _ _ K H locs lsA hP hz hS hl => by
  have K1 := K H locs lsA hP hz hS hl
  rw [← h.2] at K1
  exact va_iald (D := D) (cl := vwCl) (tys := aa_tys cA) ok.1 ok.2.1 ok.2.2.2.2.2.2.2.2.1 (hP.arr hsh) 0 0 rfl rfl hin h.1 K1⟩
theorem aa_zald {a n : Nat} {j : Int32} (h : aa_At M pc .baload 1 pn) (hsh : σ.2.2.1[a]? = some (.inl (2, n))) (hin : vp_in j n) : aa_Go M d pc ls (.int j :: .ref a :: st) σ pn ls (.int (σ.1 a j.toNatClampNeg) :: st) σ := ⟨Nat.le_refl _, Nat.le_refl _, fun p l e R s m args below meth c D cA b z c0 s0 Q ok _ _ _ _ K H locs lsA hP hz hS hl => by
  have K1 := K H locs lsA hP hz hS hl
  rw [← h.2] at K1
  exact va_zald (D := D) (cl := vwCl) (tys := aa_tys cA) ok.1 ok.2.1 ok.2.2.2.2.2.2.2.2.1 (hP.arr hsh) 0 2 rfl rfl hin h.1 K1⟩
theorem aa_bald {a n : Nat} {j : Int32} (h : aa_At M pc .baload 1 pn) (hsh : σ.2.2.1[a]? = some (.inl (3, n))) (hin : vp_in j n) : aa_Go M d pc ls (.int j :: .ref a :: st) σ pn ls (.int (σ.1 a j.toNatClampNeg) :: st) σ := ⟨Nat.le_refl _, Nat.le_refl _, fun p l e R s m args below meth c D cA b z c0 s0 Q ok _ _ _ _ K H locs lsA hP hz hS hl => by
  have K1 := K H locs lsA hP hz hS hl
  rw [← h.2] at K1
  exact va_bald (D := D) (cl := vwCl) (tys := aa_tys cA) ok.1 ok.2.1 ok.2.2.2.2.2.2.2.2.1 (hP.arr hsh) 0 3 rfl rfl hin h.1 K1⟩
theorem aa_lald {a n : Nat} {j : Int32} (h : aa_At M pc .laload 1 pn) (hsh : σ.2.2.1[a]? = some (.inl (1, n))) (hin : vp_in j n) : aa_Go M d pc ls (.int j :: .ref a :: st) σ pn ls (.long (σ.2.1 a j.toNatClampNeg) :: st) σ := ⟨Nat.le_refl _, Nat.le_refl _, fun p l e R s m args below meth c D cA b z c0 s0 Q ok _ _ _ _ K H locs lsA hP hz hS hl => by
  have K1 := K H locs lsA hP hz hS hl
  rw [← h.2] at K1
  exact va_lald (D := D) (cl := vwCl) (tys := aa_tys cA) ok.1 ok.2.1 ok.2.2.2.2.2.2.2.2.1 (hP.arr hsh) 0 1 rfl rfl hin h.1 K1⟩
theorem aa_alen {a t n : Nat} (h : aa_At M pc .arraylength 1 pn) (hsh : σ.2.2.1[a]? = some (.inl (t, n))) (ht : t < 4) : aa_Go M d pc ls (.ref a :: st) σ pn ls (.int (nI n) :: st) σ := ⟨Nat.le_refl _, Nat.le_refl _, fun p l e R s m args below meth c D cA b z c0 s0 Q ok _ _ _ _ K H locs lsA hP hz hS hl => by
  have K1 := K H locs lsA hP hz hS hl
  rw [← h.2] at K1
  have hty : ∃ ty, (aa_tys cA)[t]? = some (cA t, ty) := by
    rcases t with _ | _ | _ | _ | t
    · exact ⟨_, rfl⟩
    · exact ⟨_, rfl⟩
    · exact ⟨_, rfl⟩
    · exact ⟨_, rfl⟩
    · omega
  obtain ⟨ty, hty⟩ := hty
  exact va_alen (D := D) (cl := vwCl) (tys := aa_tys cA) ok.1 ok.2.1 ok.2.2.2.2.2.2.2.2.1 (hP.arr hsh) 0 t rfl hty rfl h.1 K1⟩
theorem aa_aald {a r : Nat} {rs : List (Option Nat)} {j : Int32} (h : aa_At M pc .aaload 1 pn) (hsh : σ.2.2.1[a]? = some (.inr (.inr (.inl rs)))) (hin : vp_in j rs.length) (hr : rs[j.toNatClampNeg]? = some (some r)) : aa_Go M d pc ls (.int j :: .ref a :: st) σ pn ls (.ref r :: st) σ := ⟨Nat.le_refl _, Nat.le_refl _, fun p l e R s m args below meth c D cA b z c0 s0 Q ok _ _ _ _ K H locs lsA hP hz hS hl => by
  have K1 := K H locs lsA hP hz hS hl
  rw [← h.2] at K1
  have e1 : va_rf (((fun k => (rs.getD k none).map (fun r => b + r)) : Nat → Option Nat) j.toNatClampNeg) = .ref (b + r) := by simp [List.getD_eq_getElem?_getD, hr, va_rf]
  refine va_aldq (D := D) (cl := vwCl) (tys := aa_tys cA) ok.1 ok.2.1 ok.2.2.2.2.2.2.2.2.1 (hP.row hsh) 0 4 rfl rfl hin h.1 ?_
  rw [e1]
  exact K1⟩
/-- the static row of the reference -/
theorem aa_sald {j : Int32} (h : aa_At M pc .iaload 1 pn) (hin : vp_in j 7) : aa_Go M d pc ls (.int j :: .float 0 :: st) σ pn ls (.int (aa_ls7 j.toNatClampNeg) :: st) σ := ⟨Nat.le_refl _, Nat.le_refl _, fun p l e R s m args below meth c D cA b z c0 s0 Q ok _ _ _ _ K H locs lsA hP hz hS hl => by
  have K1 := K H locs lsA hP hz hS hl
  rw [← h.2] at K1
  obtain ⟨-, -, -, -, -, -, -, -, -, hb0, -, -, ⟨-, hX, hzb⟩, -⟩ := id ok
  exact va_sld ok.1 ok.2.1 hX (Nat.lt_of_lt_of_le hzb hb0) (Nat.not_le.mpr hzb) hS hin h.1 K1⟩
theorem aa_gets {idx : Nat} (h : aa_At M pc (.getstatic idx) 3 pn) (hL : aa_lk (Cond.fieldLink M.1.cls idx "AllAboveItModel" "LEAST" "[I")) : aa_Go M d pc ls st σ pn ls (.float 0 :: st) σ := ⟨Nat.le_refl _, Nat.le_refl _, fun p l e R s m args below meth c D cA b z c0 s0 Q ok _ _ _ _ K H locs lsA hP hz hS hl => by
  have K1 := K H locs lsA hP hz hS hl
  rw [← h.2] at K1
  obtain ⟨-, -, -, -, -, -, -, -, -, hb0, -, -, ⟨hZ, hX, hzb⟩, -⟩ := id ok
  exact va_gets ok.1 ok.2.1 hZ hS ok.2.2.2.1 (ok.2.2.2.2.1 _ hL.tb) (fun _ h9 => h9) h.1 K1⟩
theorem aa_ldc {idx : Nat} {v : Int32} (h : aa_At M pc (.ldc idx) 2 pn) (hL : aa_lk (Cond.constant M.1.cls idx v)) : aa_Go M d pc ls st σ pn ls (.int v :: st) σ := ⟨Nat.le_refl _, Nat.le_refl _, fun p l e R s m args below meth c D cA b z c0 s0 Q ok _ _ _ _ K H locs lsA hP hz hS hl => by
  have K1 := K H locs lsA hP hz hS hl
  rw [← h.2] at K1
  exact lv_ldc ok.1 ok.2.1 ok.2.2.2.1 (ok.2.2.2.2.1 _ hL.tb) h.1 K1⟩
theorem aa_ldcw {idx : Nat} {v : Int32} (h : aa_At M pc (.ldc_w idx) 3 pn) (hL : aa_lk (Cond.constant M.1.cls idx v)) : aa_Go M d pc ls st σ pn ls (.int v :: st) σ := ⟨Nat.le_refl _, Nat.le_refl _, fun p l e R s m args below meth c D cA b z c0 s0 Q ok _ _ _ _ K H locs lsA hP hz hS hl => by
  have K1 := K H locs lsA hP hz hS hl
  rw [← h.2] at K1
  exact lv_ldcw ok.1 ok.2.1 ok.2.2.2.1 (ok.2.2.2.2.1 _ hL.tb) h.1 K1⟩
theorem aa_ldc2 {idx : Nat} {v : Int64} (h : aa_At M pc (.ldc2_w idx) 3 pn) (hL : aa_lk (Cond.constantLong M.1.cls idx v)) : aa_Go M d pc ls st σ pn ls (.long v :: st) σ := ⟨Nat.le_refl _, Nat.le_refl _, fun p l e R s m args below meth c D cA b z c0 s0 Q ok _ _ _ _ K H locs lsA hP hz hS hl => by
  have K1 := K H locs lsA hP hz hS hl
  rw [← h.2] at K1
  exact lv_ldc2 ok.1 ok.2.1 ok.2.2.2.1 (ok.2.2.2.2.1 _ hL.tb) h.1 K1⟩
theorem aa_tsIn {dflt lo hi off : Int} {offs : Array Int} {n tgt : Nat} {x : Int32} (h : decode M.2.1 pc = .ok (.tableswitch dflt lo hi offs, n)) (h1 : ¬ x.toInt < lo) (h2 : ¬ hi < x.toInt) (ho : offs[(x.toInt - lo).toNat]? = some off) (ht : (pc : Int) + off = (tgt : Int)) : aa_Go M d pc ls (.int x :: st) σ tgt ls st σ := ⟨Nat.le_refl _, Nat.le_refl _, fun p l e R s m args below meth c D cA b z c0 s0 Q ok _ _ _ _ K H locs lsA hP hz hS hl =>
  lv_tableIn ok.1 ok.2.1 h h1 h2 ho ht (K H locs lsA hP hz hS hl)⟩
theorem aa_tsOut {dflt lo hi : Int} {offs : Array Int} {n tgt : Nat} {x : Int32} (h : decode M.2.1 pc = .ok (.tableswitch dflt lo hi offs, n)) (h1 : x.toInt < lo ∨ hi < x.toInt) (ht : (pc : Int) + dflt = (tgt : Int)) : aa_Go M d pc ls (.int x :: st) σ tgt ls st σ := ⟨Nat.le_refl _, Nat.le_refl _, fun p l e R s m args below meth c D cA b z c0 s0 Q ok _ _ _ _ K H locs lsA hP hz hS hl =>
  lv_tableOut ok.1 ok.2.1 h h1 ht (K H locs lsA hP hz hS hl)⟩
/-- stores into arrays -/
theorem aa_astG {D : va_G} {cA : Nat → ClassId} {b : Nat} {z : Nat × Nat} {σ : aa_St} {H H1 : Heap} (hP : aa_PP D cA b z σ H) {a n t k : Nat} {x : Int32} (hsh : σ.2.2.1[a]? = some (.inl (t, n))) (ht : t ≠ 1) (e : H1[b + a]? = some ((arrV (cA t) n (fun j => .int (σ.1 a j))).setSlot k (.int x))) (oq : ∀ q, q ≠ b + a → H1[q]? = H[q]?) : aa_PP D cA b z (aa_sI σ a k x) H1 := by
  refine aa_PP_put hP a (fun _ _ => rfl) (fun q hq => aa_u2_ne hq) (fun _ _ => rfl) (fun x9 e9 hx he => ?_) oq
  rw [show (aa_sI σ a k x).2.2.1[a]? = σ.2.2.1[a]? from rfl, hsh] at hx
  cases hx
  simp only [aa_ce, ht, if_false, Option.some.injEq] at he
  subst he
  show H1[b + a]? = some (vp_cell _ _)
  rw [e, vp_cell_i, arrV_store]
  congr 2
  funext q
  by_cases hq : q = k
  · subst hq
    simp [updV, aa_sI, aa_u2]
  · simp [updV, aa_sI, aa_u2, hq]
theorem aa_iast {a n : Nat} {j x : Int32} (h : aa_At M pc .iastore 1 pn) (hsh : σ.2.2.1[a]? = some (.inl (0, n))) (hin : vp_in j n) : aa_Go M d pc ls (.int x :: .int j :: .ref a :: st) σ pn ls st (aa_sI σ a j.toNatClampNeg x) := ⟨Nat.le_refl _, Nat.le_refl _, fun p l e R s m args below meth c D cA b z c0 s0 Q ok _ _ _ _ K H locs lsA hP hz hS hl => by
  refine W.iast (x := x) ok.1 ok.2.1 (hP.arr hsh 0 _ rfl) ((ok.2.2.2.2.2.2.2.2.1.2 0 _ rfl).1 n (fun j => .int (σ.1 a j))) (fun q => by cases q) (by show ¬ (j < 0 ∨ (arrV _ _ _).slots.size ≤ _); rw [arrV_size]; exact hin) rfl rfl h.1 fun H1 e1 e2 e3 => ?_
  have K1 := K H1 (locs ++ [⟨b + a, j.toNatClampNeg⟩]) lsA (aa_astG hP hsh (by decide) e1 e3) (by rw [e2]; exact hz) (hS.put e2 e3 (Nat.le_add_right b a)) hl
  rw [← h.2] at K1
  exact K1⟩
theorem aa_zast {a n : Nat} {j x : Int32} (h : aa_At M pc .bastore 1 pn) (hsh : σ.2.2.1[a]? = some (.inl (2, n))) (hin : vp_in j n) (hx : narrow .boolean (.int x) = .int x) : aa_Go M d pc ls (.int x :: .int j :: .ref a :: st) σ pn ls st (aa_sI σ a j.toNatClampNeg x) := ⟨Nat.le_refl _, Nat.le_refl _, fun p l e R s m args below meth c D cA b z c0 s0 Q ok _ _ _ _ K H locs lsA hP hz hS hl => by
  refine W.zast (x := x) ok.1 ok.2.1 (hP.arr hsh 0 _ rfl) ((ok.2.2.2.2.2.2.2.2.1.2 2 _ rfl).1 n (fun j => .int (σ.1 a j))) (fun q => by cases q) (by show ¬ (j < 0 ∨ (arrV _ _ _).slots.size ≤ _); rw [arrV_size]; exact hin) rfl rfl h.1 fun H1 e1 e2 e3 => ?_
  rw [hx] at e1
  have K1 := K H1 (locs ++ [⟨b + a, j.toNatClampNeg⟩]) lsA (aa_astG hP hsh (by decide) e1 e3) (by rw [e2]; exact hz) (hS.put e2 e3 (Nat.le_add_right b a)) hl
  rw [← h.2] at K1
  exact K1⟩
theorem aa_bast {a n : Nat} {j x : Int32} (h : aa_At M pc .bastore 1 pn) (hsh : σ.2.2.1[a]? = some (.inl (3, n))) (hin : vp_in j n) (hx : narrow .byte (.int x) = .int x) : aa_Go M d pc ls (.int x :: .int j :: .ref a :: st) σ pn ls st (aa_sI σ a j.toNatClampNeg x) := ⟨Nat.le_refl _, Nat.le_refl _, fun p l e R s m args below meth c D cA b z c0 s0 Q ok _ _ _ _ K H locs lsA hP hz hS hl => by
  refine W.bast (x := x) ok.1 ok.2.1 (hP.arr hsh 0 _ rfl) ((ok.2.2.2.2.2.2.2.2.1.2 3 _ rfl).1 n (fun j => .int (σ.1 a j))) (fun q => by cases q) (by show ¬ (j < 0 ∨ (arrV _ _ _).slots.size ≤ _); rw [arrV_size]; exact hin) rfl rfl h.1 fun H1 e1 e2 e3 => ?_
  rw [hx] at e1
  have K1 := K H1 (locs ++ [⟨b + a, j.toNatClampNeg⟩]) lsA (aa_astG hP hsh (by decide) e1 e3) (by rw [e2]; exact hz) (hS.put e2 e3 (Nat.le_add_right b a)) hl
  rw [← h.2] at K1
  exact K1⟩
theorem aa_last {a n : Nat} {j : Int32} {x : Int64} (h : aa_At M pc .lastore 1 pn) (hsh : σ.2.2.1[a]? = some (.inl (1, n))) (hin : vp_in j n) : aa_Go M d pc ls (.long x :: .int j :: .ref a :: st) σ pn ls st (aa_sL σ a j.toNatClampNeg x) := ⟨Nat.le_refl _, Nat.le_refl _, fun p l e R s m args below meth c D cA b z c0 s0 Q ok _ _ _ _ K H locs lsA hP hz hS hl => by
  refine W.last (x := x) ok.1 ok.2.1 (hP.arr hsh 0 _ rfl) ((ok.2.2.2.2.2.2.2.2.1.2 1 _ rfl).1 n (fun j => .long (σ.2.1 a j))) (fun q => by cases q) (by show ¬ (j < 0 ∨ (arrV _ _ _).slots.size ≤ _); rw [arrV_size]; exact hin) rfl rfl h.1 fun H1 e1 e2 e3 => ?_
  have K1 := K H1 (locs ++ [⟨b + a, j.toNatClampNeg⟩]) lsA ?_ (by rw [e2]; exact hz) (hS.put e2 e3 (Nat.le_add_right b a)) hl
  · rw [← h.2] at K1
    exact K1
  · refine aa_PP_put hP a (fun _ _ => rfl) (fun _ _ => rfl) (fun q hq => aa_u2_ne hq) (fun x9 e9 hx he => ?_) e3
    rw [show (aa_sL σ a j.toNatClampNeg x).2.2.1[a]? = σ.2.2.1[a]? from rfl, hsh] at hx
    cases hx
    simp only [aa_ce, if_true, Option.some.injEq] at he
    subst he
    show H1[b + a]? = some (vp_cell _ _)
    rw [e1, vp_cell_l]
    show some ((arrV _ _ _).setSlot _ _) = _
    rw [arrV_store]
    congr 2
    funext q
    by_cases hq : q = j.toNatClampNeg
    · subst hq
      simp [updV, aa_sL, aa_u2]
    · simp [updV, aa_sL, aa_u2, hq]⟩
/-- new cells -/
theorem aa_PP_new {D : va_G} {cA : Nat → ClassId} {b : Nat} {z : Nat × Nat} {σ : aa_St} {H H1 : Heap} {x : aa_Shp} {n : Nat} (hP : aa_PP D cA b z σ H) (hz : H.size = b + σ.2.2.1.length) (o1 : ∀ q, q < H.size → H1[q]? = H[q]?) (hx : ∀ e, aa_ce cA b z (fun _ => 0) (fun _ => 0) x = some e → va_at D vwCl (H.size, e) H1) : aa_PP D cA b z (aa_nw σ x n) H1 := by
  intro a y hy e he
  by_cases h : a = σ.2.2.1.length
  · subst h
    simp only [aa_nw, List.getElem?_append_right (Nat.le_refl _), Nat.sub_self, List.getElem?_cons_zero, Option.some.injEq] at hy
    subst hy
    simp only [aa_nw, if_true] at he
    rw [← hz]
    exact hx e he
  · have hlt : a < σ.2.2.1.length := by
      have h1 := (List.getElem?_eq_some_iff.mp hy).1
      simp only [aa_nw, List.length_append, List.length_cons, List.length_nil] at h1
      omega
    simp only [aa_nw, List.getElem?_append_left hlt] at hy
    simp only [aa_nw, h, if_false] at he
    exact (hP a y hy e he).kept (o1 _ (by rw [hz]; show b + a < _; omega))
theorem aa_newa {at9 : ArrayType} {t N : Nat} {n : Int32} (h : aa_At M pc (.newarray at9) 2 pn) (hL : aa_lk (.arrayClass (newarray.typeOf at9))) (ht : ∀ cA : Nat → ClassId, (aa_tys cA)[t]? = some (cA t, newarray.typeOf at9)) (h4 : t < 4) (hd : defaultValue (newarray.typeOf at9) = if t = 1 then .long 0 else .int 0) (hn : ¬ n < 0) (hN : n.toNatClampNeg = N) (hB : N * componentBytes (newarray.typeOf at9) ≤ 536870912) :
    aa_Go M d pc ls (.int n :: st) σ pn ls (.ref σ.2.2.1.length :: st) (aa_nw σ (.inl (t, N)) N) := ⟨Nat.le_succ _, Nat.le_add_right _ _, fun p l e R s m args below meth c D cA b z c0 s0 Q ok hc0 hs0 hC hSl K H locs lsA hP hz hS hl => by
  simp only [aa_nw] at hC hSl
  refine va_newaK ok.1 ok.2.1 (ok.2.2.2.2.1 _ hL.tb) rfl h.1 rfl hn hN hB (by omega) (by omega) hz fun H1 cA1 e1 z1 o1 hAr hNm => ?_
  have hcA : cA1 = cA t := by
    have h1 := (ok.2.2.2.2.2.2.2.2.1.2 t _ (ht cA)).2
    cases at9 <;> exact Option.some.inj (hNm.symm.trans h1)
  subst hcA
  have K1 := K H1 locs lsA ?_ ?_ ?_ hl
  · rw [← h.2] at K1
    simp only [aa_nw] at K1
    rw [show σ.2.2.2.1 + 1 - c0 = σ.2.2.2.1 - c0 + 1 by omega, show σ.2.2.2.2 + N - s0 = σ.2.2.2.2 - s0 + N by omega] at K1
    exact K1
  · refine aa_PP_new hP hz (fun q hq => o1 q (by rw [← hz]; exact hq)) (fun e9 he => ?_)
    cases he
    show H1[H.size]? = some (vp_cell _ _)
    rw [hz, e1, hd]
    by_cases h1 : t = 1
    · subst h1; rfl
    · simp only [h1, if_false]; rfl
  · rw [z1]; simp [aa_nw]; omega
  · exact ⟨Nat.le_trans hS.1 (by rw [z1, hz]; omega), fun x h1 h2 => (o1 x (by have := hS.1; omega)).trans (hS.2.1 x h1 h2), hS.2.2⟩⟩
def aa_NL (own : String) (idx ci : Nat) (tp : List Value) : Prop := ∃ (C : String) (T : u_T) (N : Nat) (ty0 : Nat → FieldType), vwCl[ci]? = some (C, T, N) ∧ (∀ w ∈ u_ws C T N, w ∈ aa_tb) ∧ (∀ k, k < N → parseFieldDescriptor (T k).2.2.1 = some (ty0 k)) ∧ aa_lk (.classLink own idx C) ∧ aa_lk (.instantiable C N) ∧ aa_lk (.initialized C) ∧ (∀ j, j < N → defaultValue (ty0 j) = vp_V tp j) ∧ tp.length = N ∧ (tp.all fun v => v == .int 0 || v == .long 0 || v == .null) = true
theorem aa_fs_dflt (b : Nat) (z : Nat × Nat) : ∀ (tp : List Value) (k : Nat), (tp.all fun v => v == .int 0 || v == .long 0 || v == .null) = true → aa_fs b z (fun _ => 0) (fun _ => 0) k tp = tp
  | [], _, _ => rfl
  | v :: vs, k, h => by
    simp only [List.all_cons, Bool.and_eq_true, Bool.or_eq_true, beq_iff_eq] at h
    obtain ⟨h1, h2⟩ := h
    simp only [aa_fs, aa_fs_dflt b z vs (k + 1) h2]
    rcases h1 with (rfl | rfl) | rfl <;> rfl
theorem aa_new {ci idx : Nat} {tp : List Value} (h : aa_At M pc (.new idx) 3 pn) (hL : aa_NL M.1.cls idx ci tp) : aa_Go M d pc ls st σ pn ls (.ref σ.2.2.1.length :: st) (aa_nw σ (.inr (.inl (ci, tp))) tp.length) := ⟨Nat.le_succ _, Nat.le_add_right _ _, fun p l e R s m args below meth c D cA b z c0 s0 Q ok hc0 hs0 hC hSl K H locs lsA hP hz hS hl => by
  simp only [aa_nw] at hC hSl
  obtain ⟨C, T, N, ty0, f1, f3, f5, g1, g2, g3, g4, g5, g6⟩ := hL
  have hts := ok.2.2.2.2.1
  have hKn := ok.2.2.2.2.2.2.2.2.1.1 ci _ f1
  refine W.newcK ok.1 ok.2.1 ok.2.2.2.1 (hts _ g1.tb) (hts _ g2.tb) (hts _ g3.tb) rfl h.1 (by omega) (by omega) hKn.2.1 hz fun H1 kC hkC e1 z1 o1 => ?_
  have K1 := K H1 locs lsA ?_ ?_ ?_ hl
  · rw [← h.2] at K1
    simp only [aa_nw] at K1
    rw [show σ.2.2.2.1 + 1 - c0 = σ.2.2.2.1 - c0 + 1 by omega, show σ.2.2.2.2 + tp.length - s0 = σ.2.2.2.2 - s0 + N by omega] at K1
    exact K1
  · refine aa_PP_new hP hz (fun q hq => o1 q (by rw [← hz]; exact hq)) (fun e9 he => ?_)
    cases he
    rw [aa_fs_dflt b z tp 0 g6]
    rw [← hz] at e1
    exact ⟨_, f1, (u_born ty0 hts f3 hKn hkC e1 f5).to g4⟩
  · rw [z1]; simp [aa_nw]; omega
  · exact ⟨Nat.le_trans hS.1 (by rw [z1, hz]; omega), fun x h1 h2 => (o1 x (by have := hS.1; omega)).trans (hS.2.1 x h1 h2), hS.2.2⟩⟩
end
