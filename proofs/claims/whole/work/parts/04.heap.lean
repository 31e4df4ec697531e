def aa_u2 {α : Type} (f : Nat → Nat → α) (a k : Nat) (v : α) : Nat → Nat → α := fun x j => if x = a then (if j = k then v else f x j) else f x j
def aa_sI (σ : aa_St) (a k : Nat) (v : Int32) : aa_St := (aa_u2 σ.1 a k v, σ.2)
def aa_sL (σ : aa_St) (a k : Nat) (v : Int64) : aa_St := (σ.1, aa_u2 σ.2.1 a k v, σ.2.2)
def aa_sR (σ : aa_St) (a : Nat) (x : aa_Shp) : aa_St := (σ.1, σ.2.1, σ.2.2.1.set a x, σ.2.2.2)
def aa_nw (σ : aa_St) (x : aa_Shp) (n : Nat) : aa_St := (fun q j => if q = σ.2.2.1.length then 0 else σ.1 q j, fun q j => if q = σ.2.2.1.length then 0 else σ.2.1 q j, σ.2.2.1 ++ [x], σ.2.2.2.1 + 1, σ.2.2.2.2 + n)
def aa_FL (own : String) (idx ci k : Nat) (fin : Bool) (ty : FieldType) : Prop := ∃ (C : String) (T : u_T) (N : Nat) (ty0 : Nat → FieldType), vwCl[ci]? = some (C, T, N) ∧ k < N ∧ (∀ w ∈ u_ws C T N, w ∈ aa_tb) ∧ aa_lk (Cond.fieldLink own idx (T k).1 (T k).2.1 (T k).2.2.1) ∧
  (∀ k, k < N → parseFieldDescriptor (T k).2.2.1 = some (ty0 k)) ∧ (∀ a, a < N → ∀ b, b < N → a ≠ b → (T a).2.1 ≠ (T b).2.1) ∧ (T k).2.2.2 = fin ∧ (fin = true → (T k).1 = own) ∧ parseFieldDescriptor (T k).2.2.1 = some ty
section
variable {D : va_G} {cA : Nat → ClassId} {b : Nat} {z : Nat × Nat} {H H1 : Heap}
theorem aa_PP_put {σ σ' : aa_St} (hP : aa_PP D cA b z σ H) (a : Nat) (hsh : ∀ q, q ≠ a → σ'.2.2.1[q]? = σ.2.2.1[q]?) (hi : ∀ q, q ≠ a → σ'.1 q = σ.1 q) (hlq : ∀ q, q ≠ a → σ'.2.1 q = σ.2.1 q)
    (hn : ∀ x e, σ'.2.2.1[a]? = some x → aa_ce cA b z (σ'.1 a) (σ'.2.1 a) x = some e → va_at D vwCl (b + a, e) H1) (oq : ∀ q, q ≠ b + a → H1[q]? = H[q]?) : aa_PP D cA b z σ' H1 := by
  intro q x hx e he
  by_cases h : q = a
  · subst h
    exact hn x e hx he
  · rw [hsh q h] at hx
    rw [hi q h, hlq q h] at he
    exact (hP q x hx e he).kept (oq _ (by show b + q ≠ b + a; omega))
theorem aa_PP.obj {σ : aa_St} (hP : aa_PP D cA b z σ H) {a ci : Nat} {tp : List Value} (h : σ.2.2.1[a]? = some (.inr (.inl (ci, tp)))) : va_P D vwCl [(b + a, .inr (ci, aa_fs b z (σ.1 a) (σ.2.1 a) 0 tp))] H := by
  intro k q hq
  have hk : k < 1 := (List.getElem?_eq_some_iff.mp hq).1
  rw [show k = 0 by omega] at hq
  cases hq
  exact hP a _ h _ rfl
theorem aa_PP.arr {σ : aa_St} (hP : aa_PP D cA b z σ H) {a t n : Nat} (h : σ.2.2.1[a]? = some (.inl (t, n))) : va_P D vwCl [(b + a, .inl (cA t, n, if t = 1 then .inr (.inl (σ.2.1 a)) else .inl (σ.1 a)))] H := by
  intro k q hq
  have hk : k < 1 := (List.getElem?_eq_some_iff.mp hq).1
  rw [show k = 0 by omega] at hq
  cases hq
  exact hP a _ h _ rfl
theorem aa_PP.row {σ : aa_St} (hP : aa_PP D cA b z σ H) {a : Nat} {rs : List (Option Nat)} (h : σ.2.2.1[a]? = some (.inr (.inr (.inl rs)))) : va_P D vwCl [(b + a, .inl (cA 4, rs.length, .inr (.inr (.inr (.inr (fun k => (rs.getD k none).map (fun r => b + r)))))))] H := by
  intro k q hq
  have hk : k < 1 := (List.getElem?_eq_some_iff.mp hq).1
  rw [show k = 0 by omega] at hq
  cases hq
  exact hP a _ h _ rfl
end
section
variable {M : aa_M} {d pc pn : Nat} {ls tl : aa_L} {st : List Value} {σ : aa_St}
theorem aa_getG {a ci k idx : Nat} {fin : Bool} {ty : FieldType} {tp : List Value} {v w : Value} (h : aa_At M pc (.getfield idx) 3 pn) (hF : aa_FL M.1.cls idx ci k fin ty) (hsh : σ.2.2.1[a]? = some (.inr (.inl (ci, tp)))) (htp : tp[k]? = some v) (hw : ∀ b z, aa_fv b z (σ.1 a) (σ.2.1 a) k v = aa_tr b z w) :
    aa_Go M d pc ls (.ref a :: st) σ pn ls (w :: st) σ := ⟨Nat.le_refl _, Nat.le_refl _, fun p l e R s m args below meth c D cA b z c0 s0 Q ok _ _ _ _ K H locs lsA hP hz hS hl => by
  have K1 := K H locs lsA hP hz hS hl
  rw [← h.2] at K1
  obtain ⟨C, T, N, ty0, f1, f2, f3, f4, f5, f6, f7, f8, f9⟩ := hF
  refine va_get (D := D) (cl := vwCl) (tys := aa_tys cA) (C := C) (T := T) (N := N) (ci := ci) (Ts := aa_tb) (ref := (T k).1) ok.1 ok.2.1 ok.2.2.2.2.1 f3 ok.2.2.2.1 ok.2.2.2.2.2.2.2.2.1 (hP.obj hsh) 0 rfl f1 k f2 (ok.2.2.2.2.1 _ f4.tb) (fun _ h9 => h9) (v := aa_tr b z w) ?_ h.1 K1
  rw [aa_fs_get, htp, ← hw]
  simp⟩
theorem aa_getI {a ci k idx : Nat} {fin : Bool} {ty : FieldType} {tp : List Value} {y : Int32} (h : aa_At M pc (.getfield idx) 3 pn) (hF : aa_FL M.1.cls idx ci k fin ty) (hsh : σ.2.2.1[a]? = some (.inr (.inl (ci, tp)))) (htp : tp[k]? = some (.int y)) :
    aa_Go M d pc ls (.ref a :: st) σ pn ls (.int (σ.1 a k) :: st) σ := aa_getG h hF hsh htp (fun _ _ => rfl)
theorem aa_getL {a ci k idx : Nat} {fin : Bool} {ty : FieldType} {tp : List Value} {y : Int64} (h : aa_At M pc (.getfield idx) 3 pn) (hF : aa_FL M.1.cls idx ci k fin ty) (hsh : σ.2.2.1[a]? = some (.inr (.inl (ci, tp)))) (htp : tp[k]? = some (.long y)) :
    aa_Go M d pc ls (.ref a :: st) σ pn ls (.long (σ.2.1 a k) :: st) σ := aa_getG h hF hsh htp (fun _ _ => rfl)
theorem aa_getR {a ci k idx : Nat} {fin : Bool} {ty : FieldType} {tp : List Value} {r : Nat} (h : aa_At M pc (.getfield idx) 3 pn) (hF : aa_FL M.1.cls idx ci k fin ty) (hsh : σ.2.2.1[a]? = some (.inr (.inl (ci, tp)))) (htp : tp[k]? = some (.ref r)) :
    aa_Go M d pc ls (.ref a :: st) σ pn ls (.ref r :: st) σ := aa_getG h hF hsh htp (fun _ _ => rfl)
theorem aa_putG {a ci k idx : Nat} {fin : Bool} {ty : FieldType} {tp : List Value} {v : Value} {σ' : aa_St} (h : aa_At M pc (.putfield idx) 3 pn) (hF : aa_FL M.1.cls idx ci k fin ty) (hfin : fin = true → M.1.name = "<init>") (hsh : σ.2.2.1[a]? = some (.inr (.inl (ci, tp)))) (hkl : k < tp.length)
    (hv : ∀ b z, narrow ty (aa_tr b z v) = aa_tr b z v ∧ fits ty (aa_tr b z v) = true) (hc : σ'.2.2.2 = σ.2.2.2) (hlen : σ'.2.2.1.length = σ.2.2.1.length) (h1 : ∀ q, q ≠ a → σ'.2.2.1[q]? = σ.2.2.1[q]?) (h2 : ∀ q, q ≠ a → σ'.1 q = σ.1 q) (h3 : ∀ q, q ≠ a → σ'.2.1 q = σ.2.1 q)
    (h4 : ∃ tp', σ'.2.2.1[a]? = some (.inr (.inl (ci, tp'))) ∧ ∀ b z, aa_fs b z (σ'.1 a) (σ'.2.1 a) 0 tp' = (aa_fs b z (σ.1 a) (σ.2.1 a) 0 tp).set k (aa_tr b z v)) :
    aa_Go M d pc ls (v :: .ref a :: st) σ pn ls st σ' := ⟨by rw [hc]; exact Nat.le_refl _, by rw [hc]; exact Nat.le_refl _, fun p l e R s m args below meth c D cA b z c0 s0 Q ok _ _ _ _ K H locs lsA hP hz hS hl => by
  obtain ⟨C, T, N, ty0, f1, f2, f3, f4, f5, f6, f7, f8, f9⟩ := hF
  have hap := va_apart (own := C) (D := D) (cl := vwCl) (tys := aa_tys cA) ok.2.2.2.2.1 f3 ty0 f5 f6 ok.2.2.2.2.2.2.2.2.1 f1
  have hK := ok.2.2.2.2.2.2.2.2.1
  have hown := ok.2.2.2.1
  have hts := ok.2.2.2.2.1
  obtain ⟨r, g1, cell, q1, q2, q3, q4⟩ := hP.obj hsh 0 _ rfl
  have hr : r = (C, T, N) := Option.some.inj (g1.symm.trans f1)
  subst hr
  obtain ⟨hS2, hfc, kC, hkC, hkind⟩ := hK.1 ci _ f1
  obtain ⟨cf, kf, fi, f, hi, hsl⟩ := hS2 k f2
  have hlay := hts _ (f3 _ (u_in_lay f2))
  unfold u_lay at hlay
  have hst := (u_facts hfc hkC (u_lays hts f3 f2) hi).1
  have fin1 : ∀ H' : Heap, H'[b + a]? = some (cell.setSlot f.slot (aa_tr b z v)) → H'.size = H.size → (∀ q, q ≠ b + a → H'[q]? = H[q]?) →
      W p l e R s m args below meth c H' (locs ++ [⟨b + a, f.slot⟩]) (σ.2.2.2.1 - c0) (σ.2.2.2.2 - s0) Q (F0 m (pc + 3) lsA (st.map (aa_tr b z))) := by
    intro H' e1 e2 e3
    rw [hsl] at e1
    obtain ⟨tp', t1, t2⟩ := h4
    have K1 := K H' (locs ++ [⟨b + a, f.slot⟩]) lsA ?_ (by rw [hlen, e2]; exact hz) (hS.put e2 e3 (Nat.le_add_right b a)) hl
    · rw [← h.2, hc] at K1
      exact K1
    · refine aa_PP_put hP a h1 h2 h3 (fun x e9 hx he => ?_) e3
      rw [t1] at hx
      cases hx
      cases he
      rw [t2 b z]
      exact ⟨_, f1, t_OB.to (V := updV (vp_V (aa_fs b z (σ.1 a) (σ.2.1 a) 0 tp)) k (aa_tr b z v)) ⟨_, e1, q2, q3, t_set q4 hap f2 (aa_tr b z v)⟩ (fun j _ => vp_updV_set (by rw [aa_fs_len]; exact hkl) (aa_tr b z v) j)⟩
  cases hfb : fin with
  | false =>
    rw [if_neg (by rw [f7, hfb]; decide)] at hlay
    have h6 := u_store hfc hkC hkind hlay hi f9 (hv b z).1 (hv b z).2
    exact W.putK ok.1 ok.2.1 (f := f) ⟨hown, hts _ f4.tb, ⟨_, _, _, hi⟩, hst⟩ (by rw [q2]; exact h6) q1 q3 (by rw [hsl]; exact k2_hasslot (q4 k f2)) rfl rfl h.1 fin1
  | true =>
    rw [if_pos (by rw [f7, hfb])] at hlay
    have hcf : m.cls = cf := by
      obtain ⟨_, _, c', _, _, _, -, -, hf', -, -, -, hown2, -⟩ := Cond.laysFinal_spec hlay
      have e1 : c' = cf := by have := hi.symm.trans hf'; simp at this; exact this.1.symm
      rw [f8 hfb] at hown2
      rw [← e1]; exact Option.some.inj (hown.symm.trans hown2)
    have h6 := u_fits hfc hkC hkind (Or.inr hlay) hi f9 (hv b z).1 (hv b z).2
    exact W.putFinK ok.1 ok.2.1 hown (hts _ f4.tb) hi hst hcf (ok.2.2.2.2.2.2.2.1.trans (hfin hfb)) (by rw [q2]; exact h6) q1 q3 (by rw [hsl]; exact k2_hasslot (q4 k f2)) rfl rfl h.1 fin1⟩
theorem aa_fs_setI (b : Nat) (z : Nat × Nat) (i : Nat → Int32) (l : Nat → Int64) {tp : List Value} {k : Nat} {y v : Int32} (h : tp[k]? = some (.int y)) : aa_fs b z (fun j => if j = k then v else i j) l 0 tp = (aa_fs b z i l 0 tp).set k (.int v) := by
  apply List.ext_getElem?
  intro j
  rw [aa_fs_get, List.getElem?_set, aa_fs_len]
  have hk : k < tp.length := (List.getElem?_eq_some_iff.mp h).1
  by_cases hj : k = j
  · subst hj
    rw [h, if_pos rfl, if_pos hk]
    simp [aa_fv]
  · rw [if_neg hj, aa_fs_get]
    cases hv : tp[j]? with
    | none => rfl
    | some w => cases w <;> simp [aa_fv, Ne.symm hj]
theorem aa_fs_setL (b : Nat) (z : Nat × Nat) (i : Nat → Int32) (l : Nat → Int64) {tp : List Value} {k : Nat} {y v : Int64} (h : tp[k]? = some (.long y)) : aa_fs b z i (fun j => if j = k then v else l j) 0 tp = (aa_fs b z i l 0 tp).set k (.long v) := by
  apply List.ext_getElem?
  intro j
  rw [aa_fs_get, List.getElem?_set, aa_fs_len]
  have hk : k < tp.length := (List.getElem?_eq_some_iff.mp h).1
  by_cases hj : k = j
  · subst hj
    rw [h, if_pos rfl, if_pos hk]
    simp [aa_fv]
  · rw [if_neg hj, aa_fs_get]
    cases hv : tp[j]? with
    | none => rfl
    | some w => cases w <;> simp [aa_fv, Ne.symm hj]
theorem aa_fs_setR (b : Nat) (z : Nat × Nat) (i : Nat → Int32) (l : Nat → Int64) {tp : List Value} {k r : Nat} (hk : k < tp.length) : aa_fs b z i l 0 (tp.set k (.ref r)) = (aa_fs b z i l 0 tp).set k (.ref (b + r)) := by
  apply List.ext_getElem?
  intro j
  rw [aa_fs_get, List.getElem?_set, List.getElem?_set, aa_fs_len]
  by_cases hj : k = j
  · subst hj
    simp [hk, aa_fv, aa_tr]
  · rw [if_neg hj, if_neg hj, aa_fs_get]
theorem aa_u2_ne {α : Type} {f : Nat → Nat → α} {a k : Nat} {v : α} {q : Nat} (h : q ≠ a) : aa_u2 f a k v q = f q := by
  funext j
  simp [aa_u2, h]
theorem aa_u2_eq {α : Type} {f : Nat → Nat → α} {a k : Nat} {v : α} : aa_u2 f a k v a = fun j => if j = k then v else f a j := by
  funext j
  simp [aa_u2]
theorem aa_putI {a ci k idx : Nat} {fin : Bool} {ty : FieldType} {tp : List Value} {y v : Int32} (h : aa_At M pc (.putfield idx) 3 pn) (hF : aa_FL M.1.cls idx ci k fin ty) (hfin : fin = true → M.1.name = "<init>") (hsh : σ.2.2.1[a]? = some (.inr (.inl (ci, tp)))) (htp : tp[k]? = some (.int y)) (hv : narrow ty (.int v) = .int v ∧ fits ty (.int v) = true) :
    aa_Go M d pc ls (.int v :: .ref a :: st) σ pn ls st (aa_sI σ a k v) := aa_putG h hF hfin hsh (List.getElem?_eq_some_iff.mp htp).1 (fun _ _ => hv) rfl rfl (fun _ _ => rfl) (fun q hq => aa_u2_ne hq) (fun _ _ => rfl) ⟨tp, hsh, fun b z => by
    rw [show (aa_sI σ a k v).1 a = _ from aa_u2_eq]
    exact aa_fs_setI b z _ _ htp⟩
theorem aa_putL {a ci k idx : Nat} {fin : Bool} {tp : List Value} {y v : Int64} (h : aa_At M pc (.putfield idx) 3 pn) (hF : aa_FL M.1.cls idx ci k fin .long) (hfin : fin = true → M.1.name = "<init>") (hsh : σ.2.2.1[a]? = some (.inr (.inl (ci, tp)))) (htp : tp[k]? = some (.long y)) :
    aa_Go M d pc ls (.long v :: .ref a :: st) σ pn ls st (aa_sL σ a k v) := aa_putG h hF hfin hsh (List.getElem?_eq_some_iff.mp htp).1 (fun _ _ => ⟨rfl, rfl⟩) rfl rfl (fun _ _ => rfl) (fun _ _ => rfl) (fun q hq => aa_u2_ne hq) ⟨tp, hsh, fun b z => by
    rw [show (aa_sL σ a k v).2.1 a = _ from aa_u2_eq]
    exact aa_fs_setL b z _ _ htp⟩
theorem aa_putR {a ci k idx r : Nat} {fin : Bool} {ty : FieldType} {tp : List Value} (h : aa_At M pc (.putfield idx) 3 pn) (hF : aa_FL M.1.cls idx ci k fin ty) (hfin : fin = true → M.1.name = "<init>") (hsh : σ.2.2.1[a]? = some (.inr (.inl (ci, tp)))) (hk : k < tp.length) (hv : ∀ q, narrow ty (.ref q) = .ref q ∧ fits ty (.ref q) = true) :
    aa_Go M d pc ls (.ref r :: .ref a :: st) σ pn ls st (aa_sR σ a (.inr (.inl (ci, tp.set k (.ref r))))) := aa_putG h hF hfin hsh hk (fun b _ => hv (b + r)) rfl (by simp [aa_sR]) (fun q hq => by simp [aa_sR, List.getElem?_set, Ne.symm hq]) (fun _ _ => rfl) (fun _ _ => rfl) ⟨tp.set k (.ref r), by simp [aa_sR, List.getElem?_set, (List.getElem?_eq_some_iff.mp hsh).1], fun b z => aa_fs_setR b z _ _ hk⟩
end
