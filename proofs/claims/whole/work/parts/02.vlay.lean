/-! THE LAYER OF PLAIN STATES. A state is: ints by (cell, place), longs by (cell, place), the shape of each cell, how many cells and slots were made.
Cell number k lies at address b + k. Every contract below speaks of such states alone. -/
abbrev aa_Shp : Type := (Nat × Nat) ⊕ (Nat × List Value) ⊕ List (Option Nat) ⊕ Unit
abbrev aa_St : Type := (Nat → Nat → Int32) × (Nat → Nat → Int64) × List aa_Shp × Nat × Nat
abbrev aa_M : Type := MethodName × ByteArray × Nat × Option FieldType
abbrev aa_L : Type := List (Option Value)
def aa_ls7 : Nat → Int32 := fun k => match k with
  | 0 => 1
  | 1 => 1
  | 2 => 2
  | 3 => 6
  | 4 => 12
  | 5 => 60
  | _ => 60
/-- values as the machine has them; a float, of which there is none, stands for the static row of the reference -/
def aa_tr (b : Nat) (z : Nat × Nat) : Value → Value
  | .ref k => .ref (b + k)
  | .float f => .ref (if f = 0 then z.1 else z.2)
  | v => v
theorem aa_tr_cat (b : Nat) (z : Nat × Nat) (v : Value) : (aa_tr b z v).category = v.category := by cases v <;> rfl
def aa_fv (b : Nat) (z : Nat × Nat) (i : Nat → Int32) (l : Nat → Int64) (k : Nat) : Value → Value
  | .int _ => .int (i k)
  | .long _ => .long (l k)
  | v => aa_tr b z v
def aa_fs (b : Nat) (z : Nat × Nat) (i : Nat → Int32) (l : Nat → Int64) : Nat → List Value → List Value
  | _, [] => []
  | k, v :: vs => aa_fv b z i l k v :: aa_fs b z i l (k + 1) vs
theorem aa_fs_get (b : Nat) (z : Nat × Nat) (i : Nat → Int32) (l : Nat → Int64) : ∀ (tp : List Value) (k0 k : Nat), (aa_fs b z i l k0 tp)[k]? = tp[k]?.map (aa_fv b z i l (k0 + k))
  | [], k0, k => by simp [aa_fs]
  | v :: vs, k0, 0 => by simp [aa_fs]
  | v :: vs, k0, k + 1 => by
    have h := aa_fs_get b z i l vs (k0 + 1) k
    simp only [aa_fs, List.getElem?_cons_succ, h]
    rw [show k0 + 1 + k = k0 + (k + 1) by omega]
theorem aa_fs_len (b : Nat) (z : Nat × Nat) (i : Nat → Int32) (l : Nat → Int64) : ∀ (tp : List Value) (k0 : Nat), (aa_fs b z i l k0 tp).length = tp.length
  | [], _ => rfl
  | _ :: vs, k0 => by simp [aa_fs, aa_fs_len b z i l vs (k0 + 1)]
def aa_ce (cA : Nat → ClassId) (b : Nat) (z : Nat × Nat) (i : Nat → Int32) (l : Nat → Int64) : aa_Shp → Option va_E
  | .inl (t, n) => some (.inl (cA t, n, if t = 1 then .inr (.inl l) else .inl i))
  | .inr (.inl (ci, tp)) => some (.inr (ci, aa_fs b z i l 0 tp))
  | .inr (.inr (.inl rs)) => some (.inl (cA 4, rs.length, .inr (.inr (.inr (.inr (fun k => (rs.getD k none).map (fun r => b + r)))))))
  | .inr (.inr (.inr _)) => none
def aa_PP (D : va_G) (cA : Nat → ClassId) (b : Nat) (z : Nat × Nat) (σ : aa_St) (H : Heap) : Prop := ∀ (a : Nat) (x : aa_Shp), σ.2.2.1[a]? = some x → ∀ e, aa_ce cA b z (σ.1 a) (σ.2.1 a) x = some e → va_at D vwCl (b + a, e) H
def aa_gm : String := "AllAboveIt$Game"
def aa_tys (cA : Nat → ClassId) : List (ClassId × FieldType) := [(cA 0, .int), (cA 1, .long), (cA 2, .boolean), (cA 3, .byte), (cA 4, .object "AllAboveIt$Game")]
def aa_XL (b : Nat) (z : Nat × Nat) (U : State) : Prop := va_Z "AllAboveItModel" "LEAST" "[I" (.ref z.1) (fun q => b ≤ q) U U.heap ∧ va_X z.1 7 aa_ls7 U U.heap ∧ z.1 < b
def aa_nest : List Cond := [.methodLinkNest "AllAboveIt" 11 ⟨"AllAboveIt$Text", "<init>", "()V"⟩ "AllAboveIt", .methodLinkNest "AllAboveIt" 18 ⟨"AllAboveIt$Pile", "<init>", "()V"⟩ "AllAboveIt", .methodLinkNest "AllAboveIt$Winners" 11 ⟨"AllAboveIt$Memo", "<init>", "()V"⟩ "AllAboveIt", .methodLinkNest "AllAboveIt$Heaps" 11 ⟨"AllAboveIt$Memo", "<init>", "()V"⟩ "AllAboveIt", .methodLinkNest "AllAboveIt" 56 ⟨"AllAboveIt$Wall", "<init>", "()V"⟩ "AllAboveIt", .methodLinkNest "AllAboveIt$Worths" 11 ⟨"AllAboveIt$Memo", "<init>", "()V"⟩ "AllAboveIt", .methodLinkNest "AllAboveIt$Parrots" 11 ⟨"AllAboveIt$Memo", "<init>", "()V"⟩ "AllAboveIt"]
def aa_NW (U : State) : Prop := (∀ w ∈ aa_nest, va_Nw w U) ∧ va_AO "AllAboveIt$Game" U
theorem aa_NW.warm {s U : State} (hW : s.WarmedH U.vm) (h : aa_NW s) : aa_NW U := by
  refine ⟨fun w hw => ?_, va_AO.moved hW.alike h.2⟩
  have h1 := h.1 w hw
  simp only [aa_nest, List.mem_cons, List.not_mem_nil, or_false] at hw
  rcases hw with rfl | rfl | rfl | rfl | rfl | rfl | rfl <;> exact va_Nw.warmM hW h1
/-- the words that every method's contract stands on -/
def aa_tb : List Cond := lw_tbl.filter goodWord
def aa_ws (M : aa_M) : List Cond := Cond.code M.1 M.2.1 M.2.2.1 M.2.2.2 :: aa_tb
theorem aa_tb_in {w : Cond} (h : w ∈ lw_tbl) (hg : goodWord w = true) : w ∈ aa_tb := List.mem_filter.mpr ⟨h, hg⟩
def aa_lk (w : Cond) : Prop := w ∈ lw_tbl ∧ goodWord w = true
theorem aa_lk.tb {w : Cond} (h : aa_lk w) : w ∈ aa_tb := aa_tb_in h.1 h.2
theorem aa_tb_good {M : aa_M} (h : aa_lk (Cond.code M.1 M.2.1 M.2.2.1 M.2.2.2)) : GoodIn aa_tb (aa_ws M) := by
  intro w hw
  rcases List.mem_cons.mp hw with rfl | hw
  · exact ⟨h.tb, good_of_word h.2⟩
  · exact ⟨hw, good_of_word (List.mem_filter.mp hw).2⟩
/-- what holds all through a method's run -/
def aa_OK (M : aa_M) (d : Nat) (p : Program) (R : Room) (s : State) (m : MethodId) (args : Array Value) (meth : Method) (c : Code) (D : va_G) (cA : Nat → ClassId) (b : Nat) (z : Nat × Nat) : Prop :=
  p.tables.exec = Jvm.exec ∧ c.code = M.2.1 ∧ c.maxLocals = M.2.2.1 ∧ s.vm.findClass M.1.cls = some m.cls ∧ (∀ w ∈ aa_tb, w.before args s = true) ∧ meth.sig.returnType = M.2.2.2 ∧ meth.locks = false ∧ meth.name = M.1.name ∧
  va_K D vwCl (aa_tys cA) s ∧ b ≤ s.heap.size ∧ d ≤ R.frames ∧ 100 * d ≤ R.locals ∧ aa_XL b z s ∧ aa_NW s
def aa_al (b : Nat) (z : Nat × Nat) : Nat → aa_L → List (Nat × Value)
  | _, [] => []
  | k, none :: r => aa_al b z (k + 1) r
  | k, some v :: r => (k, aa_tr b z v) :: aa_al b z (k + 1) r
theorem aa_al_mem {b : Nat} {z : Nat × Nat} {q : Nat × Value} : ∀ (ls : aa_L) (k : Nat), q ∈ aa_al b z k ls ↔ ∃ j v, ls[j]? = some (some v) ∧ q = (k + j, aa_tr b z v)
  | [], k => by simp [aa_al]
  | none :: r, k => by
    have ih := aa_al_mem (b := b) (z := z) (q := q) r (k + 1)
    simp only [aa_al, ih]
    constructor
    · rintro ⟨j, v, h, e⟩
      exact ⟨j + 1, v, by simpa using h, by rw [e]; congr 1; omega⟩
    · rintro ⟨j, v, h, e⟩
      cases j with
      | zero => simp at h
      | succ j => exact ⟨j, v, by simpa using h, by rw [e]; congr 1; omega⟩
  | some w :: r, k => by
    have ih := aa_al_mem (b := b) (z := z) (q := q) r (k + 1)
    simp only [aa_al, List.mem_cons, ih]
    constructor
    · rintro (e | ⟨j, v, h, e⟩)
      · exact ⟨0, w, by simp, by simpa using e⟩
      · exact ⟨j + 1, v, by simpa using h, by rw [e]; congr 1; omega⟩
    · rintro ⟨j, v, h, e⟩
      cases j with
      | zero => simp at h; subst h; exact Or.inl (by simpa using e)
      | succ j => exact Or.inr ⟨j, v, by simpa using h, by rw [e]; congr 1; omega⟩
def aa_lv (b : Nat) (z : Nat × Nat) (lsA : Array Slot) (nL : Nat) (ls : aa_L) : Prop := lv_has lsA nL (aa_al b z 0 ls)
theorem aa_lv.at {b : Nat} {z : Nat × Nat} {lsA : Array Slot} {nL : Nat} {ls : aa_L} (h : aa_lv b z lsA nL ls) {i : Nat} {v : Value} (hi : ls[i]? = some (some v)) : lsA[i]? = some (.val (aa_tr b z v)) :=
  h.2.2 (i, aa_tr b z v) ((aa_al_mem ls 0).mpr ⟨i, v, hi, by simp⟩)
def aa_Cf (p : Program) (l : Launch) (e : Env) (R : Room) (s : State) (m : MethodId) (args : Array Value) (below : List Frame) (meth : Method) (c : Code) (D : va_G) (cA : Nat → ClassId) (b : Nat) (z : Nat × Nat) (c0 s0 : Nat) (Q : State → Prop) (nL pc : Nat) (ls : aa_L) (st : List Value) (σ : aa_St) : Prop :=
  ∀ (H : Heap) (locs : List Loc) (lsA : Array Slot), aa_PP D cA b z σ H → H.size = b + σ.2.2.1.length → va_S (fun q => b ≤ q) s.heap H locs → aa_lv b z lsA nL ls →
    W p l e R s m args below meth c H locs (σ.2.2.2.1 - c0) (σ.2.2.2.2 - s0) Q (F0 m pc lsA (st.map (aa_tr b z)))
/-- the machine goes from one configuration to another -/
def aa_Go (M : aa_M) (d pc : Nat) (ls : aa_L) (st : List Value) (σ : aa_St) (pc1 : Nat) (ls1 : aa_L) (st1 : List Value) (σ1 : aa_St) : Prop :=
  σ.2.2.2.1 ≤ σ1.2.2.2.1 ∧ σ.2.2.2.2 ≤ σ1.2.2.2.2 ∧ ∀ (p : Program) (l : Launch) (e : Env) (R : Room) (s : State) (m : MethodId) (args : Array Value) (below : List Frame) (meth : Method) (c : Code) (D : va_G) (cA : Nat → ClassId) (b : Nat) (z : Nat × Nat) (c0 s0 : Nat) (Q : State → Prop),
    aa_OK M d p R s m args meth c D cA b z → c0 ≤ σ.2.2.2.1 → s0 ≤ σ.2.2.2.2 → σ1.2.2.2.1 - c0 ≤ R.cells → σ1.2.2.2.2 - s0 ≤ R.slots →
    aa_Cf p l e R s m args below meth c D cA b z c0 s0 Q M.2.2.1 pc1 ls1 st1 σ1 → aa_Cf p l e R s m args below meth c D cA b z c0 s0 Q M.2.2.1 pc ls st σ
def aa_QX (D : va_G) (cA : Nat → ClassId) (b : Nat) (z : Nat × Nat) (r : Option Value) (σ' : aa_St) : Array Value → State → Outcome → State → Prop := fun _ st o t =>
  o = .returned r ∧ aa_PP D cA b z σ' t.heap ∧ t.heap.size = b + σ'.2.2.1.length ∧ va_F (fun q => b ≤ q) st t
def aa_PX (D : va_G) (cA : Nat → ClassId) (b : Nat) (z : Nat × Nat) (avs : List Value) (σ : aa_St) : Array Value → State → Prop := fun v U =>
  v = (avs.map (aa_tr b z)).toArray ∧ aa_PP D cA b z σ U.heap ∧ U.heap.size = b + σ.2.2.1.length ∧ va_K D vwCl (aa_tys cA) U ∧ aa_XL b z U ∧ aa_NW U
/-- from a configuration a method comes to its end with the answer r and the state σ' -/
def aa_VX (M : aa_M) (d pc : Nat) (ls : aa_L) (st : List Value) (σ : aa_St) (r : Option Value) (σ' : aa_St) : Prop :=
  σ.2.2.2.1 ≤ σ'.2.2.2.1 ∧ σ.2.2.2.2 ≤ σ'.2.2.2.2 ∧ ∀ (p : Program) (l : Launch) (e : Env) (R : Room) (s : State) (m : MethodId) (args : Array Value) (below : List Frame) (meth : Method) (c : Code) (D : va_G) (cA : Nat → ClassId) (b : Nat) (z : Nat × Nat) (c0 s0 : Nat),
    aa_OK M d p R s m args meth c D cA b z → c0 ≤ σ.2.2.2.1 → s0 ≤ σ.2.2.2.2 → σ'.2.2.2.1 - c0 ≤ R.cells → σ'.2.2.2.2 - s0 ≤ R.slots →
    aa_Cf p l e R s m args below meth c D cA b z c0 s0 (MQ below (aa_QX D cA b z r σ') args s (σ'.2.2.2.1 - c0) (σ'.2.2.2.2 - s0) (fun q => b ≤ q)) M.2.2.1 pc ls st σ
/-- a method's contract at one state: its answer and the state behind it -/
def aa_SX (M : aa_M) (d : Nat) (avs : List Value) (σ : aa_St) (r : Option Value) (σ' : aa_St) : Prop :=
  σ.2.2.2.1 ≤ σ'.2.2.2.1 ∧ σ.2.2.2.2 ≤ σ'.2.2.2.2 ∧ ∀ (l : Launch) (D : va_G) (cA : Nat → ClassId) (b : Nat) (z : Nat × Nat),
    Met l M.1 (aa_ws M) { frames := d, cells := σ'.2.2.2.1 - σ.2.2.2.1, slots := σ'.2.2.2.2 - σ.2.2.2.2, locals := 100 * d } (aa_PX D cA b z avs σ) (aa_QX D cA b z r σ') (σ'.2.2.2.1 - σ.2.2.2.1) (σ'.2.2.2.2 - σ.2.2.2.2) (fun q => b ≤ q)
def aa_V (M : aa_M) (d pc : Nat) (ls : aa_L) (st : List Value) (σ : aa_St) (Q : Option Value → aa_St → Prop) : Prop := ∃ r σ', Q r σ' ∧ aa_VX M d pc ls st σ r σ'
theorem aa_go {M : aa_M} {d pc : Nat} {ls : aa_L} {st : List Value} {σ : aa_St} {pc1 : Nat} {ls1 : aa_L} {st1 : List Value} {σ1 : aa_St} {Q : Option Value → aa_St → Prop} (h : aa_Go M d pc ls st σ pc1 ls1 st1 σ1) (k : aa_V M d pc1 ls1 st1 σ1 Q) : aa_V M d pc ls st σ Q := by
  obtain ⟨r, σ', hq, k1, k2, k3⟩ := k
  obtain ⟨h1, h2, h3⟩ := h
  refine ⟨r, σ', hq, Nat.le_trans h1 k1, Nat.le_trans h2 k2, ?_⟩
  intro p l e R s m args below meth c D cA b z c0 s0 ok hc hs hC hS
  exact h3 p l e R s m args below meth c D cA b z c0 s0 _ ok hc hs (Nat.le_trans (Nat.sub_le_sub_right k1 _) hC) (Nat.le_trans (Nat.sub_le_sub_right k2 _) hS) (k3 p l e R s m args below meth c D cA b z c0 s0 ok (Nat.le_trans hc h1) (Nat.le_trans hs h2) hC hS)
theorem aa_Go.trans {M : aa_M} {d pc : Nat} {ls : aa_L} {st : List Value} {σ : aa_St} {pc1 : Nat} {ls1 : aa_L} {st1 : List Value} {σ1 : aa_St} {pc2 : Nat} {ls2 : aa_L} {st2 : List Value} {σ2 : aa_St} (h : aa_Go M d pc ls st σ pc1 ls1 st1 σ1) (k : aa_Go M d pc1 ls1 st1 σ1 pc2 ls2 st2 σ2) : aa_Go M d pc ls st σ pc2 ls2 st2 σ2 := by
  obtain ⟨k1, k2, k3⟩ := k
  obtain ⟨h1, h2, h3⟩ := h
  refine ⟨Nat.le_trans h1 k1, Nat.le_trans h2 k2, ?_⟩
  intro p l e R s m args below meth c D cA b z c0 s0 Q ok hc hs hC hS K
  exact h3 p l e R s m args below meth c D cA b z c0 s0 _ ok hc hs (Nat.le_trans (Nat.sub_le_sub_right k1 _) hC) (Nat.le_trans (Nat.sub_le_sub_right k2 _) hS) (k3 p l e R s m args below meth c D cA b z c0 s0 Q ok (Nat.le_trans hc h1) (Nat.le_trans hs h2) hC hS K)
theorem aa_Go.rfl {M : aa_M} {d pc : Nat} {ls : aa_L} {st : List Value} {σ : aa_St} : aa_Go M d pc ls st σ pc ls st σ := ⟨Nat.le_refl _, Nat.le_refl _, fun _ _ _ _ _ _ _ _ _ _ _ _ _ _ _ _ _ _ _ _ _ _ k => k⟩
/-- the locals with which a method begins -/
def aa_l1 : List Value → aa_L
  | [] => []
  | v :: vs => if v.category = 2 then some v :: none :: aa_l1 vs else some v :: aa_l1 vs
theorem aa_l1_args (b : Nat) (z : Nat × Nat) : ∀ (vs : List Value) (k : Nat) (q : Nat × Value), q ∈ aa_al b z k (aa_l1 vs) → q ∈ lv_args k (vs.map (aa_tr b z))
  | [], k, q, h => by simp [aa_l1, aa_al] at h
  | v :: vs, k, q, h => by
    simp only [List.map_cons, lv_args, aa_tr_cat]
    by_cases hc : v.category = 2
    · simp only [aa_l1, hc, if_true, aa_al, List.mem_cons] at h ⊢
      rcases h with h | h
      · exact Or.inl h
      · exact Or.inr (aa_l1_args b z vs (k + 2) q h)
    · simp only [aa_l1, hc, if_false, aa_al, List.mem_cons] at h ⊢
      rcases h with h | h
      · exact Or.inl h
      · exact Or.inr (aa_l1_args b z vs (k + 1) q h)
theorem aa_l1_len (b : Nat) (z : Nat × Nat) : ∀ (vs : List Value), (lg_sl (vs.map (aa_tr b z))).length = (aa_l1 vs).length
  | [] => rfl
  | v :: vs => by
    have h := aa_l1_len b z vs
    simp only [lg_sl, List.map_cons, List.flatMap_cons, List.length_append, aa_tr_cat, aa_l1] at h ⊢
    by_cases hc : v.category = 2
    · simp only [hc, if_true, List.length_cons, List.length_nil]; omega
    · simp only [hc, if_false, List.length_cons, List.length_nil]; omega
theorem aa_al_app (b : Nat) (z : Nat × Nat) (n : Nat) : ∀ (ls : aa_L) (k : Nat), aa_al b z k (ls ++ List.replicate n none) = aa_al b z k ls
  | [], k => by
    induction n generalizing k with
    | zero => rfl
    | succ n ih => simpa [aa_al, List.replicate_succ] using ih (k + 1)
  | none :: r, k => by simpa [aa_al] using aa_al_app b z n r (k + 1)
  | some v :: r, k => by simpa [aa_al] using aa_al_app b z n r (k + 1)
theorem aa_SX_of {M : aa_M} {d : Nat} {avs : List Value} {σ : aa_St} {r : Option Value} {σ' : aa_St} (hy : plainName M.1.cls = true) (n : Nat) (hn : (aa_l1 avs).length + n = M.2.2.1) (h : aa_VX M d 0 (aa_l1 avs ++ List.replicate n none) [] σ r σ') : aa_SX M d avs σ r σ' := by
  obtain ⟨h1, h2, h3⟩ := h
  refine ⟨h1, h2, fun l D cA b z => ?_⟩
  refine Met.ofW (cc := M.2.1) (maxL := M.2.2.1) (ret := M.2.2.2) hy rfl ?_
  intro p e s m args below meth c s₁ B hml hv
  obtain ⟨rfl, hP, hsz, hK, hXL, hNW⟩ := hv
  have hts := atoms_spec (ws := aa_ws M) B.pre
  have hown : s.vm.findClass M.1.cls = some m.cls := findClass_of_methodNamed B.named
  have hin : meth.name = M.1.name := (name_of_methodNamed B.named B.method).1
  have ok : aa_OK M d p (headSpec (aa_ws M) { frames := d, cells := σ'.2.2.2.1 - σ.2.2.2.1, slots := σ'.2.2.2.2 - σ.2.2.2.2, locals := 100 * d }).room s m (avs.map (aa_tr b z)).toArray meth c D cA b z :=
    ⟨B.exec, B.bytes, hml, hown, fun w hw => hts w (List.mem_cons_of_mem _ hw), B.returns, B.notSynchronized, hin, hK, by omega, Nat.le_refl _, Nat.le_refl _, hXL, hNW⟩
  have key := h3 p l e _ s m _ below meth c D cA b z σ.2.2.2.1 σ.2.2.2.2 ok (Nat.le_refl _) (Nat.le_refl _) (Nat.le_refl _) (Nat.le_refl _)
  have hle : (lg_sl (avs.map (aa_tr b z))).length ≤ M.2.2.1 := by rw [aa_l1_len]; omega
  have hl := lv_entry (avs.map (aa_tr b z)) (n := M.2.2.1) hle
  rw [lg_entry_eq]
  have k2 := key s.heap [] _ hP hsz va_S.rf (show aa_lv b z _ M.2.2.1 _ from ⟨hl.1, hl.2.1, fun q hq => hl.2.2 q (aa_l1_args b z avs 0 q (by rw [aa_al_app] at hq; exact hq))⟩)
  rw [Nat.sub_self, Nat.sub_self] at k2
  exact k2
/-- a contract out of a walk from the entry -/
theorem aa_S_of {M : aa_M} {d : Nat} {avs : List Value} {σ : aa_St} {Q : Option Value → aa_St → Prop} (hy : plainName M.1.cls = true) (n : Nat) (ls : aa_L) (hls : aa_l1 avs ++ List.replicate n none = ls) (hn : ls.length = M.2.2.1) (h : aa_V M d 0 ls [] σ Q) : ∃ r σ', Q r σ' ∧ aa_SX M d avs σ r σ' := by
  obtain ⟨r, σ', hq, h⟩ := h
  subst hls
  exact ⟨r, σ', hq, aa_SX_of hy n (by rw [← hn]; simp) h⟩
theorem aa_E_of {M : aa_M} {d : Nat} {avs : List Value} {σ : aa_St} {r : Option Value} {σ' : aa_St} (hy : plainName M.1.cls = true) (n : Nat) (ls : aa_L) (hls : aa_l1 avs ++ List.replicate n none = ls) (hn : ls.length = M.2.2.1) (h : aa_V M d 0 ls [] σ (fun r1 σ1 => r1 = r ∧ σ1 = σ')) : aa_SX M d avs σ r σ' := by
  obtain ⟨r1, σ1, ⟨h1, h2⟩, h3⟩ := aa_S_of hy n ls hls hn h
  rw [h1, h2] at h3
  exact h3
theorem aa_SX.mono {M : aa_M} {d d' : Nat} {avs : List Value} {σ : aa_St} {r : Option Value} {σ' : aa_St} (h : aa_SX M d avs σ r σ') (hd : d = d') : aa_SX M d' avs σ r σ' := hd ▸ h
