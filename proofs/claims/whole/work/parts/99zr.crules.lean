/-! CONSTRUCTORS: rows of references; states given outright -/
section
variable {M : aa_M} {d pc pn : Nat} {ls tl : aa_L} {st : List Value} {σ : aa_St}
theorem aa_anew {idx N : Nat} {n : Int32} (h : aa_At M pc (.anewarray idx) 3 pn) (hL : aa_lk (.classLink M.1.cls idx "AllAboveIt$Game")) (hn : ¬ n < 0) (hN : n.toNatClampNeg = N) (hB : N * 4 ≤ 536870912) :
    aa_Go M d pc ls (.int n :: st) σ pn ls (.ref σ.2.2.1.length :: st) (aa_nw σ (.inr (.inr (.inl (List.replicate N none)))) N) := ⟨Nat.le_succ _, Nat.le_add_right _ _, fun p l e R s m args below meth c D cA b z c0 s0 Q ok hc0 hs0 hC hSl K H locs lsA hP hz hS hl => by
  simp only [aa_nw] at hC hSl
  subst hN
  refine W.anew ok.1 ok.2.1 ok.2.2.2.1 (ok.2.2.2.2.1 _ hL.tb) (va_AO.use ok.2.2.2.2.2.2.2.2.2.2.2.2.2.2) rfl h.1 rfl hn hB (by omega) (by omega) fun cA1 kA comp f1 f2 f3 f4 => ?_
  generalize hH1 : H.push ({ cls := cA1, slots := Array.replicate n.toNatClampNeg .null, vm := .none } : Cell) = H1
  have z1 : H1.size = H.size + 1 := by rw [← hH1, Array.size_push]
  have e1 : H1[H.size]? = some (arrV cA1 n.toNatClampNeg (fun _ => .null)) := by rw [← hH1, Array.getElem?_push_size, ← arrV_new]
  have o1 : ∀ q : Nat, q < H.size → H1[q]? = H[q]? := fun q hq => by rw [← hH1, Array.getElem?_push, if_neg (Nat.ne_of_lt hq)]
  have hcA : cA1 = cA 4 := by
    obtain ⟨kA', comp', g1, g2, g3, g4⟩ := (ok.2.2.2.2.2.2.2.2.1.2 4 _ rfl).2
    exact Option.some.inj (f1.symm.trans g4)
  subst hcA
  have K1 := K H1 locs lsA ?_ ?_ ?_ hl
  · rw [← h.2] at K1
    simp only [aa_nw] at K1
    rw [show σ.2.2.2.1 + 1 - c0 = σ.2.2.2.1 - c0 + 1 by omega, show σ.2.2.2.2 + n.toNatClampNeg - s0 = σ.2.2.2.2 - s0 + n.toNatClampNeg by omega] at K1
    rw [hz]
    exact K1
  · refine aa_PP_new hP hz o1 (fun e9 he => ?_)
    cases he
    show H1[H.size]? = some (vp_cell _ _)
    rw [vp_cell_q, e1, List.length_replicate]
    congr 2
    funext k
    have : (List.replicate n.toNatClampNeg (none : Option Nat)).getD k none = none := by
      rw [List.getD_eq_getElem?_getD, List.getElem?_replicate]
      split <;> rfl
    rw [this]; rfl
  · rw [z1]; simp [aa_nw]; omega
  · exact ⟨Nat.le_trans hS.1 (by rw [z1]; omega), fun x h1 h2 => (o1 x (by have := hS.1; omega)).trans (hS.2.1 x h1 h2), hS.2.2⟩⟩
theorem aa_aast {a v : Nat} {rs : List (Option Nat)} {tp : List Value} {j : Int32} (h : aa_At M pc .aastore 1 pn) (hsh : σ.2.2.1[a]? = some (.inr (.inr (.inl rs)))) (hv : σ.2.2.1[v]? = some (.inr (.inl (2, tp)))) (hin : vp_in j rs.length) :
    aa_Go M d pc ls (.ref v :: .int j :: .ref a :: st) σ pn ls st (aa_sR σ a (.inr (.inr (.inl (rs.set j.toNatClampNeg (some v)))))) := ⟨Nat.le_refl _, Nat.le_refl _, fun p l e R s m args below meth c D cA b z c0 s0 Q ok _ _ _ _ K H locs lsA hP hz hS hl => by
  have hlt : j.toNatClampNeg < rs.length := Nat.not_le.mp fun q => hin (Or.inr q)
  have h0 : ¬ j < 0 := fun q => hin (Or.inl q)
  have hK := ok.2.2.2.2.2.2.2.2.1
  have hva := hP v _ hv _ rfl
  obtain ⟨r', hr', cellV, g1, g2, g3, -⟩ := hva
  have hrow := hP a _ hsh _ rfl
  have hcl : vwCl[2]? = some (RX2, TX2, 5) := rfl
  have hcls := (hK.1 2 _ hcl).2
  obtain ⟨kA, comp, k1, k2, k3, -⟩ := (hK.2 4 _ rfl).2
  have hcomp : comp = D.1 2 := Option.some.inj (k3.symm.trans hcls.1)
  subst hcomp
  obtain ⟨kC, hkC, -⟩ := hcls.2
  refine W.aast ok.1 ok.2.1 hrow (fun q h => by cases h) (fun h => by cases h) k1 k2 rfl hkC ⟨h0, by show _ < (arrV _ _ _).slots.size; rw [arrV_size]; exact hlt⟩ g1 (fun q h => by rw [g3] at h; cases h) (by rw [g2]; exact hkC) (by rw [g2]; exact va_assign hcls) rfl rfl h.1 fun H1 e z oq => ?_
  have K1 := K H1 (locs ++ [⟨b + a, j.toNatClampNeg⟩]) lsA ?_ (by rw [z, hz]; simp [aa_sR]) (hS.put z oq (Nat.le_add_right b a)) hl
  · rw [← h.2] at K1
    exact K1
  · refine aa_PP_put hP a (fun q hq => by simp [aa_sR, List.getElem?_set, Ne.symm hq]) (fun _ _ => rfl) (fun _ _ => rfl) (fun x e9 hx he => ?_) oq
    have hal : a < σ.2.2.1.length := (List.getElem?_eq_some_iff.mp hsh).1
    have hx' : some (Sum.inr (Sum.inr (Sum.inl (rs.set j.toNatClampNeg (some v)))) : aa_Shp) = some x := by
      rw [← hx]; simp [aa_sR, List.getElem?_set, hal]
    cases hx'
    cases he
    show H1[b + a]? = some (vp_cell _ _)
    rw [e, vp_cell_q, vp_cell_q, arrV_store, List.length_set]
    congr 2
    funext q
    by_cases hq : q = j.toNatClampNeg
    · subst hq
      simp [updV, List.getD_eq_getElem?_getD, List.getElem?_set, hlt, va_rf]
    · simp [updV, List.getD_eq_getElem?_getD, List.getElem?_set, hq, Ne.symm hq]⟩
theorem aa_Go.to {pc1 : Nat} {ls1 : aa_L} {st1 st2 : List Value} {σ1 σ2 : aa_St} (h : aa_Go M d pc ls st σ pc1 ls1 st1 σ1) (hs : st1 = st2) (e : σ1 = σ2) : aa_Go M d pc ls st σ pc1 ls1 st2 σ2 := by
  rw [← hs, ← e]; exact h
end
theorem nw_tup {i : Nat → Nat → Int32} {l : Nat → Nat → Int64} {sh : List aa_Shp} {c s k : Nat} (x : aa_Shp) (n : Nat) (hk : sh.length = k) (hi : ∀ j, i k j = 0) (hl : ∀ j, l k j = 0) : aa_nw (i, l, sh, c, s) x n = (i, l, sh ++ [x], c + 1, s + n) := by
  refine Prod.ext ?_ (Prod.ext ?_ rfl)
  · funext q j
    show (if q = sh.length then 0 else i q j) = i q j
    by_cases e : q = sh.length
    · rw [if_pos e, e, hk, hi]
    · rw [if_neg e]
  · funext q j
    show (if q = sh.length then 0 else l q j) = l q j
    by_cases e : q = sh.length
    · rw [if_pos e, e, hk, hl]
    · rw [if_neg e]
