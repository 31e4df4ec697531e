/-! WHAT A CALL MAY CHANGE: cells A, rows J; rows may be made anew, and what that costs is counted against what is still to be made -/
def cc (v : Nat) (i : Nat → Nat → Int32) : Nat := (if i 25 1 = nI v then 0 else 1) + (if i 27 1 = nI v then 0 else 1) + (if i 30 1 = nI v then 0 else 1) + (if i 39 1 = nI v then 0 else 1) + (if i 47 1 = nI v then 0 else 1)
def ph (v : Nat) (r : Nat → Nat) (i : Nat → Nat → Int32) : Nat := 65536 * cc v i + (if r 3 = 37 then 4096 else 0) + (if r 6 = 50 then 25600 else 0)
def pn (v : Nat) (r : Nat → Nat) (i : Nat → Nat → Int32) : Nat := cc v i + (if r 3 = 37 then 1 else 0) + (if r 6 = 50 then 1 else 0)
def GX (A J : List Nat) (v : Nat) (r : Nat → Nat) (dy : List aa_Shp) (σ : aa_St) (r' : Nat → Nat) (dy' : List aa_Shp) (σ' : aa_St) : Prop :=
  aa_W r' dy' σ' ∧ dy.length ≤ dy'.length ∧ (∀ (k : Nat) (x : aa_Shp), dy[k]? = some x → dy'[k]? = some x) ∧ (∀ q, q ∉ J → r' q = r q) ∧ (∀ q, r' q = r q ∨ 87 + dy.length ≤ r' q) ∧
  ((∀ q, r q < 87 + dy.length) → (∀ q, r' q < 87 + dy'.length) ∧ ∀ p q, r p ≠ r q → r' p ≠ r' q) ∧
  (∀ x, x < 87 + dy.length → x ∉ A → σ'.1 x = σ.1 x) ∧ (∀ x, x < 87 + dy.length → (∀ j, j ∈ J → x ≠ r j) → σ'.2.1 x = σ.2.1 x) ∧
  (σ'.2.2.2.2 + ph v r' σ'.1 ≤ σ.2.2.2.2 + ph v r σ.1 ∧ σ'.2.2.2.1 + pn v r' σ'.1 ≤ σ.2.2.2.1 + pn v r σ.1)
section
variable {A J : List Nat} {v : Nat} {r r' r1 r2 : Nat → Nat} {dy dy' dy1 dy2 : List aa_Shp} {σ σ' σ1 σ2 : aa_St}
theorem GX.W (h : GX A J v r dy σ r' dy' σ') : aa_W r' dy' σ' := h.1
theorem GX.rf (h : aa_W r dy σ) : GX A J v r dy σ r dy σ := ⟨h, Nat.le_refl _, fun _ _ q => q, fun _ _ => rfl, fun _ => Or.inl rfl, fun q => ⟨q, fun _ _ h => h⟩, fun _ _ _ => rfl, fun _ _ _ => rfl, Nat.le_refl _, Nat.le_refl _⟩
theorem GX.tr (h : GX A J v r dy σ r1 dy1 σ1) (g : GX A J v r1 dy1 σ1 r2 dy2 σ2) : GX A J v r dy σ r2 dy2 σ2 := by
  obtain ⟨h0, h1, h2, h3, h4, h5, h6, h7, h8, h9⟩ := h
  obtain ⟨g0, g1, g2, g3, g4, g5, g6, g7, g8, g9⟩ := g
  refine ⟨g0, Nat.le_trans h1 g1, fun k x q => g2 k x (h2 k x q), fun q hq => (g3 q hq).trans (h3 q hq), fun q => ?_, fun q => ?_, fun x hx hxa => (g6 x (by omega) hxa).trans (h6 x hx hxa), fun x hx hxj => ?_, Nat.le_trans g8 h8, Nat.le_trans g9 h9⟩
  · rcases g4 q with g | g
    · rcases h4 q with h | h
      · exact Or.inl (g.trans h)
      · exact Or.inr (by omega)
    · exact Or.inr (by omega)
  · have h5 := h5 q
    have g5 := g5 h5.1
    exact ⟨g5.1, fun a b c => g5.2 a b (h5.2 a b c)⟩
  · refine (g7 x (by omega) (fun j hj => ?_)).trans (h7 x hx hxj)
    rcases h4 j with h | h
    · rw [h]; exact hxj j hj
    · omega
theorem GX.mono {A' J' : List Nat} (h : GX A J v r dy σ r' dy' σ') (hA : ∀ x, x ∈ A → x ∈ A') (hJ : ∀ x, x ∈ J → x ∈ J') : GX A' J' v r dy σ r' dy' σ' := ⟨h.1, h.2.1, h.2.2.1, fun q hq => h.2.2.2.1 q (fun c => hq (hJ q c)), h.2.2.2.2.1, h.2.2.2.2.2.1, fun x hx hxa => h.2.2.2.2.2.2.1 x hx (fun c => hxa (hA x c)), fun x hx hxj => h.2.2.2.2.2.2.2.1 x hx (fun j hj => hxj j (hJ j hj)), h.2.2.2.2.2.2.2.2⟩
theorem GX.I (h : GX A J v r dy σ r' dy' σ') {x : Nat} (hx : x < 87) (hxa : x ∉ A) : σ'.1 x = σ.1 x := h.2.2.2.2.2.2.1 x (by omega) hxa
theorem GX.R (h : GX A J v r dy σ r' dy' σ') (hr : ∀ q, r q < 87 + dy.length) : ∀ q, r' q < 87 + dy'.length := (h.2.2.2.2.2.1 hr).1
theorem GX.D (h : GX A J v r dy σ r' dy' σ') (hr : ∀ q, r q < 87 + dy.length) {p q : Nat} (hd : r p ≠ r q) : r' p ≠ r' q := (h.2.2.2.2.2.1 hr).2 p q hd
theorem GX.XP (h : GX A J v r dy σ r' dy' σ') (hA : ∀ x, x ∈ A → 19 < x) {P : pl_T} {hs : List Nat} (hX : XP P hs σ.1) : XP P hs σ'.1 := by
  have q : ∀ x, x ≤ 19 → σ'.1 x = σ.1 x := fun x hx => h.I (by omega) (fun c => by have := hA x c; omega)
  exact hX.fr ⟨by rw [q 7 (by decide)], by rw [q 7 (by decide)], by rw [q 7 (by decide)]⟩ (fun x h1 h2 => q x (by omega))
theorem SH_row (r r' : Nat → Nat) (k : Nat) (y : Nat × Nat) (h : (aa_SH r)[k]? = some (.inl y)) : (aa_SH r')[k]? = some (.inl y) := by
  have e : (aa_SH r).map (fun s => match s with | .inl y => some y | .inr _ => none) = (aa_SH r').map (fun s => match s with | .inl y => some y | .inr _ => none) := rfl
  have e2 : ((aa_SH r).map (fun s => match s with | .inl y => some y | .inr _ => none))[k]? = some (some y) := by rw [List.getElem?_map, h]; rfl
  rw [e, List.getElem?_map] at e2
  cases hc : (aa_SH r')[k]? with
  | none => rw [hc] at e2; simp at e2
  | some s =>
    rw [hc] at e2
    cases s with
    | inl z => simp at e2; rw [e2]
    | inr z => simp at e2
theorem GX.sh (h : GX A J v r dy σ r' dy' σ') (hW : aa_W r dy σ) {k : Nat} {y : Nat × Nat} (hk : σ.2.2.1[k]? = some (.inl y)) : σ'.2.2.1[k]? = some (.inl y) := by
  rw [hW] at hk
  rw [h.1]
  by_cases c : k < 87
  · rw [List.getElem?_append_left (by rw [aa_SH_len]; exact c)] at hk ⊢
    exact SH_row r r' k y hk
  · rw [List.getElem?_append_right (by rw [aa_SH_len]; omega), aa_SH_len] at hk ⊢
    exact h.2.2.1 _ _ hk
theorem MX.GX {N j a : Nat} (h : MX N v j a r dy σ r' dy' σ') (ha : a = 25 ∨ a = 27 ∨ a = 30 ∨ a = 39 ∨ a = 47) (hj : j ≠ 3 ∧ j ≠ 6) (hN : N ≤ 65536) : GX [a] [j] v r dy σ r' dy' σ' := by
  obtain ⟨h0, h1, h2, h3, h4, h5, h6, h7, h8⟩ := h
  have hI : ∀ x, x < 87 → x ≠ a → σ'.1 x 1 = σ.1 x 1 := fun x hx hxa => by rw [h5 x (by omega) hxa]
  refine ⟨h0, h1, h2, fun q hq => h3 q (fun c => hq (by rw [c]; exact List.mem_singleton.mpr rfl)), fun q => ?_, fun hr => ⟨fun q => ?_, fun p q hpq => ?_⟩, fun x hx hxa => h5 x hx (fun c => hxa (by rw [c]; exact List.mem_singleton.mpr rfl)), fun x hx hxj => h7 x hx (hxj j (List.mem_singleton.mpr rfl)), ?_⟩
  · by_cases c : q = j
    · subst c
      rcases h4 with h4 | h4
      · exact Or.inl h4
      · exact Or.inr h4.1
    · exact Or.inl (h3 q c)
  · by_cases c : q = j
    · subst c
      have := hr q
      rcases h4 with h4 | h4
      · omega
      · exact h4.2
    · have := hr q
      rw [h3 q c]; omega
  · have b1 := hr p
    have b2 := hr q
    by_cases c : p = j
    · by_cases c2 : q = j
      · rw [c, c2] at hpq; exact absurd rfl hpq
      · rw [h3 q c2]
        subst c
        rcases h4 with h4 | h4
        · rw [h4]; exact hpq
        · omega
    · rw [h3 p c]
      by_cases c2 : q = j
      · subst c2
        rcases h4 with h4 | h4
        · rw [h4]; exact hpq
        · omega
      · rw [h3 q c2]; exact hpq
  · rw [ph, ph, pn, pn, h3 3 (Ne.symm hj.1), h3 6 (Ne.symm hj.2)]
    rcases h8 with ⟨e1, e2⟩ | ⟨e1, e2, e3, e4⟩
    · have e9 : cc v σ'.1 = cc v σ.1 := by
        have q : ∀ x, x < 87 → σ'.1 x 1 = σ.1 x 1 := fun x hx => by
          by_cases c : x = a
          · rw [c]; exact e2
          · exact hI x hx c
        rw [cc, cc, q 25 (by decide), q 27 (by decide), q 30 (by decide), q 39 (by decide), q 47 (by decide)]
      rw [e9, e1]; exact ⟨Nat.le_refl _, Nat.le_refl _⟩
    · have e9 : cc v σ'.1 + 1 = cc v σ.1 := by
        rw [cc, cc]
        rcases ha with rfl | rfl | rfl | rfl | rfl
        · rw [hI 27 (by decide) (by decide), hI 30 (by decide) (by decide), hI 39 (by decide) (by decide), hI 47 (by decide) (by decide), if_pos e4, if_neg e3]; omega
        · rw [hI 25 (by decide) (by decide), hI 30 (by decide) (by decide), hI 39 (by decide) (by decide), hI 47 (by decide) (by decide), if_pos e4, if_neg e3]; omega
        · rw [hI 27 (by decide) (by decide), hI 25 (by decide) (by decide), hI 39 (by decide) (by decide), hI 47 (by decide) (by decide), if_pos e4, if_neg e3]; omega
        · rw [hI 27 (by decide) (by decide), hI 30 (by decide) (by decide), hI 25 (by decide) (by decide), hI 47 (by decide) (by decide), if_pos e4, if_neg e3]; omega
        · rw [hI 27 (by decide) (by decide), hI 30 (by decide) (by decide), hI 39 (by decide) (by decide), hI 25 (by decide) (by decide), if_pos e4, if_neg e3]
      rw [e1, e2]; constructor <;> omega
theorem GX.I1 {a k : Nat} (hW : aa_W r dy σ) (ha : a ≠ 25 ∧ a ≠ 27 ∧ a ≠ 30 ∧ a ≠ 39 ∧ a ≠ 47) (x : Int32) : GX [a] [] v r dy σ r dy (aa_sI σ a k x) := by
  have q : ∀ b, b ≠ a → (aa_sI σ a k x).1 b = σ.1 b := fun b hb => aa_u2_ne hb
  have e9 : cc v (aa_sI σ a k x).1 = cc v σ.1 := by
    rw [cc, cc, q 25 (Ne.symm ha.1), q 27 (Ne.symm ha.2.1), q 30 (Ne.symm ha.2.2.1), q 39 (Ne.symm ha.2.2.2.1), q 47 (Ne.symm ha.2.2.2.2)]
  refine ⟨hW, Nat.le_refl _, fun _ _ q => q, fun _ _ => rfl, fun _ => Or.inl rfl, fun q => ⟨q, fun _ _ h => h⟩, fun b _ hb => q b (fun c => hb (by rw [c]; exact List.mem_singleton.mpr rfl)), fun _ _ _ => rfl, ?_⟩
  rw [ph, ph, pn, pn, e9]
  exact ⟨Nat.le_refl _, Nat.le_refl _⟩
theorem GX.V (hW : aa_W r dy σ) (hF : FrV r σ σ') : GX [24] [0, 1] v r dy σ r dy σ' := by
  obtain ⟨h1, h2, h3, h4⟩ := hF
  have e9 : cc v σ'.1 = cc v σ.1 := by
    rw [cc, cc, h2 25 (by decide), h2 27 (by decide), h2 30 (by decide), h2 39 (by decide), h2 47 (by decide)]
  refine ⟨hW.of2 h1, Nat.le_refl _, fun _ _ q => q, fun _ _ => rfl, fun _ => Or.inl rfl, fun q => ⟨q, fun _ _ h => h⟩, fun b _ hb => h2 b (fun c => hb (by rw [c]; exact List.mem_singleton.mpr rfl)), fun x _ hx => h4 x (hx 0 (by decide)) (hx 1 (by decide)), ?_⟩
  rw [ph, ph, pn, pn, e9, h1]
  exact ⟨Nat.le_refl _, Nat.le_refl _⟩
end
/-! the marks of a walk -/
def MB (P : pl_T) (W : Nat) (f : Nat → Int64) : Prop := ∀ s, s < 2 ^ (pl_n P + pl_b P) → ∃ v, f s = lN v ∧ v >>> 2 ≤ W
def R1 (P : pl_T) (v : Nat) (r : Nat → Nat) (W : Nat) (σ : aa_St) : Prop := σ.1 27 1 = nI v ∧ σ.2.2.1[r 1]? = some (.inl (1, 2 ^ (pl_n P + pl_b P))) ∧ MB P W (σ.2.1 (r 1))
def S1 (P : pl_T) (v : Nat) (r : Nat → Nat) (W : Nat) (σ : aa_St) : Prop := σ.1 27 1 = nI v → R1 P v r W σ
section
variable {r : Nat → Nat} {dy : List aa_Shp} {σ : aa_St} {P : pl_T} {hs : List Nat} {v W : Nat}
theorem c_fit1 (hW : aa_W r dy σ) (hX : XP P hs σ.1) (hv : σ.1 7 15 = nI v) (hS : S1 P v r W σ) : ∃ r' dy' σ', (MX (2 ^ (pl_n P + pl_b P)) v 1 27 r dy σ r' dy' σ' ∧ R1 P v r' W σ') ∧ aa_SX mX4_fit 2 [.ref 27, .ref 7] σ none σ' := by
  by_cases he : σ.1 27 1 = nI v
  · exact ⟨r, dy, σ, ⟨MX.rf hW, hS he⟩, c_fitE27 hW hv he⟩
  · have hW' := hW.fit27 (nI v) (2 ^ (pl_n P + pl_b P))
    have hM := MX.fit (N := 2 ^ (pl_n P + pl_b P)) (v := v) (j := 1) (a := 27) hW (by decide) he hW'
    refine ⟨_, _, _, ⟨hM, ?_, ?_, ?_⟩, c_fitN27 hW hX hv he⟩
    · exact fit_ver hW (by decide) _ _ _
    · rw [nup_eq]; exact fit_shape hW'
    · rw [nup_eq, fit_row hW]; exact fun s _ => ⟨0, rfl, Nat.zero_le _⟩
theorem c_X9_lostReached (hW : aa_W r dy σ) {n : Nat} (hn : σ.1 24 5 = nI n) : aa_SX mX9_lostReached 1 [.ref 24] σ (some (.int (nI n))) σ := by
  refine aa_E_of (by decide) 0 [some (.ref 24)] rfl rfl ?_
  refine aa_go (aa_aload0 iX9_lostReached_0) (aa_go (aa_getE iX9_lostReached_1 fl_X9_28 (sh_24 hW) rfl hn) ?_)
  refine aa_iret iX9_lostReached_4 rfl ?_
  exact ⟨rfl, rfl⟩
theorem c_X9_reach (hW : aa_W r dy σ) (hr : ∀ q, r q < 87 + dy.length) (hd : r 0 ≠ r 1) (hX : XP P hs σ.1) (hv : σ.1 7 15 = nI v) (hS : S0 P v r σ) (hS1 : S1 P v r W σ) (hw : σ.1 24 3 = nI W) (hw28 : W + 1 < 2 ^ 28) {s h e : Nat} (hs2 : s < 2 ^ (pl_n P + pl_b P)) (hh : h ≤ 1) (he : e ≤ 1) : ∃ (L : List (Nat × Nat)) (r' : Nat → Nat) (dy' : List aa_Shp) (σ' : aa_St), (GX [24, 25, 27] [0, 1] v r dy σ r' dy' σ' ∧ R0 P v r' σ' ∧ R1 P v r' (W + 1) σ' ∧ σ'.1 24 3 = nI (W + 1) ∧ σ'.1 24 5 = nI (lo P e L) ∧ L.Nodup ∧ ∀ y, y ∈ L ↔ rc P (s, h) y) ∧ aa_SX mX9_reach 50 [.ref 24, .int (nI s), .int (nI h), .int (nI e)] σ (some (.int (nI L.length))) σ' := by
  have hn := hX.n14
  have hb := hX.b2
  have p16 := pw16 (k := pl_n P + pl_b P) (by omega)
  have mu := pl_mu_le hX.ok s
  obtain ⟨r1, dy1, σ1, ⟨hM1, hR1⟩, hSa⟩ := c_fit0 hW hX hv hS
  have hG1 := (hM1.GX (Or.inl rfl) (by decide) (by omega)).mono (A' := [24, 25, 27]) (J' := [0, 1]) (by decide) (by decide)
  have hW1 := hM1.W
  have hX1 := hM1.XP (by decide) hX
  have hv1 : σ1.1 7 15 = nI v := by rw [hM1.I (by decide) (by decide)]; exact hv
  have hS11 : S1 P v r1 W σ1 := by
    intro q
    rw [hM1.I (by decide) (by decide)] at q
    obtain ⟨a1, a2, a3⟩ := hS1 q
    have e1 : r1 1 = r 1 := hM1.2.2.2.1 1 (by decide)
    refine ⟨by rw [hM1.I (by decide) (by decide)]; exact a1, by rw [e1]; exact hG1.sh hW a2, ?_⟩
    rw [e1, hM1.2.2.2.2.2.2.2.1 (r 1) (hr 1) hd.symm]; exact a3
  obtain ⟨r2, dy2, σ2, ⟨hM2, hR2⟩, hSb⟩ := c_fit1 hW1 hX1 hv1 hS11
  have hG2 := (hM2.GX (Or.inr (Or.inl rfl)) (by decide) (by omega)).mono (A' := [24, 25, 27]) (J' := [0, 1]) (by decide) (by decide)
  have hW2 := hM2.W
  have hX2 := hM2.XP (by decide) hX1
  have hr1 := hG1.R hr
  have hd1 := hG1.D hr hd
  have hr2 := hG2.R hr1
  have hd2 := hG2.D hr1 hd1
  have hR02 : R0 P v r2 σ2 := by
    obtain ⟨a1, a2, a3⟩ := hR1
    have e1 : r2 0 = r1 0 := hM2.2.2.2.1 0 (by decide)
    refine ⟨by rw [hM2.I (by decide) (by decide)]; exact a1, by rw [e1]; exact hG2.sh hW1 a2, ?_⟩
    rw [e1, hM2.2.2.2.2.2.2.2.1 (r1 0) (hr1 0) hd1]; exact a3
  have hw2 : σ2.1 24 3 = nI W := by rw [hM2.I (by decide) (by decide), hM1.I (by decide) (by decide)]; exact hw
  have hW3 := ((hW2.sI 24 3 (nI (W + 1))).sI 24 4 (nI 0)).sI 24 5 (nI 0)
  have hG3 : GX [24, 25, 27] [0, 1] v r2 dy2 σ2 r2 dy2 (aa_sI (aa_sI (aa_sI σ2 24 3 (nI (W + 1))) 24 4 (nI 0)) 24 5 (nI 0)) := (((GX.I1 hW2 (by decide) (nI (W + 1))).tr (GX.I1 (hW2.sI 24 3 (nI (W + 1))) (by decide) (nI 0))).tr (GX.I1 ((hW2.sI 24 3 (nI (W + 1))).sI 24 4 (nI 0)) (by decide) (nI 0))).mono (by decide) (by decide)
  have hVI : VI P hs r2 dy2 (W + 1) e [] (aa_sI (aa_sI (aa_sI σ2 24 3 (nI (W + 1))) 24 4 (nI 0)) 24 5 (nI 0)) := by
    refine ⟨hW3, hG3.XP (by decide) hX2, hR02.2.2, fun t ht => ?_, List.nodup_nil, rfl, rfl, rfl⟩
    obtain ⟨w, hw1, hw2⟩ := hR2.2.2 t ht
    exact ⟨w, hw1, by omega, fun q hq => by simp [show ¬ w >>> 2 = W + 1 by omega]⟩
  have hr0' : ∀ σ3 : aa_St, aa_W r2 dy2 σ3 → σ3.2.2.1[r2 0]? = some (.inl (1, 2 ^ (pl_n P + pl_b P))) := fun σ3 h3 => by rw [h3, ← hW2]; exact hR02.2.1
  have hr1' : ∀ σ3 : aa_St, aa_W r2 dy2 σ3 → σ3.2.2.1[r2 1]? = some (.inl (1, 2 ^ (pl_n P + pl_b P))) := fun σ3 h3 => by rw [h3, ← hW2]; exact hR2.2.1
  obtain ⟨σ4, ⟨hF4, L, hv4, hV4⟩, hSc⟩ := c_X9_visit hr0' hr1' hd2 hw28 he 18 s h 0 _ [] mu hs2 hh (by omega) hVI
  obtain ⟨hW4, hX4, hK4, hMK4, hnd4, hwk4, hre4, hlo4⟩ := hV4
  have hG4 := (GX.V (v := v) hW3 hF4).mono (A' := [24, 25, 27]) (J' := [0, 1]) (by decide) (by decide)
  refine ⟨L, r2, dy2, σ4, ⟨((hG1.tr hG2).tr hG3).tr hG4, ⟨?_, ?_, hK4⟩, ⟨?_, ?_, ?_⟩, hwk4, hlo4, hnd4, fun y => ⟨fun hy => (hv4.2.2 y hy List.not_mem_nil).1, fun hy => hy (fun z => z ∈ L) hv4.2.1 (fun z hz j hj => (hv4.2.2 z hz List.not_mem_nil).2 j hj)⟩⟩, ?_⟩
  · rw [hF4.2.1 25 (by decide)]; exact hR02.1
  · exact hr0' σ4 hW4
  · rw [hF4.2.1 27 (by decide)]; exact hR2.1
  · exact hr1' σ4 hW4
  · intro t ht
    obtain ⟨w, q1, q2, -⟩ := hMK4 t ht
    exact ⟨w, q1, q2⟩
  refine aa_E_of (by decide) 0 [some (.ref 24), some (.int (nI s)), some (.int (nI h)), some (.int (nI e))] rfl rfl ?_
  refine aa_go (aa_aload0 iX9_reach_0) (aa_go (aa_getR iX9_reach_1 fl_X9_12 (sh_24 hW) rfl) (aa_go (aa_aload0 iX9_reach_4) (aa_go (aa_getR iX9_reach_5 fl_X9_31 (sh_24 hW) rfl) (aa_go (aa_cVv iX9_reach_8 (hSa) (by decide) lc_X4_fit lk_X9_35 (sh_25 hW) rfl rfl (Nat.le_of_ble_eq_true rfl)) ?_))))
  refine aa_go (aa_aload0 iX9_reach_11) (aa_go (aa_getR iX9_reach_12 fl_X9_18 (sh_24 hW1) rfl) (aa_go (aa_aload0 iX9_reach_15) (aa_go (aa_getR iX9_reach_16 fl_X9_31 (sh_24 hW1) rfl) (aa_go (aa_cVv iX9_reach_19 (hSb) (by decide) lc_X4_fit lk_X9_35 (sh_27 hW1) rfl rfl (Nat.le_of_ble_eq_true rfl)) ?_))))
  refine aa_go (aa_aload0 iX9_reach_22) (aa_go (aa_dup iX9_reach_23 rfl) (aa_go (aa_getE iX9_reach_24 fl_X9_21 (sh_24 hW2) rfl hw2) (aa_go (aa_iconst iX9_reach_27 ki_1) (aa_go (aa_iaddN iX9_reach_28 ) (aa_go (aa_putI iX9_reach_29 fl_X9_21 (fun h => nomatch h) (sh_24 hW2) rfl ⟨rfl, rfl⟩) ?_)))))
  refine aa_go (aa_aload0 iX9_reach_32) (aa_go (aa_iconst iX9_reach_33 ki_0) (aa_go (aa_putI iX9_reach_34 fl_X9_25 (fun h => nomatch h) (sh_24 (hW2.sI 24 3 (nI (W + 1)))) rfl ⟨rfl, rfl⟩) (aa_go (aa_aload0 iX9_reach_37) (aa_go (aa_iconst iX9_reach_38 ki_0) (aa_go (aa_putI iX9_reach_39 fl_X9_28 (fun h => nomatch h) (sh_24 (hW2.sI 24 3 (nI (W + 1)))) rfl ⟨rfl, rfl⟩) (aa_go (aa_aload0 iX9_reach_42) (aa_go (aa_iload1 iX9_reach_43) ?_)))))))
  refine aa_go (aa_iload2 iX9_reach_44) (aa_go (aa_iload3 iX9_reach_45) (aa_go (aa_iconst iX9_reach_46 ki_0) (aa_go (aa_cVv iX9_reach_47 (hSc) (by decide) lc_X9_visit lk_X9_87 (sh_24 (hW2.sI 24 3 (nI (W + 1)))) rfl rfl (Nat.le_of_ble_eq_true rfl)) ?_)))
  refine aa_go (aa_aload0 iX9_reach_50) (aa_go (aa_getE iX9_reach_51 fl_X9_25 (sh_24 hW4) rfl hre4) ?_)
  refine aa_iret iX9_reach_54 rfl ?_
  exact ⟨rfl, rfl⟩
end
