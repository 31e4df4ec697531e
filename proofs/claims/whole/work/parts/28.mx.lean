/-! WHAT A CALL OF A SOLVER MAY CHANGE: its memo (object a, row number j), which may be made anew -/
def MX (N v j a : Nat) (r : Nat → Nat) (dy : List aa_Shp) (σ : aa_St) (r' : Nat → Nat) (dy' : List aa_Shp) (σ' : aa_St) : Prop :=
  aa_W r' dy' σ' ∧ dy.length ≤ dy'.length ∧ (∀ (k : Nat) (x : aa_Shp), dy[k]? = some x → dy'[k]? = some x) ∧ (∀ q, q ≠ j → r' q = r q) ∧ (r' j = r j ∨ (87 + dy.length ≤ r' j ∧ r' j < 87 + dy'.length)) ∧
  (∀ x, x < 87 + dy.length → x ≠ a → σ'.1 x = σ.1 x) ∧ (∀ k, k ≠ 1 → σ'.1 a k = σ.1 a k) ∧ (∀ x, x < 87 + dy.length → x ≠ r j → σ'.2.1 x = σ.2.1 x) ∧
  ((σ'.2.2.2 = σ.2.2.2 ∧ σ'.1 a 1 = σ.1 a 1) ∨ (σ'.2.2.2.1 = σ.2.2.2.1 + 1 ∧ σ'.2.2.2.2 = σ.2.2.2.2 + N ∧ σ.1 a 1 ≠ nI v ∧ σ'.1 a 1 = nI v))
theorem MX.W {N v j a : Nat} {r r' : Nat → Nat} {dy dy' : List aa_Shp} {σ σ' : aa_St} (h : MX N v j a r dy σ r' dy' σ') : aa_W r' dy' σ' := h.1
theorem MX.rf {N v j a : Nat} {r : Nat → Nat} {dy : List aa_Shp} {σ : aa_St} (h : aa_W r dy σ) : MX N v j a r dy σ r dy σ := ⟨h, Nat.le_refl _, fun _ _ q => q, fun _ _ => rfl, Or.inl rfl, fun _ _ _ => rfl, fun _ _ => rfl, fun _ _ _ => rfl, Or.inl ⟨rfl, rfl⟩⟩
theorem MX.L {N v j a : Nat} {r : Nat → Nat} {dy : List aa_Shp} {σ σ' : aa_St} (h : aa_W r dy σ) (hF : FrL (r j) σ σ') : MX N v j a r dy σ r dy σ' := ⟨h.of2 hF.2.1, Nat.le_refl _, fun _ _ q => q, fun _ _ => rfl, Or.inl rfl, fun x _ _ => by rw [hF.1], fun k _ => by rw [hF.1], fun x _ hx => hF.2.2 x hx, Or.inl ⟨by rw [hF.2.1], by rw [hF.1]⟩⟩
theorem MX.tr {N v j a : Nat} {r r1 r2 : Nat → Nat} {dy dy1 dy2 : List aa_Shp} {σ σ1 σ2 : aa_St} (h : MX N v j a r dy σ r1 dy1 σ1) (g : MX N v j a r1 dy1 σ1 r2 dy2 σ2) : MX N v j a r dy σ r2 dy2 σ2 := by
  obtain ⟨h0, h1, h2, h3, h4, h5, h6, h7, h8⟩ := h
  obtain ⟨g0, g1, g2, g3, g4, g5, g6, g7, g8⟩ := g
  refine ⟨g0, Nat.le_trans h1 g1, fun k x q => g2 k x (h2 k x q), fun q hq => (g3 q hq).trans (h3 q hq), ?_, fun x hx hxa => (g5 x (by omega) hxa).trans (h5 x hx hxa), fun k hk => (g6 k hk).trans (h6 k hk), fun x hx hxj => ?_, ?_⟩
  · rcases g4 with g4 | ⟨g4, g4'⟩
    · rcases h4 with h4 | ⟨h4, h4'⟩
      · exact Or.inl (g4.trans h4)
      · exact Or.inr ⟨by omega, by omega⟩
    · exact Or.inr ⟨by omega, g4'⟩
  · have hx1 : x ≠ r1 j := by
      rcases h4 with h4 | ⟨h4, h4'⟩
      · rw [h4]; exact hxj
      · omega
    exact (g7 x (by omega) hx1).trans (h7 x hx hxj)
  · rcases h8 with ⟨h8, h8'⟩ | ⟨k1, k2, k3, k4⟩
    · rcases g8 with ⟨g8, g8'⟩ | ⟨l1, l2, l3, l4⟩
      · exact Or.inl ⟨g8.trans h8, g8'.trans h8'⟩
      · exact Or.inr ⟨by rw [l1, h8], by rw [l2, h8], by rw [← h8']; exact l3, l4⟩
    · rcases g8 with ⟨g8, g8'⟩ | ⟨l1, l2, l3, l4⟩
      · exact Or.inr ⟨by rw [g8]; exact k1, by rw [g8]; exact k2, k3, g8'.trans k4⟩
      · exact absurd k4 l3
theorem MX.I {N v j a : Nat} {r r' : Nat → Nat} {dy dy' : List aa_Shp} {σ σ' : aa_St} (h : MX N v j a r dy σ r' dy' σ') {x : Nat} (hx : x < 87) (hxa : x ≠ a) : σ'.1 x = σ.1 x := h.2.2.2.2.2.1 x (by omega) hxa
theorem MX.XP {N v j a : Nat} {r r' : Nat → Nat} {dy dy' : List aa_Shp} {σ σ' : aa_St} (h : MX N v j a r dy σ r' dy' σ') (ha : 19 < a) {P : pl_T} {hs : List Nat} (hX : XP P hs σ.1) : XP P hs σ'.1 := hX.fr ⟨by rw [h.I (by decide) (by omega)], by rw [h.I (by decide) (by omega)], by rw [h.I (by decide) (by omega)]⟩ (fun x h1 h2 => h.I (by omega) (by omega))
theorem MX.fit {N v : Nat} {j a : Nat} {r : Nat → Nat} {dy : List aa_Shp} {σ : aa_St} (hW : aa_W r dy σ) (ha : a < 87) (hne : σ.1 a 1 ≠ nI v) (hW' : aa_W (nup r j (87 + dy.length)) (dy ++ [.inl (1, N)]) (aa_fit σ a (87 + dy.length) (nI v) N)) : MX N v j a r dy σ (nup r j (87 + dy.length)) (dy ++ [.inl (1, N)]) (aa_fit σ a (87 + dy.length) (nI v) N) := by
  have hl : σ.2.2.1.length = 87 + dy.length := hW.len
  refine ⟨hW', by simp, fun k x q => ?_, fun q hq => nup_ne hq, Or.inr ⟨by rw [nup_eq]; omega, by rw [nup_eq]; simp⟩, fun x hx hxa => ?_, fun k hk => ?_, fun x hx _ => ?_, Or.inr ⟨rfl, rfl, hne, ?_⟩⟩
  · rw [List.getElem?_append_left (List.getElem?_eq_some_iff.mp q).1]; exact q
  · funext k
    show (if x = σ.2.2.1.length then 0 else aa_u2 σ.1 a 1 (nI v) x k) = σ.1 x k
    rw [if_neg (by omega), aa_u2_ne hxa]
  · show (if a = σ.2.2.1.length then 0 else aa_u2 σ.1 a 1 (nI v) a k) = σ.1 a k
    rw [if_neg (by omega), aa_u2_eq]
    show (if k = 1 then _ else σ.1 a k) = _
    rw [if_neg hk]
  · funext k
    show (if x = σ.2.2.1.length then 0 else σ.2.1 x k) = σ.2.1 x k
    rw [if_neg (by omega)]
  · show (if a = σ.2.2.1.length then 0 else aa_u2 σ.1 a 1 (nI v) a 1) = nI v
    rw [if_neg (by omega), aa_u2_eq]
    rfl
theorem fit_ver {σ : aa_St} {r : Nat → Nat} {dy : List aa_Shp} (hW : aa_W r dy σ) {a : Nat} (ha : a < 87) (q : Nat) (v : Int32) (N : Nat) : (aa_fit σ a q v N).1 a 1 = v := by
  have hl : σ.2.2.1.length = 87 + dy.length := hW.len
  show (if a = σ.2.2.1.length then 0 else aa_u2 σ.1 a 1 v a 1) = v
  rw [if_neg (by omega), aa_u2_eq]
  rfl
theorem fit_row {σ : aa_St} {r : Nat → Nat} {dy : List aa_Shp} (hW : aa_W r dy σ) (a : Nat) (v : Int32) (N : Nat) : (aa_fit σ a (87 + dy.length) v N).2.1 (87 + dy.length) = fun _ => 0 := by
  have hl : σ.2.2.1.length = 87 + dy.length := hW.len
  funext k
  show (if 87 + dy.length = σ.2.2.1.length then 0 else σ.2.1 _ k) = 0
  rw [if_pos hl.symm]
theorem fit_shape {σ : aa_St} {r' : Nat → Nat} {dy : List aa_Shp} {N : Nat} (hW' : aa_W r' (dy ++ [.inl (1, N)]) σ) : σ.2.2.1[87 + dy.length]? = some (.inl (1, N)) := by
  rw [hW'.at, List.getElem?_append_right (Nat.le_refl _), Nat.sub_self]; rfl
theorem KI_0 (P : pl_T) : KI P (fun _ => 0) := by
  intro s _
  refine ⟨0, rfl, by decide, fun h e _ _ => ⟨Or.inl ?_, Or.inl ?_⟩⟩
  · simp [fd]
  · simp [fd]
/-- the memo of winners stands for this pile -/
def R0 (P : pl_T) (v : Nat) (r : Nat → Nat) (σ : aa_St) : Prop := σ.1 25 1 = nI v ∧ σ.2.2.1[r 0]? = some (.inl (1, 2 ^ (pl_n P + pl_b P))) ∧ KI P (σ.2.1 (r 0))
def S0 (P : pl_T) (v : Nat) (r : Nat → Nat) (σ : aa_St) : Prop := σ.1 25 1 = nI v → R0 P v r σ
section
variable {r : Nat → Nat} {dy : List aa_Shp} {σ : aa_St} {P : pl_T} {hs : List Nat} {v : Nat}
theorem c_fit0 (hW : aa_W r dy σ) (hX : XP P hs σ.1) (hv : σ.1 7 15 = nI v) (hS : S0 P v r σ) : ∃ r' dy' σ', (MX (2 ^ (pl_n P + pl_b P)) v 0 25 r dy σ r' dy' σ' ∧ R0 P v r' σ') ∧ aa_SX mX4_fit 2 [.ref 25, .ref 7] σ none σ' := by
  by_cases he : σ.1 25 1 = nI v
  · exact ⟨r, dy, σ, ⟨MX.rf hW, hS he⟩, c_fitE25 hW hv he⟩
  · have hW' := hW.fit25 (nI v) (2 ^ (pl_n P + pl_b P))
    have hM := MX.fit (N := 2 ^ (pl_n P + pl_b P)) (v := v) (j := 0) (a := 25) hW (by decide) he hW'
    refine ⟨_, _, _, ⟨hM, ?_, ?_, ?_⟩, c_fitN25 hW hX hv he⟩
    · exact fit_ver hW (by decide) _ _ _
    · rw [nup_eq]; exact fit_shape hW'
    · rw [nup_eq, fit_row hW]; exact KI_0 P
end
