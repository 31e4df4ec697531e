/-! THE REFERENCE: reading a thing -/
def FRd (P : pl_T) (σ σ' : aa_St) : Prop := σ'.2 = σ.2 ∧ (∀ x, x ∉ [63, 65, 66, 67, 69] → σ'.1 x = σ.1 x) ∧ (∀ k, k ∉ [18, 20] → σ'.1 63 k = σ.1 63 k) ∧ (∀ k, k < pl_n P → σ'.1 65 k = σ.1 65 k ∧ σ'.1 66 k = σ.1 66 k ∧ σ'.1 67 k = σ.1 67 k) ∧ ∀ j, j < pl_b P → σ'.1 69 j = σ.1 69 j
def RRl (P : pl_T) (tx : Nat → Nat) (n p : Nat) (m : tm_T) (i : Nat → Nat → Int32) : Prop := tR P tx n p = some m ∧ RT tx n p i ∧ i 63 20 = nI (m.2.2.2.1 - pl_b P) ∧ pl_b P ≤ m.2.2.2.1 ∧ (∀ k, k < m.2.1 → i 65 (pl_n P + k) = nI (m.2.2.1 k).1 ∧ i 66 (pl_n P + k) = nI (m.2.2.1 k).2.1 ∧ i 67 (pl_n P + k) = nI (m.2.2.1 k).2.2.1) ∧ ∀ j, j < m.2.2.2.1 → i 69 j = nI (pl_k (plL P m.2.2.1 m.2.1) j)
/-- reading stops at p -/
def FLr (P : pl_T) (tx : Nat → Nat) (n p : Nat) : Prop := (p < min n 76 ∧ tR P tx n p ≠ none ∧ tR P tx n (p + 1) = none) ∨ (p = min n 76 ∧ ∃ m, tR P tx n p = some m ∧ mayE m.1 = false)
theorem tR_s {P : pl_T} {tx : Nat → Nat} {n p : Nat} {m : tm_T} (h : tR P tx n p = some m) : tR P tx n (p + 1) = tmS (pl_n P) (tx p) (dgB tx n (p + 1)) m := by
  rw [tR] at h ⊢
  rw [tmR, h]; rfl
theorem FLr.of {P : pl_T} {tx : Nat → Nat} {n p : Nat} {m : tm_T} (h : tR P tx n p = some m) (hp : p ≤ min n 76) (h1 : p < min n 76 → tmS (pl_n P) (tx p) (dgB tx n (p + 1)) m = none) (h2 : mayE m.1 = false) : FLr P tx n p := by
  by_cases c : p < min n 76
  · exact Or.inl ⟨c, by rw [h]; simp, by rw [tR_s h]; exact h1 c⟩
  · exact Or.inr ⟨by omega, m, h, h2⟩
theorem plL_k {P : pl_T} {dt dt' : tm_D} : ∀ k, (∀ j, j < k → (dt' j).2.2.2 = (dt j).2.2.2) → pl_k (plL P dt' k) = pl_k (plL P dt k)
  | 0, _ => rfl
  | k + 1, h => by
    have ih := plL_k k (fun j hj => h j (by omega)) (P := P)
    have ib := plL_b k (fun j hj => h j (by omega)) (P := P)
    show (if (dt' k).2.2.2 then nup (pl_k (plL P dt' k)) (pl_b (plL P dt' k)) (pl_n (plL P dt' k)) else pl_k (plL P dt' k)) = (if (dt k).2.2.2 then nup (pl_k (plL P dt k)) (pl_b (plL P dt k)) (pl_n (plL P dt k)) else pl_k (plL P dt k))
    rw [ih, ib, h k (by omega), plL_n, plL_n]
theorem plL_k0 {P : pl_T} {dt : tm_D} {k : Nat} (h : (dt k).2.2.2 = false) : pl_k (plL P dt (k + 1)) = pl_k (plL P dt k) := by
  show (if (dt k).2.2.2 then _ else pl_k (plL P dt k)) = _
  rw [h]; rfl
theorem plL_k1 {P : pl_T} {dt : tm_D} {k : Nat} (h : (dt k).2.2.2 = true) : pl_k (plL P dt (k + 1)) = nup (pl_k (plL P dt k)) (pl_b (plL P dt k)) (pl_n P + k) := by
  show (if (dt k).2.2.2 then nup (pl_k (plL P dt k)) (pl_b (plL P dt k)) (pl_n (plL P dt k)) else _) = _
  rw [h, plL_n]; rfl
section
variable {P : pl_T}
theorem FRd.rf {σ : aa_St} : FRd P σ σ := ⟨rfl, fun _ _ => rfl, fun _ _ => rfl, fun _ _ => ⟨rfl, rfl, rfl⟩, fun _ _ => rfl⟩
theorem FRd.f {σ σ1 : aa_St} (h : FRd P σ σ1) {k : Nat} (hk : k ∈ [18, 20]) (x : Int32) : FRd P σ (aa_sI σ1 63 k x) := ⟨h.1, fun a ha => by
  rw [sI_ne (fun q => ha (by rw [q]; decide))]; exact h.2.1 a ha, fun j hj => by
  rw [sI_nk (show j ≠ k from fun q => hj (q ▸ hk))]; exact h.2.2.1 j hj, fun j hj => by
  rw [sI_ne (by decide), sI_ne (by decide), sI_ne (by decide)]; exact h.2.2.2.1 j hj, fun j hj => by
  rw [sI_ne (by decide)]; exact h.2.2.2.2 j hj⟩
theorem FRd.p {σ σ1 : aa_St} (h : FRd P σ σ1) {c : Nat} (hc : c = 65 ∨ c = 66 ∨ c = 67) {k : Nat} (hk : pl_n P ≤ k) (x : Int32) : FRd P σ (aa_sI σ1 c k x) := by
  refine ⟨h.1, fun a ha => ?_, fun j hj => ?_, fun j hj => ?_, fun j hj => ?_⟩
  · rw [sI_ne (fun q => ha (by rw [q]; rcases hc with rfl | rfl | rfl <;> decide))]; exact h.2.1 a ha
  · rw [sI_ne (by omega)]; exact h.2.2.1 j hj
  · have := h.2.2.2.1 j hj
    rcases hc with rfl | rfl | rfl
    · rw [sI_nk (show j ≠ k by omega), sI_ne (show (66 : Nat) ≠ 65 by decide), sI_ne (show (67 : Nat) ≠ 65 by decide)]; exact this
    · rw [sI_nk (show j ≠ k by omega), sI_ne (show (65 : Nat) ≠ 66 by decide), sI_ne (show (67 : Nat) ≠ 66 by decide)]; exact this
    · rw [sI_nk (show j ≠ k by omega), sI_ne (show (65 : Nat) ≠ 67 by decide), sI_ne (show (66 : Nat) ≠ 67 by decide)]; exact this
  · rw [sI_ne (by omega)]; exact h.2.2.2.2 j hj
theorem FRd.k {σ σ1 : aa_St} (h : FRd P σ σ1) {k : Nat} (hk : pl_b P ≤ k) (x : Int32) : FRd P σ (aa_sI σ1 69 k x) := by
  refine ⟨h.1, fun a ha => ?_, fun j hj => ?_, fun j hj => ?_, fun j hj => ?_⟩
  · rw [sI_ne (fun q => ha (by rw [q]; decide))]; exact h.2.1 a ha
  · rw [sI_ne (by decide)]; exact h.2.2.1 j hj
  · rw [sI_ne (by decide), sI_ne (by decide), sI_ne (by decide)]; exact h.2.2.2.1 j hj
  · rw [sI_nk (by omega)]; exact h.2.2.2.2 j hj
theorem FRd.W {r : Nat → Nat} {dy : List aa_Shp} {σ σ' : aa_St} (h : FRd P σ σ') (hW : aa_W r dy σ) : aa_W r dy σ' := hW.of2 (by rw [h.1])
theorem FRd.MF {σ σ' : aa_St} (h : FRd P σ σ') : MF σ σ' := ⟨by rw [h.1], fun x hx => ⟨h.2.1 x (by simp; omega), by rw [h.1]⟩⟩
end
theorem dI_inc (k : Nat) : dI k + nI 1 = nI k := by
  cases k with
  | zero => decide
  | succ k => exact nI_add k 1
theorem nI_pre (i : Nat) : nI i - nI 1 = iZ ((i : Int) - 1) := by
  rw [iZ_N, iZ_N, iZ_sub]; rfl
section
variable {r : Nat → Nat} {dy : List aa_Shp} {σ σ0 : aa_St} {P : pl_T} {tx : Nat → Nat} {n p : Nat} {m : tm_T}
/-- only the eye moves -/
theorem RRl.mv {q : Nat} {m' : tm_T} (h : RRl P tx n p m σ.1) (hq : q ≤ min n 76) (h1 : tR P tx n q = some m') (h2 : m'.2.1 = m.2.1) (h3 : m'.2.2.1 = m.2.2.1) (h4 : m'.2.2.2.1 = m.2.2.2.1) : RRl P tx n q m' (SA σ q).1 := by
  obtain ⟨-, a2, a3, a4, a5, a6⟩ := h
  have e : ∀ x, x ≠ 63 → (SA σ q).1 x = σ.1 x := fun x hx => sI_ne hx
  refine ⟨h1, a2.sa hq, by rw [h4, show (SA σ q).1 63 20 = σ.1 63 20 from sI_nk (by decide)]; exact a3, by rw [h4]; exact a4, fun k hk => ?_, fun j hj => ?_⟩
  · rw [h3, e 65 (by decide), e 66 (by decide), e 67 (by decide)]; exact a5 k (by omega)
  · rw [h3, h2, e 69 (by decide)]; exact a6 j (by omega)
theorem tw_of (ok : pl_ok P) (h : tR P tx n p = some m) (hp : p ≤ min n 76) : TW P m := (TW.R ok.1 ok.2.1 p m hp h).1
/-- a number behind ^ or , -/
theorem tR_num (hp : p ≤ min n 76) (h : tR P tx n p = some m) (h4 : m.1 = 4) (l1 : 1 ≤ m.2.1) :
    (∀ v q, nmf tx n 2 m.2.2.2.2.2 ((pl_n P + m.2.1 - 1 : Nat) - 1 : Int) p = (some v, q) → p < q ∧ q ≤ min n 76 ∧ v < pl_n P + m.2.1 - 1 ∧ tR P tx n q = some (6, m.2.1, dup m.2.2.1 (m.2.1 - 1) ((m.2.2.1 (m.2.1 - 1)).1, (m.2.2.1 (m.2.1 - 1)).2.1, (m.2.2.1 (m.2.1 - 1)).2.2.1 ||| 2 ^ v, (m.2.2.1 (m.2.1 - 1)).2.2.2), m.2.2.2.1, v, v + 1)) ∧
    (∀ q, nmf tx n 2 m.2.2.2.2.2 ((pl_n P + m.2.1 - 1 : Nat) - 1 : Int) p = (none, q) → FLr P tx n q) := by
  have st := tR_s h
  rw [tmS_4 h4] at st
  by_cases d1 : dgB tx n p = true
  · have dv := dg_v d1
    have i1 : isD (tx p) = true := isD_iff.mpr dv.2
    rw [if_pos i1] at st
    by_cases d2 : dgB tx n (p + 1) = true
    · have dv2 := dg_v d2
      rw [if_pos d2] at st
      have st2 := tR_s st
      rw [show tmS (pl_n P) (tx (p + 1)) (dgB tx n (p + 1 + 1)) (5, m.2.1, m.2.2.1, m.2.2.2.1, tx p - 48, m.2.2.2.2.2) = tmN (pl_n P) ((tx p - 48) * 10 + tx (p + 1) - 48) (5, m.2.1, m.2.2.1, m.2.2.2.1, tx p - 48, m.2.2.2.2.2) from rfl] at st2
      rw [nmf, if_pos d1, if_pos ⟨rfl, d2⟩]
      generalize hv : (tx p - 48) * 10 + tx (p + 1) - 48 = v at *
      by_cases c : m.2.2.2.2.2 ≤ v ∧ ((v : Nat) : Int) ≤ ((pl_n P + m.2.1 - 1 : Nat) - 1 : Int)
      · rw [if_pos c]
        rw [tmN, if_pos (show m.2.2.2.2.2 ≤ v ∧ v < pl_n P + m.2.1 - 1 by omega)] at st2
        refine ⟨fun w q e => ?_, fun q e => by simp at e⟩
        simp only [Prod.mk.injEq, Option.some.injEq] at e
        obtain ⟨rfl, rfl⟩ := e
        exact ⟨by omega, by omega, by omega, st2⟩
      · rw [if_neg c]
        rw [tmN, if_neg (show ¬ (m.2.2.2.2.2 ≤ v ∧ v < pl_n P + m.2.1 - 1) by omega)] at st2
        refine ⟨fun w q e => by simp at e, fun q e => ?_⟩
        simp only [Prod.mk.injEq, true_and] at e
        subst e
        exact Or.inl ⟨dv2.1, by rw [st]; simp, st2⟩
    · rw [if_neg d2] at st
      rw [nmf, if_pos d1, if_neg (fun x => d2 x.2)]
      generalize hv : tx p - 48 = v at *
      by_cases c : m.2.2.2.2.2 ≤ v ∧ ((v : Nat) : Int) ≤ ((pl_n P + m.2.1 - 1 : Nat) - 1 : Int)
      · rw [if_pos c]
        rw [tmN, if_pos (show m.2.2.2.2.2 ≤ v ∧ v < pl_n P + m.2.1 - 1 by omega)] at st
        refine ⟨fun w q e => ?_, fun q e => by simp at e⟩
        simp only [Prod.mk.injEq, Option.some.injEq] at e
        obtain ⟨rfl, rfl⟩ := e
        exact ⟨by omega, by omega, by omega, st⟩
      · rw [if_neg c]
        rw [tmN, if_neg (show ¬ (m.2.2.2.2.2 ≤ v ∧ v < pl_n P + m.2.1 - 1) by omega)] at st
        refine ⟨fun w q e => by simp at e, fun q e => ?_⟩
        simp only [Prod.mk.injEq, true_and] at e
        subst e
        exact Or.inl ⟨dv.1, by rw [h]; simp, st⟩
  · rw [nmf, if_neg d1]
    refine ⟨fun w q e => by simp at e, fun q e => ?_⟩
    simp only [Prod.mk.injEq, true_and] at e
    subst e
    refine FLr.of h hp (fun c => ?_) (by rw [h4]; rfl)
    rw [tmS_4 h4, if_neg]
    intro x
    exact d1 (by rw [dgB, decide_eq_true c, x]; rfl)
theorem m_readsOn (ok : pl_ok P) (hW : aa_W r dy σ0) (hF : FRd P σ0 σ) (hR : RRl P tx n p m σ.1) (h4 : m.1 = 4) (l1 : 1 ≤ m.2.1) (hla : m.2.2.2.2.2 = 0) : ∃ (b : Bool) (σ' : aa_St), (FRd P σ0 σ' ∧ ((b = true ∧ ∃ p' m', RRl P tx n p' m' σ'.1 ∧ m'.1 = 6 ∧ m'.2.1 = m.2.1 ∧ p < p' ∧ (p' < min n 76 → tx p' ≠ 44)) ∨ (b = false ∧ ∃ p', σ'.1 63 18 = nI p' ∧ FLr P tx n p'))) ∧ aa_SX mX12_readsOn 4 [.ref 63, .int (nI (pl_n P + m.2.1 - 1))] σ (some (.int (nI b.toNat))) σ' := by
  have loop : ∀ f p (m : tm_T) (σ : aa_St) y4, min n 76 - p < f → FRd P σ0 σ → RRl P tx n p m σ.1 → m.1 = 4 → 1 ≤ m.2.1 → aa_V mX12_readsOn 4 4 [some (.ref 63), some (.int (nI (pl_n P + m.2.1 - 1))), some (.int (dI m.2.2.2.2.2)), some (.int (nI 1)), y4] [] σ (fun ra σ' => ∃ b : Bool, ra = some (.int (nI b.toNat)) ∧ FRd P σ0 σ' ∧ ((b = true ∧ ∃ p' m', RRl P tx n p' m' σ'.1 ∧ m'.1 = 6 ∧ m'.2.1 = m.2.1 ∧ p < p' ∧ (p' < min n 76 → tx p' ≠ 44)) ∨ (b = false ∧ ∃ p', σ'.1 63 18 = nI p' ∧ FLr P tx n p'))) := by
    intro f
    induction f with
    | zero => intro p m σ y4 g1; omega
    | succ f ih =>
      intro p m σ y4 g1 hF hR h4 l1
      have hW1 := hF.W hW
      have hp := hR.2.1.2.2.2.1
      have tw := tw_of ok hR.1 hp
      have n14 := tw.2.2.1
      have la := tw.2.2.2.2.1
      obtain ⟨c1, c2⟩ := tR_num hp hR.1 h4 l1
      have hS1 := m_number hW1 hR.2.1 (dg := 2) (lo := m.2.2.2.2.2) (hi := ((pl_n P + m.2.1 - 1 : Nat) - 1 : Int)) (Or.inr rfl) (by omega) (by omega) (by omega)
      refine aa_go (aa_iload3 iX12_readsOn_4) ?_
      refine aa_go (aa_if_eqF iX12_readsOn_5 (by decide)) ?_
      refine aa_go (aa_aload0 iX12_readsOn_8) (aa_go (aa_iconst iX12_readsOn_9 ki_2) (aa_go (aa_iload2 iX12_readsOn_10) (aa_go (aa_iconst iX12_readsOn_11 ki_1) (aa_go (aa_iadd iX12_readsOn_12) ?_))))
      refine aa_go (aa_top (y := nI m.2.2.2.2.2) (dI_inc _)) ?_
      refine aa_go (aa_iload1 iX12_readsOn_13) (aa_go (aa_iconst iX12_readsOn_14 ki_1) (aa_go (aa_isub iX12_readsOn_15 ) ?_))
      refine aa_go (aa_top (y := iZ ((pl_n P + m.2.1 - 1 : Nat) - 1 : Int)) (nI_pre _)) ?_
      cases hv : nmf tx n 2 m.2.2.2.2.2 ((pl_n P + m.2.1 - 1 : Nat) - 1 : Int) p with
      | mk o q =>
        rw [hv] at hS1
        cases o with
        | none =>
          have fl := c2 q hv
          have hS2 : aa_SX mX12_number 3 [.ref 63, .int (nI 2), .int (nI m.2.2.2.2.2), .int (iZ ((pl_n P + m.2.1 - 1 : Nat) - 1 : Int))] σ (some (.int (-1))) (SA σ q) := hS1
          refine aa_go (aa_cVi iX12_readsOn_16 (hS2) (by decide) lc_X12_number lk_X12_43 (sh_63 hW1) rfl rfl (Nat.le_of_ble_eq_true rfl)) ?_
          refine aa_go (aa_istore4 iX12_readsOn_19 rfl (by decide)) (aa_go (aa_iload4 iX12_readsOn_21) ?_)
          refine aa_go (aa_if_geF iX12_readsOn_23 (by decide)) ?_
          refine aa_go (aa_iconst iX12_readsOn_26 ki_0) ?_
          refine aa_zretF iX12_readsOn_27 rfl ?_
          exact ⟨false, rfl, hF.f (by decide) _, Or.inr ⟨rfl, q, sI_eq, fl⟩⟩
        | some v =>
          obtain ⟨e1, e2, e3, e4⟩ := c1 v q hv
          have hS2 : aa_SX mX12_number 3 [.ref 63, .int (nI 2), .int (nI m.2.2.2.2.2), .int (iZ ((pl_n P + m.2.1 - 1 : Nat) - 1 : Int))] σ (some (.int (nI v))) (SA σ q) := hS1
          have hW2 : aa_W r dy (SA σ q) := hW1.sI _ _ _
          have hF2 : FRd P σ0 (SA σ q) := hF.f (by decide) _
          have hl : (SA σ q).1 67 (pl_n P + m.2.1 - 1) = nI (m.2.2.1 (m.2.1 - 1)).2.2.1 := by
            rw [show (SA σ q).1 67 = σ.1 67 from sI_ne (by decide), show pl_n P + m.2.1 - 1 = pl_n P + (m.2.1 - 1) by omega]
            exact (hR.2.2.2.2.1 (m.2.1 - 1) (by omega)).2.2
          have hF3 := hF2.p (c := 67) (by decide) (k := pl_n P + m.2.1 - 1) (by omega) (nI ((m.2.2.1 (m.2.1 - 1)).2.2.1 ||| 2 ^ v))
          have hW3 := hF3.W hW
          have hR3 : RRl P tx n q (6, m.2.1, dup m.2.2.1 (m.2.1 - 1) ((m.2.2.1 (m.2.1 - 1)).1, (m.2.2.1 (m.2.1 - 1)).2.1, (m.2.2.1 (m.2.1 - 1)).2.2.1 ||| 2 ^ v, (m.2.2.1 (m.2.1 - 1)).2.2.2), m.2.2.2.1, v, v + 1) (aa_sI (SA σ q) 67 (pl_n P + m.2.1 - 1) (nI ((m.2.2.1 (m.2.1 - 1)).2.2.1 ||| 2 ^ v))).1 := by
            obtain ⟨-, a2, a3, a4, a5, a6⟩ := hR
            refine ⟨e4, (a2.sa e2).fr (by rw [sI_ne (by decide)]) (by rw [sI_ne (by decide)]) (by rw [sI_ne (by decide)]), ?_, a4, fun k hk => ?_, fun j hj => ?_⟩
            · rw [sI_ne (by decide), show (SA σ q).1 63 20 = σ.1 63 20 from sI_nk (by decide)]; exact a3
            · have b := a5 k hk
              dsimp only at hk ⊢
              rw [sI_ne (show (65 : Nat) ≠ 67 by decide), sI_ne (show (66 : Nat) ≠ 67 by decide), show (SA σ q).1 65 = σ.1 65 from sI_ne (by decide), show (SA σ q).1 66 = σ.1 66 from sI_ne (by decide)]
              by_cases ck : k = m.2.1 - 1
              · rw [ck] at b ⊢
                rw [dup_eq]
                refine ⟨b.1, b.2.1, ?_⟩
                rw [show pl_n P + (m.2.1 - 1) = pl_n P + m.2.1 - 1 by omega, sI_eq]
              · rw [dup_ne ck, sI_nk (by omega), show (SA σ q).1 67 = σ.1 67 from sI_ne (by decide)]
                exact b
            · dsimp only at hj ⊢
              rw [sI_ne (by decide), show (SA σ q).1 69 = σ.1 69 from sI_ne (by decide), a6 j hj]
              have fl : ∀ k, k < m.2.1 → ((dup m.2.2.1 (m.2.1 - 1) ((m.2.2.1 (m.2.1 - 1)).1, (m.2.2.1 (m.2.1 - 1)).2.1, (m.2.2.1 (m.2.1 - 1)).2.2.1 ||| 2 ^ v, (m.2.2.1 (m.2.1 - 1)).2.2.2)) k).2.2.2 = (m.2.2.1 k).2.2.2 := by
                intro k _
                by_cases ck : k = m.2.1 - 1
                · rw [ck, dup_eq]
                · rw [dup_ne ck]
              rw [plL_k m.2.1 fl]
          have hS3 := m_takes hW3 hR3.2.1 (s := 44) (by omega)
          have v30 : v < 30 := by omega
          have fin : ∀ b : Bool, tkB tx n q 44 = b → aa_V mX12_readsOn 4 4 [some (.ref 63), some (.int (nI (pl_n P + m.2.1 - 1))), some (.int (nI v)), some (.int (nI b.toNat)), some (.int (nI v))] [] (SA (aa_sI (SA σ q) 67 (pl_n P + m.2.1 - 1) (nI ((m.2.2.1 (m.2.1 - 1)).2.2.1 ||| 2 ^ v))) (q + b.toNat)) (fun ra σ' => ∃ b : Bool, ra = some (.int (nI b.toNat)) ∧ FRd P σ0 σ' ∧ ((b = true ∧ ∃ p' m', RRl P tx n p' m' σ'.1 ∧ m'.1 = 6 ∧ m'.2.1 = m.2.1 ∧ p < p' ∧ (p' < min n 76 → tx p' ≠ 44)) ∨ (b = false ∧ ∃ p', σ'.1 63 18 = nI p' ∧ FLr P tx n p'))) := by
            intro b hb
            cases b with
            | false =>
              have hsa : SA (aa_sI (SA σ q) 67 (pl_n P + m.2.1 - 1) (nI ((m.2.2.1 (m.2.1 - 1)).2.2.1 ||| 2 ^ v))) (q + false.toNat) = aa_sI (SA σ q) 67 (pl_n P + m.2.1 - 1) (nI ((m.2.2.1 (m.2.1 - 1)).2.2.1 ||| 2 ^ v)) := SA_id hR3.2.1.1
              rw [hsa]
              refine aa_go (aa_iload3 iX12_readsOn_4) ?_
              refine aa_go (aa_if_eqT iX12_readsOn_5 (by decide)) ?_
              refine aa_go (aa_iconst iX12_readsOn_54 ki_1) ?_
              refine aa_zretT iX12_readsOn_55 rfl ?_
              refine ⟨true, rfl, hF3, Or.inl ⟨rfl, q, _, hR3, rfl, rfl, e1, fun c x => ?_⟩⟩
              rw [tkB, decide_eq_true c, decide_eq_true x] at hb
              exact absurd hb (by decide)
            | true =>
              have tk : q < min n 76 ∧ tx q = 44 := by
                rw [tkB, Bool.and_eq_true, decide_eq_true_eq, decide_eq_true_eq] at hb
                exact hb
              have st := tR_s e4
              rw [tk.2] at st
              have st : tR P tx n (q + 1) = some (4, m.2.1, dup m.2.2.1 (m.2.1 - 1) ((m.2.2.1 (m.2.1 - 1)).1, (m.2.2.1 (m.2.1 - 1)).2.1, (m.2.2.1 (m.2.1 - 1)).2.2.1 ||| 2 ^ v, (m.2.2.1 (m.2.1 - 1)).2.2.2), m.2.2.2.1, v, v + 1) := st
              have hR4 := hR3.mv (q := q + 1) (by omega) st rfl rfl rfl
              obtain ⟨ra, σ', ⟨b, q1, q2, q3⟩, hV⟩ := ih (q + 1) _ _ (some (.int (nI v))) (by omega) (hF3.f (by decide) _) hR4 rfl l1
              refine ⟨ra, σ', ⟨b, q1, q2, ?_⟩, hV⟩
              rcases q3 with ⟨x1, p', m', x2, x3, x4, x5, x6⟩ | q3
              · exact Or.inl ⟨x1, p', m', x2, x3, x4, by omega, x6⟩
              · exact Or.inr q3
          refine aa_go (aa_cVi iX12_readsOn_16 (hS2) (by decide) lc_X12_number lk_X12_43 (sh_63 hW1) rfl rfl (Nat.le_of_ble_eq_true rfl)) ?_
          refine aa_go (aa_istore4 iX12_readsOn_19 rfl (by decide)) (aa_go (aa_iload4 iX12_readsOn_21) ?_)
          refine aa_go (aa_if_geN iX12_readsOn_23 (by omega)) ?_
          refine aa_go (aa_aload0 iX12_readsOn_28) (aa_go (aa_getR iX12_readsOn_29 fl_X12_47 (sh_63 hW2) rfl) (aa_go (aa_iload1 iX12_readsOn_32) (aa_go (aa_dup2 iX12_readsOn_33 rfl rfl) (aa_go (aa_ialE iX12_readsOn_34 (sh_67 hW2) (by omega) (by omega) (hl)) (aa_go (aa_iconst iX12_readsOn_35 ki_1) (aa_go (aa_iload4 iX12_readsOn_36) (aa_go (aa_ishlN iX12_readsOn_38 (by omega)) ?_)))))))
          refine aa_go (aa_iorN iX12_readsOn_39 ) ?_
          refine aa_go (aa_top (y := nI ((m.2.2.1 (m.2.1 - 1)).2.2.1 ||| 2 ^ v)) (by rw [Nat.one_shiftLeft])) ?_
          refine aa_go (aa_iasN iX12_readsOn_40 (sh_67 hW2) (by omega) (by omega)) ?_
          refine aa_go (aa_iload4 iX12_readsOn_41) (aa_go (aa_istore2 iX12_readsOn_43 rfl (by decide)) (aa_go (aa_aload0 iX12_readsOn_44) (aa_go (aa_bipush iX12_readsOn_45 kb_44) (aa_go (aa_cVi iX12_readsOn_47 (hS3) (by decide) lc_X12_takes lk_X12_50 (sh_63 hW3) rfl rfl (Nat.le_of_ble_eq_true rfl)) (aa_go (aa_istore3 iX12_readsOn_50 rfl (by decide)) (aa_go (aa_goto iX12_readsOn_51) ?_))))))
          exact fin _ rfl
  have key : aa_V mX12_readsOn 4 0 [some (.ref 63), some (.int (nI (pl_n P + m.2.1 - 1))), none, none, none] [] σ (fun ra σ' => ∃ b : Bool, ra = some (.int (nI b.toNat)) ∧ FRd P σ0 σ' ∧ ((b = true ∧ ∃ p' m', RRl P tx n p' m' σ'.1 ∧ m'.1 = 6 ∧ m'.2.1 = m.2.1 ∧ p < p' ∧ (p' < min n 76 → tx p' ≠ 44)) ∨ (b = false ∧ ∃ p', σ'.1 63 18 = nI p' ∧ FLr P tx n p'))) := by
    have lp := loop (min n 76 - p + 1) p m σ none (by omega) hF hR h4 l1
    rw [hla] at lp
    refine aa_go (aa_iconst iX12_readsOn_0 ki_m1) (aa_go (aa_istore2 iX12_readsOn_1 rfl (by decide)) (aa_go (aa_iconst iX12_readsOn_2 ki_1) (aa_go (aa_istore3 iX12_readsOn_3 rfl (by decide)) ?_)))
    exact lp
  obtain ⟨ra, σ', ⟨b, rfl, h9⟩, hS9⟩ := aa_S_of (avs := [.ref 63, .int (nI (pl_n P + m.2.1 - 1))]) (by decide) 3 [some (.ref 63), some (.int (nI (pl_n P + m.2.1 - 1))), none, none, none] rfl rfl key
  exact ⟨b, σ', h9, hS9⟩
end
