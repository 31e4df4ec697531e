/-! THE REFERENCE: reading a thing, whole -/
def RTh (P : pl_T) (tx : Nat → Nat) (n l p : Nat) (σ0 : aa_St) (b : Bool) (σ' : aa_St) : Prop := FRd P σ0 σ' ∧ ((b = true ∧ ∃ p' m', RRl P tx n p' m' σ'.1 ∧ mayE m'.1 = true ∧ m'.2.1 = l + 1 ∧ p < p' ∧ (p' < min n 76 → tx p' ≠ 59 → tR P tx n (p' + 1) = none) ∧ (p' < min n 76 → tx p' = 59 → tR P tx n (p' + 1) = some (0, m'.2))) ∨ (b = false ∧ ∃ p', p' ≤ min n 76 ∧ σ'.1 63 18 = nI p' ∧ FLr P tx n p'))
theorem FLr.le {P : pl_T} {tx : Nat → Nat} {n p : Nat} (h : FLr P tx n p) : p ≤ min n 76 := by
  rcases h with h | h
  · omega
  · omega
section
variable {r : Nat → Nat} {dy : List aa_Shp} {σ σ0 : aa_St} {P : pl_T} {tx : Nat → Nat} {n p : Nat} {m : tm_T}
theorem th_fin (ok : pl_ok P) (hW : aa_W r dy σ0) (hb : σ0.1 63 8 = nI (pl_b P)) (hF : FRd P σ0 σ) {l p1 d : Nat} (hR : RRl P tx n p1 m σ.1) (h3 : (m.1 = 3 ∧ d = 94) ∨ (m.1 = 6 ∧ d = 44)) (hd : p1 < min n 76 → tx p1 ≠ d) (hl : m.2.1 = l + 1) (hp : p < p1) : aa_V mX12_readsThing 5 93 [some (.ref 63), some (.int (nI (pl_n P + l)))] [] σ (fun ra σ' => ∃ b : Bool, ra = some (.int (nI b.toNat)) ∧ RTh P tx n l p σ0 b σ') := by
  have hW1 := hF.W hW
  have p76 := hR.2.1.2.2.2.1
  have tw := tw_of ok hR.1 p76
  have n14 := tw.2.2.1
  have b2 := tw.2.2.2.2.2.2.1
  have bb := hR.2.2.2.1
  have hb1 : σ.1 63 8 = nI (pl_b P) := by rw [hF.2.2.1 8 (by decide)]; exact hb
  have st : p1 < min n 76 → tR P tx n (p1 + 1) = tmB (tx p1) m := by
    intro c
    rw [tR_s hR.1]
    rcases h3 with ⟨a, b⟩ | ⟨a, b⟩
    · rw [tmS, a]; show tmO _ 94 _ = _; rw [tmO, if_neg (by have := hd c; omega)]
    · rw [tmS, a]; show tmO _ 44 _ = _; rw [tmO, if_neg (by have := hd c; omega)]
  have m1 : mayE m.1 = true := by rcases h3 with ⟨a, b⟩ | ⟨a, b⟩ <;> rw [a] <;> rfl
  have no : (m.2.2.2.1 < 2 → p1 < min n 76 → tx p1 ≠ 114) → RTh P tx n l p σ0 true σ := by
    intro q
    refine ⟨hF, Or.inl ⟨rfl, p1, m, hR, m1, hl, hp, fun c x => ?_, fun c x => ?_⟩⟩
    · rw [st c, tmB]
      by_cases e : tx p1 = 114
      · rw [if_pos e, if_neg (fun y => q y c e)]
      · rw [if_neg e, tmE, if_neg x]
    · rw [st c, tmB, if_neg (by omega), tmE, if_pos x]
  refine aa_go (aa_aload0 iX12_readsThing_93) (aa_go (aa_getE iX12_readsThing_94 fl_X12_63 (sh_63 hW1) rfl hb1) (aa_go (aa_aload0 iX12_readsThing_97) (aa_go (aa_getE iX12_readsThing_98 fl_X12_66 (sh_63 hW1) rfl hR.2.2.1) (aa_go (aa_iaddN iX12_readsThing_101 ) (aa_go (aa_iconst iX12_readsThing_102 ki_2) ?_)))))
  refine aa_ic_geN iX12_readsThing_103 (by omega) (by omega) (fun g1 => ?_) (fun g1 => ?_)
  · skip
    refine aa_go (aa_iconst iX12_readsThing_140 ki_1) ?_
    refine aa_zretT iX12_readsThing_141 rfl ?_
    exact ⟨true, rfl, no (fun q => by omega)⟩
  · skip
    have hS := m_takes hW1 hR.2.1 (s := 114) (by omega)
    have fin : ∀ b : Bool, tkB tx n p1 114 = b → aa_V mX12_readsThing 5 112 [some (.ref 63), some (.int (nI (pl_n P + l)))] [.int (nI b.toNat)] (SA σ (p1 + b.toNat)) (fun ra σ' => ∃ b : Bool, ra = some (.int (nI b.toNat)) ∧ RTh P tx n l p σ0 b σ') := by
      intro b hb9
      cases b with
      | false =>
        have hsa : SA σ (p1 + false.toNat) = σ := SA_id hR.2.1.1
        rw [hsa]
        refine aa_go (aa_if_eqT iX12_readsThing_112 (by decide)) ?_
        refine aa_go (aa_iconst iX12_readsThing_140 ki_1) ?_
        refine aa_zretT iX12_readsThing_141 rfl ?_
        refine ⟨true, rfl, no (fun q c x => ?_)⟩
        rw [tkB, decide_eq_true c, decide_eq_true x] at hb9
        exact absurd hb9 (by decide)
      | true =>
        have tk : p1 < min n 76 ∧ tx p1 = 114 := by
          rw [tkB, Bool.and_eq_true, decide_eq_true_eq, decide_eq_true_eq] at hb9
          exact hb9
        have s7 := st tk.1
        rw [tmB, if_pos tk.2, if_pos (by omega), hl, Nat.add_sub_cancel] at s7
        have hF1 : FRd P σ0 (SA σ (p1 + 1)) := hF.f (by decide) _
        have hF2 := hF1.k (k := pl_b P + (m.2.2.2.1 - pl_b P)) (by omega) (nI (pl_n P + l))
        have hF3 := hF2.f (k := 20) (by decide) (nI (m.2.2.2.1 - pl_b P + 1))
        have e20 : (SA σ (p1 + 1)).1 63 20 = nI (m.2.2.2.1 - pl_b P) := by rw [show (SA σ (p1 + 1)).1 63 20 = σ.1 63 20 from sI_nk (by decide)]; exact hR.2.2.1
        have e8 : (SA σ (p1 + 1)).1 63 8 = nI (pl_b P) := by rw [show (SA σ (p1 + 1)).1 63 8 = σ.1 63 8 from sI_nk (by decide)]; exact hb1
        have hR7 : RRl P tx n (p1 + 1) (7, l + 1, dup m.2.2.1 l ((m.2.2.1 l).1, (m.2.2.1 l).2.1, (m.2.2.1 l).2.2.1, true), m.2.2.2.1 + 1, m.2.2.2.2) (aa_sI (aa_sI (SA σ (p1 + 1)) 69 (pl_b P + (m.2.2.2.1 - pl_b P)) (nI (pl_n P + l))) 63 20 (nI (m.2.2.2.1 - pl_b P + 1))).1 := by
          obtain ⟨-, a2, a3, a4, a5, a6⟩ := hR
          have ft : (m.2.2.1 l).2.2.2 = false := by
            have := tw.2.2.2.2.2.2.2.1 (by rcases h3 with ⟨a, b⟩ | ⟨a, b⟩ <;> omega) (by rcases h3 with ⟨a, b⟩ | ⟨a, b⟩ <;> omega)
            rw [hl, Nat.add_sub_cancel] at this; exact this
          have eb := tw.2.2.2.2.2.1
          rw [hl, plL, pl_add_b, ft] at eb
          have eb : m.2.2.2.1 = pl_b (plL P m.2.2.1 l) := eb
          refine ⟨s7, (a2.sa (q := p1 + 1) (by omega)).fr (by rw [sI_nk (by decide), sI_ne (by decide)]) (by rw [sI_nk (by decide), sI_ne (by decide)]) (by rw [sI_ne (by decide), sI_ne (by decide)]), ?_, by dsimp only; omega, fun k hk => ?_, fun j hj => ?_⟩
          · rw [sI_eq]; dsimp only; congr 1; omega
          · dsimp only at hk ⊢
            have b := a5 k (by omega)
            rw [sI_ne (by decide), sI_ne (by decide), sI_ne (by decide), sI_ne (by decide), sI_ne (by decide), sI_ne (by decide), show (SA σ (p1 + 1)).1 65 = σ.1 65 from sI_ne (by decide), show (SA σ (p1 + 1)).1 66 = σ.1 66 from sI_ne (by decide), show (SA σ (p1 + 1)).1 67 = σ.1 67 from sI_ne (by decide)]
            by_cases ck : k = l
            · rw [ck] at b ⊢
              rw [dup_eq]; exact b
            · rw [dup_ne ck]; exact b
          · dsimp only at hj ⊢
            have fl : ∀ k, k < l → ((dup m.2.2.1 l ((m.2.2.1 l).1, (m.2.2.1 l).2.1, (m.2.2.1 l).2.2.1, true)) k).2.2.2 = (m.2.2.1 k).2.2.2 := fun k hk => by rw [dup_ne (by omega)]
            rw [plL_k1 (by rw [dup_eq]), plL_k l fl, plL_b l fl, ← eb]
            rw [sI_ne (by decide), show pl_b P + (m.2.2.2.1 - pl_b P) = m.2.2.2.1 by omega]
            by_cases cj : j = m.2.2.2.1
            · rw [cj, sI_eq, nup_eq]
            · rw [sI_nk cj, nup_ne cj, show (SA σ (p1 + 1)).1 69 = σ.1 69 from sI_ne (by decide), a6 j (by omega), hl, plL_k0 ft]
        refine aa_go (aa_if_eqF iX12_readsThing_112 (by decide)) ?_
        refine aa_go (aa_aload0 iX12_readsThing_115) (aa_go (aa_getR iX12_readsThing_116 fl_X12_69 (sh_63 (hF1.W hW)) rfl) (aa_go (aa_aload0 iX12_readsThing_119) (aa_go (aa_getE iX12_readsThing_120 fl_X12_63 (sh_63 (hF1.W hW)) rfl e8) (aa_go (aa_aload0 iX12_readsThing_123) (aa_go (aa_getE iX12_readsThing_124 fl_X12_66 (sh_63 (hF1.W hW)) rfl e20) (aa_go (aa_iaddN iX12_readsThing_127 ) (aa_go (aa_iload1 iX12_readsThing_128) ?_)))))))
        refine aa_go (aa_iasN iX12_readsThing_129 (sh_69 (hF1.W hW)) (by omega) (by omega)) ?_
        refine aa_go (aa_aload0 iX12_readsThing_130) (aa_go (aa_dup iX12_readsThing_131 rfl) (aa_go (aa_getE iX12_readsThing_132 fl_X12_66 (sh_63 (hF2.W hW)) rfl (by rw [sI_ne (by decide)]; exact e20)) (aa_go (aa_iconst iX12_readsThing_135 ki_1) (aa_go (aa_iaddN iX12_readsThing_136 ) (aa_go (aa_putI iX12_readsThing_137 fl_X12_66 (fun h => nomatch h) (sh_63 (hF2.W hW)) rfl ⟨rfl, rfl⟩) (aa_go (aa_iconst iX12_readsThing_140 ki_1) ?_))))))
        refine aa_zretT iX12_readsThing_141 rfl ?_
        refine ⟨true, rfl, hF3, Or.inl ⟨rfl, p1 + 1, _, hR7, rfl, rfl, by omega, fun c x => ?_, fun c x => ?_⟩⟩
        · rw [tR_s s7]
          show tmE _ _ = _
          rw [tmE, if_neg x]
        · rw [tR_s s7]
          show tmE _ _ = _
          rw [tmE, if_pos x]
    refine aa_go (aa_aload0 iX12_readsThing_106) (aa_go (aa_bipush iX12_readsThing_107 kb_114) (aa_go (aa_cVi iX12_readsThing_109 (hS) (by decide) lc_X12_takes lk_X12_50 (sh_63 hW1) rfl rfl (Nat.le_of_ble_eq_true rfl)) ?_))
    exact fin _ rfl
theorem m_readsThing (ok : pl_ok P) (hW : aa_W r dy σ0) (hb : σ0.1 63 8 = nI (pl_b P)) (hF : FRd P σ0 σ) (hR : RRl P tx n p m σ.1) (h0 : m.1 = 0) : ∃ (b : Bool) (σ' : aa_St), RTh P tx n m.2.1 p σ0 b σ' ∧ aa_SX mX12_readsThing 5 [.ref 63, .int (nI (pl_n P + m.2.1))] σ (some (.int (nI b.toNat))) σ' := by
  have hW1 := hF.W hW
  have hp := hR.2.1.2.2.2.1
  have tw := tw_of ok hR.1 hp
  have n14 := tw.2.2.1
  generalize hl : m.2.1 = l at *
  have s0 : ∀ c g, tmS (pl_n P) c g m = if isD c = true ∧ pl_n P + l < 14 then some (1, l + 1, dup m.2.2.1 l (c - 48, 0, 0, false), m.2.2.2.1, m.2.2.2.2.1, 0) else none := by
    intro c g
    rw [tmS, h0, ← hl]; rfl
  have key : aa_V mX12_readsThing 5 0 [some (.ref 63), some (.int (nI (pl_n P + l)))] [] σ (fun ra σ' => ∃ b : Bool, ra = some (.int (nI b.toNat)) ∧ RTh P tx n l p σ0 b σ') := by
    have hS1 : aa_SX mX12_number 3 [.ref 63, .int (nI 1), .int (nI 0), .int (nI 9)] σ (some (.int (oI (nmf tx n 1 0 9 p).1))) (SA σ (nmf tx n 1 0 9 p).2) := m_number hW1 hR.2.1 (hi := 9) (Or.inl rfl) (by omega) (by omega) (by omega)
    refine aa_go (aa_iload1 iX12_readsThing_0) (aa_go (aa_bipush iX12_readsThing_1 kb_14) ?_)
    refine aa_ic_ltN iX12_readsThing_3 (by omega) (by omega) (fun g1 => ?_) (fun g1 => ?_)
    · skip
      by_cases d1 : dgB tx n p = true
      · have dv := dg_v d1
        have e1 : nmf tx n 1 0 9 p = (some (tx p - 48), p + 1) := by
          rw [nmf, if_pos d1, if_neg (fun x => absurd x.1 (by decide)), if_pos ⟨by omega, by omega⟩]
        rw [e1] at hS1
        have hS1 : aa_SX mX12_number 3 [.ref 63, .int (nI 1), .int (nI 0), .int (nI 9)] σ (some (.int (nI (tx p - 48)))) (SA σ (p + 1)) := hS1
        have st1 := tR_s hR.1
        rw [s0, if_pos ⟨isD_iff.mpr dv.2, g1⟩] at st1
        have hFa : FRd P σ0 (SA σ (p + 1)) := hF.f (by decide) _
        have hFb := hFa.p (c := 65) (by decide) (k := pl_n P + l) (by omega) (nI (tx p - 48))
        have hTb : RT tx n (p + 1) (aa_sI (SA σ (p + 1)) 65 (pl_n P + l) (nI (tx p - 48))).1 := (hR.2.1.sa (by omega)).fr (by rw [sI_ne (by decide)]) (by rw [sI_ne (by decide)]) (by rw [sI_ne (by decide)])
        have hS2 := m_takes (hFb.W hW) hTb (s := 58) (by omega)
        -- behind the colon: 42
        have col : tkB tx n (p + 1) 58 = true → aa_V mX12_readsThing 5 42 [some (.ref 63), some (.int (nI (pl_n P + l)))] [] (SA (aa_sI (SA σ (p + 1)) 65 (pl_n P + l) (nI (tx p - 48))) (p + 2)) (fun ra σ' => ∃ b : Bool, ra = some (.int (nI b.toNat)) ∧ RTh P tx n l p σ0 b σ') := by
          intro hk
          have tk : p + 1 < min n 76 ∧ tx (p + 1) = 58 := by
            rw [tkB, Bool.and_eq_true, decide_eq_true_eq, decide_eq_true_eq] at hk
            exact hk
          have st2 := tR_s st1
          have st2 : tR P tx n (p + 2) = some (2, l + 1, dup m.2.2.1 l (tx p - 48, 0, 0, false), m.2.2.2.1, m.2.2.2.2.1, 0) := by
            rw [st2, tmS]
            show (if tx (p + 1) = 58 then _ else _) = _
            rw [if_pos tk.2]
          have hFc : FRd P σ0 (SA (aa_sI (SA σ (p + 1)) 65 (pl_n P + l) (nI (tx p - 48))) (p + 2)) := hFb.f (by decide) _
          have hTc := hTb.sa (q := p + 2) (by omega)
          have hS3 : aa_SX mX12_number 3 [.ref 63, .int (nI 1), .int (nI 1), .int (nI 7)] _ (some (.int (oI (nmf tx n 1 1 7 (p + 2)).1))) (SA _ (nmf tx n 1 1 7 (p + 2)).2) := m_number (hFc.W hW) hTc (hi := 7) (Or.inl rfl) (by omega) (by omega) (by omega)
          by_cases d2 : dgB tx n (p + 2) = true ∧ 1 ≤ tx (p + 2) - 48 ∧ tx (p + 2) - 48 ≤ 7
          · have dv2 := dg_v d2.1
            have e3 : nmf tx n 1 1 7 (p + 2) = (some (tx (p + 2) - 48), p + 3) := by
              rw [nmf, if_pos d2.1, if_neg (fun x => absurd x.1 (by decide)), if_pos ⟨d2.2.1, by omega⟩]
            rw [e3] at hS3
            have hS3 : aa_SX mX12_number 3 [.ref 63, .int (nI 1), .int (nI 1), .int (nI 7)] _ (some (.int (nI (tx (p + 2) - 48)))) (SA (SA (aa_sI (SA σ (p + 1)) 65 (pl_n P + l) (nI (tx p - 48))) (p + 2)) (p + 3)) := hS3
            have st3 := tR_s st2
            have st3 : tR P tx n (p + 3) = some (3, l + 1, dup (dup m.2.2.1 l (tx p - 48, 0, 0, false)) l (tx p - 48, tx (p + 2) - 48, 0, false), m.2.2.2.1, m.2.2.2.2.1, 0) := by
              rw [st3, tmS]
              show (if 49 ≤ tx (p + 2) ∧ tx (p + 2) ≤ 55 then some (3, l + 1, dup (dup m.2.2.1 l (tx p - 48, 0, 0, false)) (l + 1 - 1) (((dup m.2.2.1 l (tx p - 48, 0, 0, false)) (l + 1 - 1)).1, tx (p + 2) - 48, ((dup m.2.2.1 l (tx p - 48, 0, 0, false)) (l + 1 - 1)).2.2.1, ((dup m.2.2.1 l (tx p - 48, 0, 0, false)) (l + 1 - 1)).2.2.2), _) else none) = _
              rw [if_pos (by omega), Nat.add_sub_cancel, dup_eq]
            rw [SA_SA] at hS3
            generalize hD : dup (dup m.2.2.1 l (tx p - 48, 0, 0, false)) l (tx p - 48, tx (p + 2) - 48, 0, false) = D at st3
            have hD1 : ∀ k, k < l → D k = m.2.2.1 k := fun k hk => by rw [← hD, dup_ne (by omega), dup_ne (by omega)]
            have hD2 : D l = (tx p - 48, tx (p + 2) - 48, 0, false) := by rw [← hD, dup_eq]
            have hFd : FRd P σ0 (SA (aa_sI (SA σ (p + 1)) 65 (pl_n P + l) (nI (tx p - 48))) (p + 3)) := hFb.f (by decide) _
            have hFe := hFd.p (c := 66) (by decide) (k := pl_n P + l) (by omega) (nI (tx (p + 2) - 48))
            have hFf := hFe.p (c := 67) (by decide) (k := pl_n P + l) (by omega) (nI 0)
            have hR3 : RRl P tx n (p + 3) (3, l + 1, D, m.2.2.2.1, m.2.2.2.2.1, 0) (aa_sI (aa_sI (SA (aa_sI (SA σ (p + 1)) 65 (pl_n P + l) (nI (tx p - 48))) (p + 3)) 66 (pl_n P + l) (nI (tx (p + 2) - 48))) 67 (pl_n P + l) (nI 0)).1 := by
              obtain ⟨-, a2, a3, a4, a5, a6⟩ := hR
              refine ⟨st3, (hTb.sa (q := p + 3) (by omega)).fr (by rw [sI_ne (by decide), sI_ne (by decide)]) (by rw [sI_ne (by decide), sI_ne (by decide)]) (by rw [sI_ne (by decide), sI_ne (by decide)]), ?_, a4, fun k hk => ?_, fun j hj => ?_⟩
              · rw [sI_ne (by decide), sI_ne (by decide), show ∀ s : aa_St, (SA s (p + 3)).1 63 20 = s.1 63 20 from fun s => sI_nk (by decide), sI_ne (by decide), show ∀ s : aa_St, (SA s (p + 1)).1 63 20 = s.1 63 20 from fun s => sI_nk (by decide)]; exact a3
              · dsimp only at hk ⊢
                have q : ∀ (s : aa_St) (t x : Nat), x ≠ 63 → (SA s t).1 x = s.1 x := fun s t x hx => sI_ne hx
                rw [sI_ne (show (65 : Nat) ≠ 67 by decide), sI_ne (show (65 : Nat) ≠ 66 by decide), sI_ne (show (66 : Nat) ≠ 67 by decide), q _ _ 65 (by decide)]
                by_cases ck : k = l
                · rw [ck, hD2, sI_eq, sI_eq, sI_eq]; exact ⟨rfl, rfl, rfl⟩
                · have b := a5 k (by omega)
                  rw [sI_nk (by omega), sI_nk (by omega), sI_nk (by omega), sI_ne (show (67 : Nat) ≠ 66 by decide), q _ _ 65 (by decide), q _ _ 66 (by decide), q _ _ 67 (by decide), sI_ne (show (66 : Nat) ≠ 65 by decide), sI_ne (show (67 : Nat) ≠ 65 by decide), q _ _ 66 (by decide), q _ _ 67 (by decide), hD1 k (by omega)]
                  exact b
              · dsimp only at hj ⊢
                rw [plL_k0 (by rw [hD2]), plL_k l (dt := m.2.2.1) (fun k hk => by rw [hD1 k hk])]
                have q : ∀ (s : aa_St) (t x : Nat), x ≠ 63 → (SA s t).1 x = s.1 x := fun s t x hx => sI_ne hx
                rw [sI_ne (by decide), sI_ne (by decide), q _ _ 69 (by decide), sI_ne (by decide), q _ _ 69 (by decide), a6 j hj, hl]
            have hS4 := m_takes (hFf.W hW) hR3.2.1 (s := 94) (by omega)
            have fin : ∀ b : Bool, tkB tx n (p + 3) 94 = b → aa_V mX12_readsThing 5 80 [some (.ref 63), some (.int (nI (pl_n P + l)))] [.int (nI b.toNat)] (SA (aa_sI (aa_sI (SA (aa_sI (SA σ (p + 1)) 65 (pl_n P + l) (nI (tx p - 48))) (p + 3)) 66 (pl_n P + l) (nI (tx (p + 2) - 48))) 67 (pl_n P + l) (nI 0)) (p + 3 + b.toNat)) (fun ra σ' => ∃ b : Bool, ra = some (.int (nI b.toNat)) ∧ RTh P tx n l p σ0 b σ') := by
              intro b hb9
              cases b with
              | false =>
                rw [show SA (aa_sI (aa_sI (SA (aa_sI (SA σ (p + 1)) 65 (pl_n P + l) (nI (tx p - 48))) (p + 3)) 66 (pl_n P + l) (nI (tx (p + 2) - 48))) 67 (pl_n P + l) (nI 0)) (p + 3 + false.toNat) = _ from SA_id hR3.2.1.1]
                have tf := th_fin ok hW hb hFf (l := l) (p := p) (d := 94) hR3 (Or.inl ⟨rfl, rfl⟩) (fun c x => by
                  rw [tkB, decide_eq_true c, decide_eq_true x] at hb9
                  exact absurd hb9 (by decide)) rfl (by omega)
                refine aa_go (aa_if_eqT iX12_readsThing_80 (by decide)) ?_
                exact tf
              | true =>
                have tk4 : p + 3 < min n 76 ∧ tx (p + 3) = 94 := by
                  rw [tkB, Bool.and_eq_true, decide_eq_true_eq, decide_eq_true_eq] at hb9
                  exact hb9
                have st4 := tR_s st3
                rw [tk4.2] at st4
                have st4 : tR P tx n (p + 4) = some (4, l + 1, D, m.2.2.2.1, m.2.2.2.2.1, 0) := st4
                have hFg := hFf.f (k := 18) (by decide) (nI (p + 4))
                have hR4 := hR3.mv (q := p + 4) (by omega) st4 rfl rfl rfl
                obtain ⟨b5, σ5, ⟨hF5, h5⟩, hS5⟩ := m_readsOn ok hW hFg hR4 rfl (by dsimp only; omega) rfl
                dsimp only at h5 hS5
                rw [show pl_n P + (l + 1) - 1 = pl_n P + l by omega] at hS5
                have fin5 : aa_V mX12_readsThing 5 88 [some (.ref 63), some (.int (nI (pl_n P + l)))] [.int (nI b5.toNat)] σ5 (fun ra σ' => ∃ b : Bool, ra = some (.int (nI b.toNat)) ∧ RTh P tx n l p σ0 b σ') := by
                  rcases h5 with ⟨rfl, p', m', x1, x2, x3, x4, x5⟩ | ⟨rfl, p', x1, x2⟩
                  · have tf := th_fin ok hW hb hF5 (l := l) (p := p) (d := 44) x1 (Or.inr ⟨x2, rfl⟩) x5 x3 (by omega)
                    refine aa_go (aa_if_neT iX12_readsThing_88 (by decide)) ?_
                    exact tf
                  · have hRT : RTh P tx n l p σ0 false σ5 := ⟨hF5, Or.inr ⟨rfl, p', x2.le, x1, x2⟩⟩
                    refine aa_go (aa_if_neF iX12_readsThing_88 (by decide)) ?_
                    refine aa_go (aa_iconst iX12_readsThing_91 ki_0) ?_
                    refine aa_zretF iX12_readsThing_92 rfl ?_
                    exact ⟨false, rfl, hRT⟩
                refine aa_go (aa_if_eqF iX12_readsThing_80 (by decide)) ?_
                refine aa_go (aa_aload0 iX12_readsThing_83) (aa_go (aa_iload1 iX12_readsThing_84) (aa_go (aa_cVi iX12_readsThing_85 (hS5) (by decide) lc_X12_readsOn lk_X12_60 (sh_63 (hFg.W hW)) rfl rfl (Nat.le_of_ble_eq_true rfl)) ?_))
                exact fin5
            refine aa_go (aa_aload0 iX12_readsThing_42) (aa_go (aa_getR iX12_readsThing_43 fl_X12_57 (sh_63 (hFc.W hW)) rfl) (aa_go (aa_iload1 iX12_readsThing_46) (aa_go (aa_aload0 iX12_readsThing_47) (aa_go (aa_iconst iX12_readsThing_48 ki_1) (aa_go (aa_iconst iX12_readsThing_49 ki_1) (aa_go (aa_bipush iX12_readsThing_50 kb_7) (aa_go (aa_cVi iX12_readsThing_52 (hS3) (by decide) lc_X12_number lk_X12_43 (sh_63 (hFc.W hW)) rfl rfl (Nat.le_of_ble_eq_true rfl)) ?_)))))))
            refine aa_go (aa_iasN iX12_readsThing_55 (sh_66 (hFd.W hW)) (by omega) (by omega)) ?_
            refine aa_go (aa_aload0 iX12_readsThing_56) (aa_go (aa_getR iX12_readsThing_57 fl_X12_57 (sh_63 (hFe.W hW)) rfl) (aa_go (aa_iload1 iX12_readsThing_60) (aa_go (aa_ialE iX12_readsThing_61 (sh_66 (hFe.W hW)) (by omega) (by omega) (sI_eq)) ?_)))
            refine aa_go (aa_if_geN iX12_readsThing_62 (by omega)) ?_
            refine aa_go (aa_aload0 iX12_readsThing_67) (aa_go (aa_getR iX12_readsThing_68 fl_X12_47 (sh_63 (hFe.W hW)) rfl) (aa_go (aa_iload1 iX12_readsThing_71) (aa_go (aa_iconst iX12_readsThing_72 ki_0) (aa_go (aa_iasN iX12_readsThing_73 (sh_67 (hFe.W hW)) (by omega) (by omega)) ?_))))
            refine aa_go (aa_aload0 iX12_readsThing_74) (aa_go (aa_bipush iX12_readsThing_75 kb_94) (aa_go (aa_cVi iX12_readsThing_77 (hS4) (by decide) lc_X12_takes lk_X12_50 (sh_63 (hFf.W hW)) rfl rfl (Nat.le_of_ble_eq_true rfl)) ?_))
            exact fin _ rfl
          · have e3 : nmf tx n 1 1 7 (p + 2) = (none, p + 2) := by
              rw [nmf]
              by_cases q : dgB tx n (p + 2) = true
              · rw [if_pos q, if_neg (fun x => absurd x.1 (by decide)), if_neg (fun x => d2 ⟨q, x.1, by omega⟩)]
              · rw [if_neg q]
            rw [e3] at hS3
            have hS3 : aa_SX mX12_number 3 [.ref 63, .int (nI 1), .int (nI 1), .int (nI 7)] _ (some (.int (-1))) (SA (SA (aa_sI (SA σ (p + 1)) 65 (pl_n P + l) (nI (tx p - 48))) (p + 2)) (p + 2)) := hS3
            rw [SA_SA] at hS3
            have hFe := hFc.p (c := 66) (by decide) (k := pl_n P + l) (by omega) (-1)
            have fl : FLr P tx n (p + 2) := by
              refine FLr.of st2 (by omega) (fun c => ?_) rfl
              rw [tmS]
              show (if 49 ≤ tx (p + 2) ∧ tx (p + 2) ≤ 55 then _ else none) = none
              rw [if_neg]
              intro x
              exact d2 ⟨by rw [dgB, decide_eq_true c, isD_iff.mpr (by omega)]; rfl, by omega, by omega⟩
            have hRT : RTh P tx n l p σ0 false (aa_sI (SA (aa_sI (SA σ (p + 1)) 65 (pl_n P + l) (nI (tx p - 48))) (p + 2)) 66 (pl_n P + l) (-1)) := ⟨hFe, Or.inr ⟨rfl, p + 2, by omega, by rw [sI_ne (by decide)]; exact sI_eq, fl⟩⟩
            refine aa_go (aa_aload0 iX12_readsThing_42) (aa_go (aa_getR iX12_readsThing_43 fl_X12_57 (sh_63 (hFc.W hW)) rfl) (aa_go (aa_iload1 iX12_readsThing_46) (aa_go (aa_aload0 iX12_readsThing_47) (aa_go (aa_iconst iX12_readsThing_48 ki_1) (aa_go (aa_iconst iX12_readsThing_49 ki_1) (aa_go (aa_bipush iX12_readsThing_50 kb_7) (aa_go (aa_cVi iX12_readsThing_52 (hS3) (by decide) lc_X12_number lk_X12_43 (sh_63 (hFc.W hW)) rfl rfl (Nat.le_of_ble_eq_true rfl)) ?_)))))))
            refine aa_go (aa_iasN iX12_readsThing_55 (sh_66 (hFc.W hW)) (by omega) (by omega)) ?_
            refine aa_go (aa_aload0 iX12_readsThing_56) (aa_go (aa_getR iX12_readsThing_57 fl_X12_57 (sh_63 (hFe.W hW)) rfl) (aa_go (aa_iload1 iX12_readsThing_60) (aa_go (aa_ialE iX12_readsThing_61 (sh_66 (hFe.W hW)) (by omega) (by omega) (sI_eq)) ?_)))
            refine aa_go (aa_if_geF iX12_readsThing_62 (by decide)) ?_
            refine aa_go (aa_iconst iX12_readsThing_65 ki_0) ?_
            refine aa_zretF iX12_readsThing_66 rfl ?_
            exact ⟨false, rfl, hRT⟩
        have fin1 : ∀ b : Bool, tkB tx n (p + 1) 58 = b → aa_V mX12_readsThing 5 37 [some (.ref 63), some (.int (nI (pl_n P + l)))] [.int (nI b.toNat)] (SA (aa_sI (SA σ (p + 1)) 65 (pl_n P + l) (nI (tx p - 48))) (p + 1 + b.toNat)) (fun ra σ' => ∃ b : Bool, ra = some (.int (nI b.toNat)) ∧ RTh P tx n l p σ0 b σ') := by
          intro b hb9
          cases b with
          | true =>
            have cl := col hb9
            refine aa_go (aa_if_neT iX12_readsThing_37 (by decide)) ?_
            exact cl
          | false =>
            rw [show SA (aa_sI (SA σ (p + 1)) 65 (pl_n P + l) (nI (tx p - 48))) (p + 1 + false.toNat) = _ from SA_id hTb.1]
            have fl : FLr P tx n (p + 1) := by
              refine FLr.of st1 (by omega) (fun c => ?_) rfl
              rw [tmS]
              show (if tx (p + 1) = 58 then _ else none) = none
              rw [if_neg]
              intro x
              rw [tkB, decide_eq_true c, decide_eq_true x] at hb9
              exact absurd hb9 (by decide)
            have hRT : RTh P tx n l p σ0 false (aa_sI (SA σ (p + 1)) 65 (pl_n P + l) (nI (tx p - 48))) := ⟨hFb, Or.inr ⟨rfl, p + 1, by omega, hTb.1, fl⟩⟩
            refine aa_go (aa_if_neF iX12_readsThing_37 (by decide)) ?_
            refine aa_go (aa_iconst iX12_readsThing_40 ki_0) ?_
            refine aa_zretF iX12_readsThing_41 rfl ?_
            exact ⟨false, rfl, hRT⟩
        refine aa_go (aa_aload0 iX12_readsThing_8) (aa_go (aa_getR iX12_readsThing_9 fl_X12_54 (sh_63 hW1) rfl) (aa_go (aa_iload1 iX12_readsThing_12) (aa_go (aa_aload0 iX12_readsThing_13) (aa_go (aa_iconst iX12_readsThing_14 ki_1) (aa_go (aa_iconst iX12_readsThing_15 ki_0) (aa_go (aa_bipush iX12_readsThing_16 kb_9) (aa_go (aa_cVi iX12_readsThing_18 (hS1) (by decide) lc_X12_number lk_X12_43 (sh_63 hW1) rfl rfl (Nat.le_of_ble_eq_true rfl)) ?_)))))))
        refine aa_go (aa_iasN iX12_readsThing_21 (sh_65 (hFa.W hW)) (by omega) (by omega)) ?_
        refine aa_go (aa_aload0 iX12_readsThing_22) (aa_go (aa_getR iX12_readsThing_23 fl_X12_54 (sh_63 (hFb.W hW)) rfl) (aa_go (aa_iload1 iX12_readsThing_26) (aa_go (aa_ialE iX12_readsThing_27 (sh_65 (hFb.W hW)) (by omega) (by omega) (sI_eq)) ?_)))
        refine aa_go (aa_if_ltN iX12_readsThing_28 (by omega)) ?_
        refine aa_go (aa_aload0 iX12_readsThing_31) (aa_go (aa_bipush iX12_readsThing_32 kb_58) (aa_go (aa_cVi iX12_readsThing_34 (hS2) (by decide) lc_X12_takes lk_X12_50 (sh_63 (hFb.W hW)) rfl rfl (Nat.le_of_ble_eq_true rfl)) ?_))
        exact fin1 _ rfl
      · have e1 : nmf tx n 1 0 9 p = (none, p) := by rw [nmf, if_neg d1]
        rw [e1] at hS1
        have hS1 : aa_SX mX12_number 3 [.ref 63, .int (nI 1), .int (nI 0), .int (nI 9)] σ (some (.int (-1))) (SA σ p) := hS1
        rw [SA_id hR.2.1.1] at hS1
        have hFb := hF.p (c := 65) (by decide) (k := pl_n P + l) (by omega) (-1)
        have fl : FLr P tx n p := by
          refine FLr.of hR.1 hp (fun c => ?_) (by rw [h0]; rfl)
          rw [s0, if_neg]
          intro x
          exact d1 (by rw [dgB, decide_eq_true c, x.1]; rfl)
        refine aa_go (aa_aload0 iX12_readsThing_8) (aa_go (aa_getR iX12_readsThing_9 fl_X12_54 (sh_63 hW1) rfl) (aa_go (aa_iload1 iX12_readsThing_12) (aa_go (aa_aload0 iX12_readsThing_13) (aa_go (aa_iconst iX12_readsThing_14 ki_1) (aa_go (aa_iconst iX12_readsThing_15 ki_0) (aa_go (aa_bipush iX12_readsThing_16 kb_9) (aa_go (aa_cVi iX12_readsThing_18 (hS1) (by decide) lc_X12_number lk_X12_43 (sh_63 hW1) rfl rfl (Nat.le_of_ble_eq_true rfl)) ?_)))))))
        refine aa_go (aa_iasN iX12_readsThing_21 (sh_65 hW1) (by omega) (by omega)) ?_
        refine aa_go (aa_aload0 iX12_readsThing_22) (aa_go (aa_getR iX12_readsThing_23 fl_X12_54 (sh_63 (hFb.W hW)) rfl) (aa_go (aa_iload1 iX12_readsThing_26) (aa_go (aa_ialE iX12_readsThing_27 (sh_65 (hFb.W hW)) (by omega) (by omega) (sI_eq)) ?_)))
        refine aa_go (aa_if_ltT iX12_readsThing_28 (by decide)) ?_
        refine aa_go (aa_iconst iX12_readsThing_40 ki_0) ?_
        refine aa_zretF iX12_readsThing_41 rfl ?_
        exact ⟨false, rfl, hFb, Or.inr ⟨rfl, p, hp, by rw [sI_ne (by decide)]; exact hR.2.1.1, fl⟩⟩
    · skip
      have fl : FLr P tx n p := by
        refine FLr.of hR.1 hp (fun c => ?_) (by rw [h0]; rfl)
        rw [s0, if_neg (fun x => by omega)]
      refine aa_go (aa_iconst iX12_readsThing_6 ki_0) ?_
      refine aa_zretF iX12_readsThing_7 rfl ?_
      exact ⟨false, rfl, hF, Or.inr ⟨rfl, p, hp, hR.2.1.1, fl⟩⟩
  obtain ⟨ra, σ', ⟨b, rfl, h9⟩, hS9⟩ := aa_S_of (avs := [.ref 63, .int (nI (pl_n P + l))]) (by decide) 0 [some (.ref 63), some (.int (nI (pl_n P + l)))] rfl rfl key
  exact ⟨b, σ', h9, hS9⟩
end
