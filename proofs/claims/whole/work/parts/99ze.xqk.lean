/-! THE REFERENCE, PUBLIC METHODS: states -/
def pO (P : pl_T) (y : Nat × Nat) : Nat := y.2 * 65536 + cv P y.1
def SB (P : pl_T) (y : Nat × Nat) : Prop := y.1 < 2 ^ (pl_n P + pl_b P) ∧ y.2 ≤ 1
def QS (P : pl_T) (x0 : Nat × Nat) (Q : Nat) (L : List (Nat × Nat)) (i : Nat → Nat → Int32) : Prop := L.Nodup ∧ (∀ y, y ∈ L → SB P y ∧ rc P x0 y) ∧ (∀ (k : Nat) y, L[k]? = some y → i 76 k = nI (pO P y)) ∧ i 63 24 = nI Q ∧ Q < 500000 ∧ ∀ p, p < 196608 → ∃ q, q ≤ Q ∧ i 74 p = nI q ∧ (q = Q ↔ ∃ y, y ∈ L ∧ pO P y = p)
section
variable {P : pl_T}
theorem pO_lt {y : Nat × Nat} (h : SB P y) : pO P y < 131072 := by
  have := cv_lt (P := P) y.1
  have := h.2
  unfold pO; omega
theorem pO_dm (y : Nat × Nat) : pO P y % 65536 = cv P y.1 ∧ pO P y / 65536 = y.2 := by
  have := cv_lt (P := P) y.1
  unfold pO; omega
theorem pO_inj (ok : pl_ok P) {a b : Nat × Nat} (ha : SB P a) (hb : SB P b) (h : pO P a = pO P b) : a = b := by
  have h1 := pO_dm (P := P) a
  have h2 := pO_dm (P := P) b
  rw [h] at h1
  have e : cv P a.1 = cv P b.1 := h1.1.symm.trans h2.1
  have e1 := dv_cv ok ha.1
  rw [e, dv_cv ok hb.1] at e1
  exact Prod.ext e1.symm (h1.2.symm.trans h2.2)
theorem SB_len (ok : pl_ok P) {L : List (Nat × Nat)} (hnd : L.Nodup) (hb : ∀ y, y ∈ L → SB P y) : L.length ≤ 131072 := by
  have nd : (L.map (pO P)).Nodup := by
    refine List.pairwise_map.mpr (List.Pairwise.imp_of_mem (fun {a b} ha hb' hab => ?_) hnd)
    exact fun q => hab (pO_inj ok (hb a ha) (hb b hb') q)
  have := nd_len 131072 _ nd (fun x hx => by
    rw [List.mem_map] at hx
    obtain ⟨y, hy, rfl⟩ := hx
    exact pO_lt (hb y hy))
  rw [List.length_map] at this
  exact this
section
variable {x0 : Nat × Nat} {Q : Nat} {L : List (Nat × Nat)} {i i' : Nat → Nat → Int32}
theorem QS.q (h : QS P x0 Q L i) : MMQ Q i := ⟨h.2.2.2.1, h.2.2.2.2.1, fun p hp => by
  obtain ⟨q, a, b, -⟩ := h.2.2.2.2.2 p hp
  exact ⟨q, a, b⟩⟩
theorem QS.add (ok : pl_ok P) (h : QS P x0 Q L i) {y : Nat × Nat} (hy : SB P y) (hr : rc P x0 y) (hn : y ∉ L) (h76 : ∀ k, k ≠ L.length → i' 76 k = i 76 k) (h76' : i' 76 L.length = nI (pO P y)) (h24 : i' 63 24 = i 63 24) (h74 : ∀ p, p ≠ pO P y → i' 74 p = i 74 p) (h74' : i' 74 (pO P y) = nI Q) : QS P x0 Q (L ++ [y]) i' := by
  obtain ⟨a1, a2, a3, a4, a5, a6⟩ := h
  refine ⟨?_, ?_, ?_, by rw [h24]; exact a4, a5, ?_⟩
  · rw [List.nodup_append]
    refine ⟨a1, List.nodup_cons.mpr ⟨List.not_mem_nil, List.nodup_nil⟩, fun a ha b hb => ?_⟩
    rw [List.mem_singleton] at hb
    rintro rfl
    exact hn (hb ▸ ha)
  · intro z hz
    rw [List.mem_append, List.mem_singleton] at hz
    rcases hz with hz | rfl
    · exact a2 z hz
    · exact ⟨hy, hr⟩
  · intro k z hz
    by_cases c : k = L.length
    · subst c
      rw [List.getElem?_append_right (Nat.le_refl _), Nat.sub_self] at hz
      cases hz
      exact h76'
    · rw [h76 k c]
      have hk := (List.getElem?_eq_some_iff.mp hz).1
      rw [List.length_append, List.length_singleton] at hk
      rw [List.getElem?_append_left (by omega)] at hz
      exact a3 k z hz
  · intro p hp
    by_cases c : p = pO P y
    · subst c
      exact ⟨Q, Nat.le_refl _, h74', ⟨fun _ => ⟨y, by simp, rfl⟩, fun _ => rfl⟩⟩
    · obtain ⟨q, b1, b2, b3⟩ := a6 p hp
      refine ⟨q, b1, by rw [h74 p c]; exact b2, b3.trans ⟨?_, ?_⟩⟩
      · rintro ⟨z, z1, z2⟩
        exact ⟨z, List.mem_append_left _ z1, z2⟩
      · rintro ⟨z, z1, z2⟩
        rw [List.mem_append, List.mem_singleton] at z1
        rcases z1 with z1 | rfl
        · exact ⟨z, z1, z2⟩
        · exact absurd z2.symm c
theorem QS.kn (ok : pl_ok P) (h : QS P x0 Q L i) {y : Nat × Nat} (hy : SB P y) : ∃ q, q ≤ Q ∧ i 74 (pO P y) = nI q ∧ (q = Q ↔ y ∈ L) := by
  have := pO_lt hy
  obtain ⟨q, a, b, c⟩ := h.2.2.2.2.2 (pO P y) (by omega)
  refine ⟨q, a, b, c.trans ⟨?_, fun z => ⟨y, z, rfl⟩⟩⟩
  rintro ⟨z, z1, z2⟩
  rw [← pO_inj ok (h.2.1 z z1).1 hy z2]
  exact z1
end
end
theorem lo_app (P : pl_T) (e : Nat) (L : List (Nat × Nat)) (y : Nat × Nat) : lo P e (L ++ [y]) = lo P e L + (!wi P e y.2 y.1).toNat := by
  unfold lo
  rw [List.filter_append, List.length_append]
  cases q : wi P e y.2 y.1 <;> simp [q]
section
variable {P P' : pl_T} {tx tx' : Nat → Nat} {n n' : Nat} {g g' : gm_T} {kp kp' : Nat → Option gm_T} {lk lk' tl tl' : Nat} {rw rw' : Nat → Int} {Q Q' : Nat} {r : Nat → Nat} {dy : List aa_Shp} {σ σ' : aa_St}
theorem q_states (h : MI P tx n g kp lk tl rw Q r dy σ) (hG : GG P g) (hQ : Q + 2000 < 500000) : ∃ (L : List (Nat × Nat)) (σ' : aa_St), ((L.Nodup ∧ ∀ y, y ∈ L ↔ rc P (gst g, gtn g) y) ∧ MJ P tx n g kp lk 1 (rw1 (lo P (gen g) L)) Q r dy σ σ') ∧ aa_SX mX12_states 100 [.ref 63] σ (some (.int (nI L.length))) σ' := by
  have h1 := h.thr (nI 0)
  have ok := h.ok
  have t1 := gtn_le g
  have e1 := hG.2.1
  obtain ⟨h2, k2, hA⟩ := h1.ask (by omega) (fun _ => 0)
  have sb0 : SB P (gst g, gtn g) := ⟨hG.st, t1⟩
  have s0 : SQ (aa_sI σ 63 0 (nI 0)) (aa_sI (aa_sI σ 63 0 (nI 0)) 63 24 (nI (Q + 1))) := SQ.rf.f (by decide) _
  -- counting: 159
  have loopC : ∀ (L : List (Nat × Nat)) (y4 y5 y6 : Option Value), (L.Nodup ∧ ∀ y, y ∈ L ↔ rc P (gst g, gtn g) y) → (∀ y, y ∈ L → SB P y) → ∀ f k (σ3 : aa_St), L.length - k < f → k ≤ L.length → SQ (aa_sI σ 63 0 (nI 0)) σ3 → MMK (Q + 2) (vW P (gen g)) σ3.1 → (∀ (k : Nat) y, L[k]? = some y → σ3.1 76 k = nI (pO P y)) → aa_V mX12_states 100 159 [some (.ref 63), some (.int (nI L.length)), some (.int (nI (lo P (gen g) (L.take k)))), some (.int (nI k)), y4, y5, y6] [] σ3 (fun ra σ' => ∃ L : List (Nat × Nat), ra = some (.int (nI L.length)) ∧ (L.Nodup ∧ ∀ y, y ∈ L ↔ rc P (gst g, gtn g) y) ∧ MJ P tx n g kp lk 1 (rw1 (lo P (gen g) L)) Q r dy σ σ') := by
    intro L y4 y5 y6 hL hB f
    have ll := SB_len ok hL.1 hB
    induction f with
    | zero => intro k σ3 g1; omega
    | succ f ih =>
      intro k σ3 g1 g2 hs hK h76
      have h3 := h1.sq hs hK.Q
      refine aa_go (aa_iload3 iX12_states_159) (aa_go (aa_iload1 iX12_states_160) ?_)
      refine aa_ic_geN iX12_states_161 (by omega) (by omega) (fun g3 => ?_) (fun g3 => ?_)
      · skip
        have e : k = L.length := by omega
        subst e
        rw [List.take_length]
        have lol : lo P (gen g) L ≤ L.length := List.length_filter_le _ _
        have h4 := h3.t1 (lo P (gen g) L : Nat)
        refine aa_go (aa_aload0 iX12_states_210) (aa_go (aa_iconst iX12_states_211 ki_0) (aa_go (aa_putI iX12_states_212 fl_X12_11 (fun h => nomatch h) (sh_63 h3.W) rfl ⟨rfl, rfl⟩) (aa_go (aa_aload0 iX12_states_215) (aa_go (aa_iload2 iX12_states_216) (aa_go (aa_i2lN iX12_states_217 (by omega)) ?_)))))
        refine aa_go (aa_topl (y := lZ (lo P (gen g) L : Nat)) (by rw [lZ_N])) ?_
        refine aa_go (aa_cVv iX12_states_218 (h3.e0 _) (by decide) lc_X12_enters lk_X12_163 (sh_63 h3.W) rfl rfl (Nat.le_of_ble_eq_true rfl)) (aa_go (aa_iload1 iX12_states_221) ?_)
        refine aa_iret iX12_states_222 rfl ?_
        exact ⟨L, rfl, hL, h4.J (by omega) (((MF.rf.s (by decide) _ _).tr hs.F).t1 _)⟩
      · skip
        obtain ⟨y, hy⟩ : ∃ y, L[k]? = some y := ⟨L[k], List.getElem?_eq_getElem g3⟩
        have hm := List.mem_of_getElem? hy
        have sb := hB y hm
        have pl := pO_lt sb
        have dm := pO_dm (P := P) y
        have dn := dv_cv ok sb.1
        obtain ⟨σ4, ⟨hF4, hK4⟩, hS4⟩ := m_win e1 18 (cv P y.1) y.2 σ3 (by rw [dn]; exact h.mu _) (cv_lt _) sb.2 h3.W h3.M hK
        rw [dn] at hS4
        have et : lo P (gen g) (L.take (k + 1)) = lo P (gen g) (L.take k) + (!wi P (gen g) y.2 y.1).toNat := by
          rw [List.take_add_one, hy]
          exact lo_app _ _ _ _
        have nxt := ih (k + 1) σ4 (by omega) (by omega) (hs.A hF4) hK4 (fun k z hz => by rw [hF4.2 76 (by decide)]; exact h76 k z hz)
        rw [et] at nxt
        refine aa_go (aa_iload2 iX12_states_164) (aa_go (aa_aload0 iX12_states_165) (aa_go (aa_aload0 iX12_states_166) (aa_go (aa_getR iX12_states_167 fl_X12_201 (sh_63 h3.W) rfl) (aa_go (aa_iload3 iX12_states_170) (aa_go (aa_ialE iX12_states_171 (sh_76 h3.W) (by omega) (by omega) (h76 k y hy)) (aa_go (aa_ldc iX12_states_172 ld_X12_170) (aa_go (aa_iremN iX12_states_174 (by omega) (by omega) (by omega)) ?_)))))))
        refine aa_go (aa_top (y := nI (cv P y.1)) (by rw [dm.1])) ?_
        refine aa_go (aa_aload0 iX12_states_175) (aa_go (aa_getR iX12_states_176 fl_X12_201 (sh_63 h3.W) rfl) (aa_go (aa_iload3 iX12_states_179) (aa_go (aa_ialE iX12_states_180 (sh_76 h3.W) (by omega) (by omega) (h76 k y hy)) (aa_go (aa_ldc iX12_states_181 ld_X12_170) (aa_go (aa_idivN iX12_states_183 (by omega) (by omega) (by omega)) ?_)))))
        refine aa_go (aa_top (y := nI y.2) (by rw [dm.2])) ?_
        refine aa_go (aa_aload0 iX12_states_184) (aa_go (aa_getE iX12_states_185 fl_X12_124 (sh_63 h3.W) rfl h3.G.2.2.1) (aa_go (aa_cVi iX12_states_188 (hS4) (by decide) lc_X12_win lk_X12_183 (sh_63 h3.W) rfl rfl (Nat.le_of_ble_eq_true rfl)) ?_))
        refine aa_if_neB iX12_states_191 (fun g5 => ?_) (fun g5 => ?_)
        · skip
          rw [g5] at nxt
          refine aa_go (aa_iconst iX12_states_198 ki_0) (aa_go (aa_cSi iX12_states_199 (m_flag false) (by decide) lc_X12_flag lk_X12_31 rfl (Nat.le_of_ble_eq_true rfl)) (aa_go (aa_iaddN iX12_states_202 ) (aa_go (aa_istore2 iX12_states_203 rfl (by decide)) (aa_go (aa_iincN3 (k := 1) iX12_states_204 rfl (by decide)) (aa_go (aa_goto iX12_states_207) ?_)))))
          exact nxt
        · skip
          rw [g5] at nxt
          refine aa_go (aa_iconst iX12_states_194 ki_1) (aa_go (aa_goto iX12_states_195) (aa_go (aa_cSi iX12_states_199 (m_flag true) (by decide) lc_X12_flag lk_X12_31 rfl (Nat.le_of_ble_eq_true rfl)) (aa_go (aa_iaddN iX12_states_202 ) (aa_go (aa_istore2 iX12_states_203 rfl (by decide)) (aa_go (aa_iincN3 (k := 1) iX12_states_204 rfl (by decide)) (aa_go (aa_goto iX12_states_207) ?_))))))
          exact nxt
  -- the moves of one: 72
  have loopM : ∀ (k : Nat) (y : Nat × Nat), k < 131072 → SB P y →
      (∀ (L : List (Nat × Nat)) (σ3 : aa_St) (y6 : Option Value), SQ (aa_sI σ 63 0 (nI 0)) σ3 → QS P (gst g, gtn g) (Q + 1) L σ3.1 → (gst g, gtn g) ∈ L → k < L.length → (∀ (i : Nat) z, i < k + 1 → L[i]? = some z → ∀ j, pl_lg P z.2 z.1 j = true → (pl_nx P z.1 j, 1 - z.2) ∈ L) → aa_V mX12_states 100 145 [some (.ref 63), some (.int (nI L.length)), some (.int (nI k)), some (.int (nI (cv P y.1))), some (.int (nI y.2)), some (.int (nI 28)), y6] [] σ3 (fun ra σ' => ∃ L : List (Nat × Nat), ra = some (.int (nI L.length)) ∧ (L.Nodup ∧ ∀ y, y ∈ L ↔ rc P (gst g, gtn g) y) ∧ MJ P tx n g kp lk 1 (rw1 (lo P (gen g) L)) Q r dy σ σ')) →
      ∀ f m (L : List (Nat × Nat)) (σ3 : aa_St) (y6 : Option Value), 28 - m < f → m ≤ 28 → SQ (aa_sI σ 63 0 (nI 0)) σ3 → QS P (gst g, gtn g) (Q + 1) L σ3.1 → (gst g, gtn g) ∈ L → L[k]? = some y → (∀ (i : Nat) z, i < k → L[i]? = some z → ∀ j, pl_lg P z.2 z.1 j = true → (pl_nx P z.1 j, 1 - z.2) ∈ L) → (∀ m', m' < m → ∀ j, pl_sp P m' = some j → pl_lg P y.2 y.1 j = true → (pl_nx P y.1 j, 1 - y.2) ∈ L) → aa_V mX12_states 100 72 [some (.ref 63), some (.int (nI L.length)), some (.int (nI k)), some (.int (nI (cv P y.1))), some (.int (nI y.2)), some (.int (nI m)), y6] [] σ3 (fun ra σ' => ∃ L : List (Nat × Nat), ra = some (.int (nI L.length)) ∧ (L.Nodup ∧ ∀ y, y ∈ L ↔ rc P (gst g, gtn g) y) ∧ MJ P tx n g kp lk 1 (rw1 (lo P (gen g) L)) Q r dy σ σ') := by
    intro k y hk sb next f
    have dn := dv_cv ok sb.1
    have y2 := sb.2
    induction f with
    | zero => intro m L σ3 y6 g1; omega
    | succ f ih =>
      intro m L σ3 y6 g1 g2 hs hq h0 hy hc hd
      have h3 := h1.sq hs hq.q
      have kl := (List.getElem?_eq_some_iff.mp hy).1
      refine aa_go (aa_iload5 iX12_states_72) (aa_go (aa_bipush iX12_states_74 kb_28) ?_)
      refine aa_ic_geN iX12_states_76 (by omega) (by omega) (fun g3 => ?_) (fun g3 => ?_)
      · skip
        have e : m = 28 := by omega
        subst e
        refine next L σ3 _ hs hq h0 kl (fun i z hi hz j hj => ?_)
        by_cases c : i = k
        · subst c
          rw [hy] at hz
          cases hz
          have := sp_mo ok (pl_lg_lt hj)
          exact hd _ this.2.1 j this.1 hj
        · exact hc i z (by omega) hz j hj
      · skip
        refine aa_go (aa_aload0 iX12_states_79) (aa_go (aa_iload3 iX12_states_80) (aa_go (aa_iload4 iX12_states_81) (aa_go (aa_iload5 iX12_states_83) (aa_go (aa_cVi iX12_states_85 (m_can h3.W h3.M (cv_lt _) (by omega) (by omega)) (by decide) lc_X12_can lk_X12_140 (sh_63 h3.W) rfl rfl (Nat.le_of_ble_eq_true rfl)) ?_))))
        refine aa_if_neB iX12_states_88 (fun g4 => ?_) (fun g4 => ?_)
        · skip
          obtain ⟨j, hj, jl, -, lg, m1, m2⟩ := cn_t ok g4
          rw [dn] at lg
          have ea := cv_af (s := y.1) ok hj
          have hAf := m_after h3.W h3.M (t := cv P y.1) g3 hj
          rw [ea] at hAf
          have nl := pl_nx_lt ok sb.1 jl
          have sb2 : SB P (pl_nx P y.1 j, 1 - y.2) := ⟨nl, by show 1 - y.2 ≤ 1; omega⟩
          have po : (1 - y.2) * 65536 + cv P (pl_nx P y.1 j) = pO P (pl_nx P y.1 j, 1 - y.2) := rfl
          have pl := pO_lt sb2
          obtain ⟨q, q1, q2, q3⟩ := hq.kn ok sb2
          have ql := hq.2.2.2.2.1
          refine aa_go (aa_aload0 iX12_states_94) (aa_go (aa_aload0 iX12_states_95) (aa_go (aa_iload3 iX12_states_96) (aa_go (aa_iload5 iX12_states_97) (aa_go (aa_cVi iX12_states_99 (hAf) (by decide) lc_X12_after lk_X12_137 (sh_63 h3.W) rfl rfl (Nat.le_of_ble_eq_true rfl)) (aa_go (aa_iconst iX12_states_102 ki_1) (aa_go (aa_iload4 iX12_states_103) (aa_go (aa_isubN iX12_states_105 (by omega)) ?_)))))))
          refine aa_go (aa_cVi iX12_states_106 (m_placeOf h3.W) (by decide) lc_X12_placeOf lk_X12_177 (sh_63 h3.W) rfl rfl (Nat.le_of_ble_eq_true rfl)) ?_
          refine aa_go (aa_top (y := nI (pO P (pl_nx P y.1 j, 1 - y.2))) (rfl)) ?_
          refine aa_go (aa_istore6 iX12_states_109 rfl (by decide)) (aa_go (aa_aload0 iX12_states_111) (aa_go (aa_iload6 iX12_states_112) (aa_go (aa_cVi iX12_states_114 (m_isKnown h3.W (by omega) q2 hq.2.2.2.1 (by omega) (by omega)) (by decide) lc_X12_isKnown lk_X12_180 (sh_63 h3.W) rfl rfl (Nat.le_of_ble_eq_true rfl)) ?_)))
          refine aa_if_neB iX12_states_117 (fun g5 => ?_) (fun g5 => ?_)
          · skip
            have yin := q3.mp (of_decide_eq_true g5)
            refine aa_go (aa_iincN5 (k := 1) iX12_states_139 rfl (by decide)) (aa_go (aa_goto iX12_states_142) ?_)
            refine ih (m + 1) L σ3 _ (by omega) (by omega) hs hq h0 hy hc (fun m' hm' j' hj' hl' => ?_)
            by_cases c : m' = m
            · subst c
              rw [hj] at hj'
              cases hj'
              exact yin
            · exact hd m' (by omega) j' hj' hl'
          · skip
            have yin : ¬ (pl_nx P y.1 j, 1 - y.2) ∈ L := fun c => absurd (q3.mpr c) (of_decide_eq_false g5)
            have rcy := (hq.2.1 y (List.mem_of_getElem? hy)).2
            have rc2 : rc P (gst g, gtn g) (pl_nx P y.1 j, 1 - y.2) := fun S a b => b y (rcy S a b) j lg
            have ll := SB_len ok hq.1 (fun z hz => (hq.2.1 z hz).1)
            have hKp := m_keeps h3.W (p := pO P (pl_nx P y.1 j, 1 - y.2)) (by omega) hq.2.2.2.1 (nI 0)
            have hq2 : QS P (gst g, gtn g) (Q + 1) (L ++ [(pl_nx P y.1 j, 1 - y.2)]) (aa_sI (aa_sI (aa_sI σ3 74 (pO P (pl_nx P y.1 j, 1 - y.2)) (nI (Q + 1))) 75 (pO P (pl_nx P y.1 j, 1 - y.2)) (nI 0)) 76 L.length (nI (pO P (pl_nx P y.1 j, 1 - y.2)))).1 := hq.add ok sb2 rc2 yin (fun k hk => by rw [sI_nk hk, sI_ne (by decide), sI_ne (by decide)]) sI_eq (by rw [sI_ne (by decide), sI_ne (by decide), sI_ne (by decide)]) (fun p hp => by rw [sI_ne (by decide), sI_ne (by decide), sI_nk hp]) (by rw [sI_ne (by decide), sI_ne (by decide), sI_eq])
            have hs2 := ((hs.s (c := 74) (by decide) (pO P (pl_nx P y.1 j, 1 - y.2)) (nI (Q + 1))).s (c := 75) (by decide) (pO P (pl_nx P y.1 j, 1 - y.2)) (nI 0)).s (c := 76) (by decide) L.length (nI (pO P (pl_nx P y.1 j, 1 - y.2)))
            have hWk : aa_W r dy (aa_sI (aa_sI σ3 74 (pO P (pl_nx P y.1 j, 1 - y.2)) (nI (Q + 1))) 75 (pO P (pl_nx P y.1 j, 1 - y.2)) (nI 0)) := (h3.W.sI _ _ _).sI _ _ _
            have nxt := ih (m + 1) _ _ (some (.int (nI (pO P (pl_nx P y.1 j, 1 - y.2))))) (by omega) (by omega) hs2 hq2 (List.mem_append_left _ h0) (by rw [List.getElem?_append_left kl]; exact hy) (fun i z hi hz j' hj' => by
              rw [List.getElem?_append_left (by omega)] at hz
              exact List.mem_append_left _ (hc i z hi hz j' hj')) (fun m' hm' j' hj' hl' => by
              by_cases c : m' = m
              · subst c
                rw [hj] at hj'
                cases hj'
                simp
              · exact List.mem_append_left _ (hd m' (by omega) j' hj' hl'))
            rw [List.length_append, List.length_singleton] at nxt
            refine aa_go (aa_aload0 iX12_states_120) (aa_go (aa_iload6 iX12_states_121) (aa_go (aa_iconst iX12_states_123 ki_0) (aa_go (aa_cVi iX12_states_124 (hKp) (by decide) lc_X12_keeps lk_X12_186 (sh_63 h3.W) rfl rfl (Nat.le_of_ble_eq_true rfl)) ?_)))
            refine aa_go (aa_pop iX12_states_127 rfl) (aa_go (aa_aload0 iX12_states_128) (aa_go (aa_getR iX12_states_129 fl_X12_201 (sh_63 hWk) rfl) (aa_go (aa_iload1 iX12_states_132) (aa_go (aa_iload6 iX12_states_133) (aa_go (aa_iasN iX12_states_135 (sh_76 hWk) (by omega) (by omega)) (aa_go (aa_iincN1 (k := 1) iX12_states_136 rfl (by decide)) (aa_go (aa_iincN5 (k := 1) iX12_states_139 rfl (by decide)) ?_)))))))
            refine aa_go (aa_goto iX12_states_142) ?_
            exact nxt
        · skip
          refine aa_go (aa_goto iX12_states_91) (aa_go (aa_iincN5 (k := 1) iX12_states_139 rfl (by decide)) (aa_go (aa_goto iX12_states_142) ?_))
          refine ih (m + 1) L σ3 _ (by omega) (by omega) hs hq h0 hy hc (fun m' hm' j' hj' hl' => ?_)
          by_cases c : m' = m
          · subst c
            rw [cnM, decide_eq_true g3, hj', dn] at g4
            rw [Bool.true_and] at g4
            have g4 : pl_lg P y.2 y.1 j' = false := g4
            rw [g4] at hl'
            exact absurd hl' (by decide)
          · exact hd m' (by omega) j' hj' hl'
  -- the queue: 43
  have loopK : ∀ f k (L : List (Nat × Nat)) (σ3 : aa_St) (y3 y4 y5 y6 : Option Value), 131072 - k < f → k ≤ L.length → aa_c1 y3 = true → aa_c1 y4 = true → SQ (aa_sI σ 63 0 (nI 0)) σ3 → QS P (gst g, gtn g) (Q + 1) L σ3.1 → (gst g, gtn g) ∈ L → (∀ (i : Nat) z, i < k → L[i]? = some z → ∀ j, pl_lg P z.2 z.1 j = true → (pl_nx P z.1 j, 1 - z.2) ∈ L) → aa_V mX12_states 100 43 [some (.ref 63), some (.int (nI L.length)), some (.int (nI k)), y3, y4, y5, y6] [] σ3 (fun ra σ' => ∃ L : List (Nat × Nat), ra = some (.int (nI L.length)) ∧ (L.Nodup ∧ ∀ y, y ∈ L ↔ rc P (gst g, gtn g) y) ∧ MJ P tx n g kp lk 1 (rw1 (lo P (gen g) L)) Q r dy σ σ') := by
    intro f
    induction f with
    | zero => intro k L σ3 y3 y4 y5 y6 g1; omega
    | succ f ih =>
      intro k L σ3 y3 y4 y5 y6 g1 g2 c3 c4 hs hq h0 hc
      have h3 := h1.sq hs hq.q
      have hB := fun z hz => (hq.2.1 z hz).1
      have ll := SB_len ok hq.1 hB
      refine aa_go (aa_iload2 iX12_states_43) (aa_go (aa_iload1 iX12_states_44) ?_)
      refine aa_ic_geN iX12_states_45 (by omega) (by omega) (fun g3 => ?_) (fun g3 => ?_)
      · skip
        have e : k = L.length := by omega
        subst e
        obtain ⟨h5, k5, hA5⟩ := h3.ask (by omega) (vW P (gen g))
        refine aa_go (aa_aload0 iX12_states_151) (aa_go (aa_cVv iX12_states_152 (hA5) (by decide) lc_X12_asks lk_X12_189 (sh_63 h3.W) rfl rfl (Nat.le_of_ble_eq_true rfl)) ?_)
        refine aa_go (aa_iconst iX12_states_155 ki_0) (aa_go (aa_istore2 iX12_states_156 rfl (by decide)) (aa_go (aa_iconst iX12_states_157 ki_0) (aa_go (aa_istore3 iX12_states_158 rfl (by decide)) ?_)))
        refine loopC L _ _ _ ⟨hq.1, fun y => ⟨fun hy => (hq.2.1 y hy).2, fun hy => hy (fun z => z ∈ L) h0 (fun z hz j hj => ?_)⟩⟩ hB (L.length + 1) 0 _ (by omega) (by omega) (hs.f (by decide) _) k5 (fun k y hy => by rw [sI_ne (by decide)]; exact hq.2.2.1 k y hy)
        obtain ⟨i, hi⟩ := List.getElem?_of_mem hz
        exact hc i z (List.getElem?_eq_some_iff.mp hi).1 hi j hj
      · skip
        obtain ⟨y, hy⟩ : ∃ y, L[k]? = some y := ⟨L[k], List.getElem?_eq_getElem g3⟩
        have sb := hB y (List.mem_of_getElem? hy)
        have pl := pO_lt sb
        have dm := pO_dm (P := P) y
        refine aa_go (aa_aload0 iX12_states_48) (aa_go (aa_getR iX12_states_49 fl_X12_201 (sh_63 h3.W) rfl) (aa_go (aa_iload2 iX12_states_52) (aa_go (aa_ialE iX12_states_53 (sh_76 h3.W) (by omega) (by omega) (hq.2.2.1 k y hy)) (aa_go (aa_ldc iX12_states_54 ld_X12_170) (aa_go (aa_iremN iX12_states_56 (by omega) (by omega) (by omega)) ?_)))))
        refine aa_go (aa_top (y := nI (cv P y.1)) (by rw [dm.1])) ?_
        refine aa_go (aa_istore3 iX12_states_57 rfl (by decide)) (aa_go (aa_aload0 iX12_states_58) (aa_go (aa_getR iX12_states_59 fl_X12_201 (sh_63 h3.W) rfl) (aa_go (aa_iload2 iX12_states_62) (aa_go (aa_ialE iX12_states_63 (sh_76 h3.W) (by omega) (by omega) (hq.2.2.1 k y hy)) (aa_go (aa_ldc iX12_states_64 ld_X12_170) (aa_go (aa_idivN iX12_states_66 (by omega) (by omega) (by omega)) ?_))))))
        refine aa_go (aa_top (y := nI y.2) (by rw [dm.2])) ?_
        refine aa_go (aa_istore4 iX12_states_67 rfl (by decide)) (aa_go (aa_iconst iX12_states_69 ki_0) (aa_go (aa_istore5 iX12_states_70 rfl (by decide)) ?_))
        refine loopM k y (by omega) sb (fun L2 σ4 y6 q1 q2 q3 q4 q5 => ?_) 29 0 L σ3 _ (by omega) (by omega) hs hq h0 hy hc (fun m' hm' => by omega)
        have h4 := h1.sq q1 q2.q
        refine aa_go (aa_iincN2 (k := 1) iX12_states_145 rfl (by decide)) (aa_go (aa_goto iX12_states_148) ?_)
        exact ih (k + 1) L2 σ4 _ _ _ _ (by omega) (by omega) rfl rfl q1 q2 q3 q5
  have key : aa_V mX12_states 100 0 [some (.ref 63), none, none, none, none, none, none] [] σ (fun ra σ' => ∃ L : List (Nat × Nat), ra = some (.int (nI L.length)) ∧ (L.Nodup ∧ ∀ y, y ∈ L ↔ rc P (gst g, gtn g) y) ∧ MJ P tx n g kp lk 1 (rw1 (lo P (gen g) L)) Q r dy σ σ') := by
    have pl := pO_lt sb0
    have hq0 : QS P (gst g, gtn g) (Q + 1) [] (aa_sI (aa_sI σ 63 0 (nI 0)) 63 24 (nI (Q + 1))).1 := ⟨List.nodup_nil, fun y hy => absurd hy List.not_mem_nil, fun k y hy => by simp at hy, k2.1, k2.2.1, fun p hp => by
      obtain ⟨q, q1, q2⟩ := h1.q.2.2 p hp
      refine ⟨q, by omega, by rw [sI_ne (by decide)]; exact q2, ⟨fun c => by omega, ?_⟩⟩
      rintro ⟨z, z1, -⟩
      exact absurd z1 List.not_mem_nil⟩
    have hWq : aa_W r dy (aa_sI (aa_sI (aa_sI σ 63 0 (nI 0)) 63 24 (nI (Q + 1))) 76 0 (nI (pO P (gst g, gtn g)))) := h2.W.sI _ _ _
    have hKp := m_keeps hWq (p := pO P (gst g, gtn g)) (Q := Q + 1) (by omega) (by rw [sI_ne (by decide)]; exact k2.1) (nI 0)
    have hq1 := hq0.add ok (i' := (aa_sI (aa_sI (aa_sI (aa_sI (aa_sI σ 63 0 (nI 0)) 63 24 (nI (Q + 1))) 76 0 (nI (pO P (gst g, gtn g)))) 74 (pO P (gst g, gtn g)) (nI (Q + 1))) 75 (pO P (gst g, gtn g)) (nI 0)).1) sb0 (rc.rf _) List.not_mem_nil (fun k hk => by rw [sI_ne (by decide), sI_ne (by decide), sI_nk (show k ≠ 0 from hk)]) (by rw [sI_ne (by decide), sI_ne (by decide)]; exact sI_eq) (by rw [sI_ne (by decide), sI_ne (by decide), sI_ne (by decide)]) (fun p hp => by rw [sI_ne (by decide), sI_nk hp, sI_ne (by decide)]) (by rw [sI_ne (by decide), sI_eq])
    have hs1 := ((s0.s (c := 76) (by decide) 0 (nI (pO P (gst g, gtn g)))).s (c := 74) (by decide) (pO P (gst g, gtn g)) (nI (Q + 1))).s (c := 75) (by decide) (pO P (gst g, gtn g)) (nI 0)
    have h5 := h1.sq hs1 hq1.q
    refine aa_go (aa_aload0 iX12_states_0) (aa_go (aa_iconst iX12_states_1 ki_0) (aa_go (aa_putI iX12_states_2 fl_X12_3 (fun h => nomatch h) (sh_63 h.W) rfl ⟨rfl, rfl⟩) ?_))
    refine aa_go (aa_aload0 iX12_states_5) (aa_go (aa_cVv iX12_states_6 (hA) (by decide) lc_X12_asks lk_X12_189 (sh_63 h1.W) rfl rfl (Nat.le_of_ble_eq_true rfl)) ?_)
    refine aa_go (aa_aload0 iX12_states_9) (aa_go (aa_getR iX12_states_10 fl_X12_201 (sh_63 h2.W) rfl) (aa_go (aa_iconst iX12_states_13 ki_0) (aa_go (aa_aload0 iX12_states_14) (aa_go (aa_aload0 iX12_states_15) (aa_go (aa_getE iX12_states_16 fl_X12_99 (sh_63 h2.W) rfl h2.G.1) (aa_go (aa_aload0 iX12_states_19) (aa_go (aa_getE iX12_states_20 fl_X12_102 (sh_63 h2.W) rfl h2.G.2.1) ?_)))))))
    refine aa_go (aa_cVi iX12_states_23 (m_placeOf h2.W) (by decide) lc_X12_placeOf lk_X12_177 (sh_63 h2.W) rfl rfl (Nat.le_of_ble_eq_true rfl)) ?_
    refine aa_go (aa_top (y := nI (pO P (gst g, gtn g))) (rfl)) ?_
    refine aa_go (aa_iasN iX12_states_26 (sh_76 h2.W) (by omega) (by omega)) ?_
    refine aa_go (aa_aload0 iX12_states_27) (aa_go (aa_aload0 iX12_states_28) (aa_go (aa_getR iX12_states_29 fl_X12_201 (sh_63 hWq) rfl) (aa_go (aa_iconst iX12_states_32 ki_0) (aa_go (aa_ialE iX12_states_33 (sh_76 hWq) (by omega) (by omega) (sI_eq)) (aa_go (aa_iconst iX12_states_34 ki_0) (aa_go (aa_cVi iX12_states_35 (hKp) (by decide) lc_X12_keeps lk_X12_186 (sh_63 hWq) rfl rfl (Nat.le_of_ble_eq_true rfl)) ?_))))))
    refine aa_go (aa_pop iX12_states_38 rfl) (aa_go (aa_iconst iX12_states_39 ki_1) (aa_go (aa_istore1 iX12_states_40 rfl (by decide)) (aa_go (aa_iconst iX12_states_41 ki_0) (aa_go (aa_istore2 iX12_states_42 rfl (by decide)) ?_))))
    exact loopK 131073 0 [(gst g, gtn g)] _ _ _ _ _ (by omega) (by simp) rfl rfl hs1 hq1 (by simp) (fun i z hi => by omega)
  obtain ⟨ra, σ', ⟨L, rfl, h8, h9⟩, hS9⟩ := aa_S_of (avs := [.ref 63]) (by decide) 6 [some (.ref 63), none, none, none, none, none, none] rfl rfl key
  exact ⟨L, σ', ⟨h8, h9⟩, hS9⟩
end
