/-! EVERY CALL, on both -/
section
variable {N : Nat} {σ : aa_St}
theorem j_wins (h : JI N σ) (hN : N ≤ 64) : JSi mX11_wins mX12_wins [] N σ := by
  obtain ⟨P, tx, n, g, kp, lk, tl, rw, Q, r, dy, ⟨v, W, S, R, hX⟩, hM, hQ⟩ := h
  obtain ⟨r', dy', σ1, ⟨hX1, hC⟩, hS⟩ := p_wins hX
  exact JSi.go hM hQ hS hX1 (by omega) hC (fun h' => q_wins h' hX.GG (by omega))
theorem j_soon (h : JI N σ) (hN : N ≤ 64) : JSi mX11_soon mX12_soon [] N σ := by
  obtain ⟨P, tx, n, g, kp, lk, tl, rw, Q, r, dy, ⟨v, W, S, R, hX⟩, hM, hQ⟩ := h
  obtain ⟨r', dy', σ1, ⟨hX1, hC⟩, hS⟩ := p_soon hX
  exact JSi.go hM hQ hS hX1 (by omega) hC (fun h' => q_soon h' hX.GG (by omega))
theorem j_leave (h : JI N σ) (hN : N ≤ 64) : JSi mX11_leave mX12_leave [] N σ := by
  obtain ⟨P, tx, n, g, kp, lk, tl, rw, Q, r, dy, ⟨v, W, S, R, hX⟩, hM, hQ⟩ := h
  obtain ⟨r', dy', σ1, ⟨hX1, hC⟩, hS⟩ := p_leave hX
  exact JSi.go hM hQ hS hX1 (by omega) hC (fun h' => q_leave h' hX.GG (by omega))
theorem j_value (h : JI N σ) (hN : N ≤ 64) : JSi mX11_value mX12_value [] N σ := by
  obtain ⟨P, tx, n, g, kp, lk, tl, rw, Q, r, dy, ⟨v, W, S, R, hX⟩, hM, hQ⟩ := h
  obtain ⟨r', dy', σ1, ⟨hX1, hC⟩, hS⟩ := p_value hX
  exact JSi.go hM hQ hS hX1 (by omega) hC (fun h' => q_value h' hX.GG (by omega))
theorem j_parrots (h : JI N σ) (hN : N ≤ 64) : JSi mX11_parrots mX12_parrots [] N σ := by
  obtain ⟨P, tx, n, g, kp, lk, tl, rw, Q, r, dy, ⟨v, W, S, R, hX⟩, hM, hQ⟩ := h
  obtain ⟨r', dy', σ1, ⟨hX1, hC⟩, hS⟩ := p_parrots hX
  exact JSi.go hM hQ hS hX1 (by omega) hC (fun h' => q_parrots h' hX.GG (by omega))
theorem j_best (h : JI N σ) (hN : N ≤ 64) : JSi mX11_best mX12_best [] N σ := by
  obtain ⟨P, tx, n, g, kp, lk, tl, rw, Q, r, dy, ⟨v, W, S, R, hX⟩, hM, hQ⟩ := h
  obtain ⟨r', dy', σ1, ⟨hX1, hC⟩, hS⟩ := p_best hX (by omega)
  exact JSi.go hM hQ hS hX1 (by omega) hC (fun h' => q_best h' hX.GG (by omega))
theorem j_heaps (h : JI N σ) (hN : N ≤ 64) : JSi mX11_heaps mX12_heaps [] N σ := by
  obtain ⟨P, tx, n, g, kp, lk, tl, rw, Q, r, dy, ⟨v, W, S, R, hX⟩, hM, hQ⟩ := h
  obtain ⟨r', dy', σ1, ⟨hX1, hC⟩, hS⟩ := p_heaps hX
  exact JSi.go hM hQ hS hX1 (by omega) hC (fun h' => q_heaps h' (by omega))
theorem j_taken (h : JI N σ) (hN : N ≤ 64) : JSi mX11_taken mX12_taken [] N σ := by
  obtain ⟨P, tx, n, g, kp, lk, tl, rw, Q, r, dy, ⟨v, W, S, R, hX⟩, hM, hQ⟩ := h
  obtain ⟨σ1, ⟨hX1, hC⟩, hS⟩ := p_taken hX
  exact JSi.go hM hQ hS hX1 (by omega) hC (fun h' => q_taken h' hX.GG)
theorem j_begin (h : JI N σ) (hN : N ≤ 64) : JSi mX11_begin mX12_begin [] N σ := by
  obtain ⟨P, tx, n, g, kp, lk, tl, rw, Q, r, dy, ⟨v, W, S, R, hX⟩, hM, hQ⟩ := h
  obtain ⟨σ1, ⟨hX1, hC⟩, hS⟩ := p_begin hX
  exact JSi.go hM hQ hS hX1 (by omega) hC (fun h' => q_begin h' hX.GG)
theorem j_limits (h : JI N σ) (hN : N ≤ 64) : JSi mX11_limits mX12_limits [] N σ := by
  obtain ⟨P, tx, n, g, kp, lk, tl, rw, Q, r, dy, ⟨v, W, S, R, hX⟩, hM, hQ⟩ := h
  obtain ⟨σ1, ⟨hX1, hC⟩, hS⟩ := p_limits hX
  exact JSi.go hM hQ hS hX1 (by omega) hC (fun h' => q_limits h' hX.GG)
theorem j_forced (h : JI N σ) (hN : N ≤ 64) : JSi mX11_forced mX12_forced [] N σ := by
  obtain ⟨P, tx, n, g, kp, lk, tl, rw, Q, r, dy, ⟨v, W, S, R, hX⟩, hM, hQ⟩ := h
  obtain ⟨σ1, ⟨hX1, hC⟩, hS⟩ := p_forced hX
  exact JSi.go hM hQ hS hX1 (by omega) hC (fun h' => q_forced h' hX.GG)
theorem j_greedy (h : JI N σ) (hN : N ≤ 64) : JSi mX11_greedy mX12_greedy [] N σ := by
  obtain ⟨P, tx, n, g, kp, lk, tl, rw, Q, r, dy, ⟨v, W, S, R, hX⟩, hM, hQ⟩ := h
  obtain ⟨σ1, ⟨hX1, hC⟩, hS⟩ := p_greedy hX
  exact JSi.go hM hQ hS hX1 (by omega) hC (fun h' => q_greedy h' hX.GG)
theorem j_joined (h : JI N σ) (hN : N ≤ 64) : JSi mX11_joined mX12_joined [] N σ := by
  obtain ⟨P, tx, n, g, kp, lk, tl, rw, Q, r, dy, ⟨v, W, S, R, hX⟩, hM, hQ⟩ := h
  obtain ⟨σ1, ⟨hX1, hC⟩, hS⟩ := p_joined hX
  exact JSi.go hM hQ hS hX1 (by omega) hC (fun h' => q_joined h')
theorem j_undo (h : JI N σ) (hN : N ≤ 64) : JSi mX11_undo mX12_undo [] N σ := by
  obtain ⟨P, tx, n, g, kp, lk, tl, rw, Q, r, dy, ⟨v, W, S, R, hX⟩, hM, hQ⟩ := h
  by_cases c : g.1 = 0
  · exact JSi.no hX hM hQ (p_undo0 hX c) (q_undo0 hM c)
  · obtain ⟨m, hm⟩ : ∃ m, g.1 = m + 1 := ⟨g.1 - 1, by omega⟩
    obtain ⟨σ1, ⟨hX1, hC⟩, hS⟩ := p_undo hX hm
    exact JSi.go hM hQ hS hX1 (by omega) hC (fun h' => q_undo h' hX.GG hm)
theorem j_mean (h : JI N σ) (hN : N ≤ 64) : JSi mX11_mean mX12_mean [] N σ := by
  obtain ⟨P, tx, n, g, kp, lk, tl, rw, Q, r, dy, ⟨v, W, S, R, hX⟩, hM, hQ⟩ := h
  by_cases c : 6 < pl_cn (gth P g) 14 ∨ 0 < pl_b P
  · exact JSi.no hX hM hQ (p_meanB hX c) (q_meanT hM c)
  · obtain ⟨σ1, ⟨hX1, hC⟩, hS⟩ := p_mean hX c
    exact JSi.go hM hQ hS hX1 (by omega) hC (fun h' => q_mean h' hX.GG (by omega) c)
theorem j_single (h : JI N σ) (hN : N ≤ 64) : JSi mX11_single mX12_single [] N σ := by
  obtain ⟨P, tx, n, g, kp, lk, tl, rw, Q, r, dy, ⟨v, W, S, R, hX⟩, hM, hQ⟩ := h
  by_cases c : 8 < pl_cn (gth P g) 14 ∨ 0 < pl_b P
  · exact JSi.no hX hM hQ (p_singleT hX c) (q_singleT hM c)
  · obtain ⟨r', dy', σ1, ⟨hX1, hC⟩, hS⟩ := p_single hX (by omega) c
    exact JSi.go hM hQ hS hX1 (by omega) hC (fun h' => q_single h' hX.GG (by omega) c)
theorem j_change (h : JI N σ) (hN : N ≤ 64) : JSi mX11_change mX12_change [] N σ := by
  obtain ⟨P, tx, n, g, kp, lk, tl, rw, Q, r, dy, ⟨v, W, S, R, hX⟩, hM, hQ⟩ := h
  by_cases c : 8 < pl_cn (gth P g) 14 ∨ 0 < pl_b P
  · exact JSi.no hX hM hQ (p_changeT hX c) (q_changeT hM c)
  · obtain ⟨ra, r', dy', σ1, hp, hS⟩ := p_change hX (by omega) c
    rcases hp with ⟨tl', rw', c1, hX1, hC⟩ | ⟨n1, n2, rfl, hX1, hC⟩
    · refine JSi.go hM hQ hS hX1 (by omega) hC (fun h' => ?_)
      obtain ⟨z, σ2, hq, hS2⟩ := q_change h' hX.GG (by omega) c
      rcases hq with ⟨tl2, rw2', c2, hJ⟩ | ⟨m1, m2, -, -⟩
      · rcases c1 with ⟨a, a1, a2⟩ | ⟨a0, a, b, a1, a2⟩
        · rcases c2 with ⟨a', b1, b2⟩ | ⟨b0, -⟩
          · rw [a1] at b1
            cases b1
            cases a2
            cases b2
            exact ⟨σ2, hJ, hS2⟩
          · rw [a1] at b0; cases b0
        · rcases c2 with ⟨a', b1, b2⟩ | ⟨b0, a', b', b1, b2⟩
          · rw [a0] at b1; cases b1
          · rw [a1] at b1
            cases b1
            cases a2
            cases b2
            exact ⟨σ2, hJ, hS2⟩
      · rcases c1 with ⟨a, a1, a2⟩ | ⟨a0, a, b, a1, a2⟩
        · rw [m1] at a1; cases a1
        · rw [m2] at a1; cases a1
    · refine JSi.go hM hQ hS hX1 (by omega) hC (fun h' => ?_)
      obtain ⟨z, σ2, hq, hS2⟩ := q_change h' hX.GG (by omega) c
      rcases hq with ⟨tl2, rw2', c2, hJ⟩ | ⟨m1, m2, rfl, hJ⟩
      · rcases c2 with ⟨a', b1, b2⟩ | ⟨b0, a', b', b1, b2⟩
        · rw [n1] at b1; cases b1
        · rw [n2] at b1; cases b1
      · exact ⟨σ2, hJ, hS2⟩
theorem j_states (h : JI N σ) (hN : N ≤ 64) : JSi mX11_states mX12_states [] N σ := by
  obtain ⟨P, tx, n, g, kp, lk, tl, rw, Q, r, dy, ⟨v, W, S, R, hX⟩, hM, hQ⟩ := h
  obtain ⟨L, r', dy', σ1, ⟨⟨l1, l2⟩, hX1, hC⟩, hS⟩ := p_states hX (by omega)
  refine JSi.go hM hQ hS hX1 (by omega) hC (fun h' => ?_)
  obtain ⟨L', σ2, ⟨⟨k1, k2⟩, hJ⟩, hS2⟩ := q_states h' hX.GG (by omega)
  have pm : L'.Perm L := (List.perm_ext_iff_of_nodup k1 l1).mpr (fun y => (k2 y).trans (l2 y).symm)
  have e1 : L'.length = L.length := pm.length_eq
  have e2 : lo P (gen g) L' = lo P (gen g) L := (pm.filter _).length_eq
  rw [e1] at hS2
  rw [e2] at hJ
  exact ⟨σ2, hJ, hS2⟩
theorem j_piles (h : JI N σ) (hN : N ≤ 64) : JSi mX11_piles mX12_piles [] N σ := by
  obtain ⟨P, tx, n, g, kp, lk, tl, rw, Q, r, dy, ⟨v, W, S, R, hX⟩, hM, hQ⟩ := h
  obtain ⟨ra, o, σ1, ⟨hR, hX1, hC⟩, hS⟩ := p_piles hX
  refine JSi.go hM hQ hS hX1 (by omega) hC (fun h' => ?_)
  obtain ⟨z, o', σ2, ⟨hR', hJ⟩, hS2⟩ := q_piles h' hX.GG
  obtain ⟨rfl, rfl⟩ := RD_fun hR hR'
  exact ⟨σ2, hJ, hS2⟩
theorem j_sign (h : JI N σ) (hN : N ≤ 64) (x : Int32) : JSi mX11_sign mX12_sign [.int x] N σ := by
  obtain ⟨P, tx, n, g, kp, lk, tl, rw, Q, r, dy, ⟨v, W, S, R, hX⟩, hM, hQ⟩ := h
  obtain ⟨a, ha, rfl⟩ := i32_nat x
  by_cases c : n ≤ 76
  · obtain ⟨σ1, ⟨hX1, hC⟩, hS⟩ := p_signY hX c ha
    exact JSi.go hM hQ hS hX1 (by omega) hC (fun h' => q_signY h' c ha)
  · exact JSi.no hX hM hQ (p_signN hX (by omega) _) (q_signN hM (by omega) _)
theorem j_end (h : JI N σ) (hN : N ≤ 64) (x : Int32) : JSi mX11_end mX12_end [.int x] N σ := by
  obtain ⟨P, tx, n, g, kp, lk, tl, rw, Q, r, dy, ⟨v, W, S, R, hX⟩, hM, hQ⟩ := h
  have n80 := hM.X.2.1
  rcases i32_rng x n (by omega) with hb | ⟨k, hk, rfl⟩
  · exact JSi.no hX hM hQ (p_endN hX hb) (q_endN hM hb)
  · obtain ⟨σ1, ⟨hX1, hC⟩, hS⟩ := p_endY hX hk
    exact JSi.go hM hQ hS hX1 (by omega) hC (fun h' => q_endY h' hk)
theorem j_ends (h : JI N σ) (hN : N ≤ 64) (x : Int32) : JSi mX11_ends mX12_ends [.int x] N σ := by
  obtain ⟨P, tx, n, g, kp, lk, tl, rw, Q, r, dy, ⟨v, W, S, R, hX⟩, hM, hQ⟩ := h
  rcases i32_rng x 1 (by omega) with hb | ⟨k, hk, rfl⟩
  · exact JSi.no hX hM hQ (p_endsB hX.1 hb) (q_endsB hM hb)
  · obtain ⟨σ1, ⟨hX1, hC⟩, hS⟩ := p_ends hX hk
    exact JSi.go hM hQ hS hX1 (by omega) hC (fun h' => q_ends h' hk)
theorem j_may (h : JI N σ) (hN : N ≤ 64) (x : Int32) : JSi mX11_may mX12_may [.int x] N σ := by
  obtain ⟨P, tx, n, g, kp, lk, tl, rw, Q, r, dy, ⟨v, W, S, R, hX⟩, hM, hQ⟩ := h
  rcases i32_rng x 2 (by omega) with hb | ⟨k, hk, rfl⟩
  · exact JSi.no hX hM hQ (p_mayB hX.1 hb) (q_mayB hM hb)
  · exact JSi.no hX hM hQ (p_may hX hk) (q_may hM hX.GG hk)
theorem j_tempo (h : JI N σ) (hN : N ≤ 64) (x : Int32) : JSi mX11_tempo mX12_tempo [.int x] N σ := by
  obtain ⟨P, tx, n, g, kp, lk, tl, rw, Q, r, dy, ⟨v, W, S, R, hX⟩, hM, hQ⟩ := h
  rcases i32_rng x 2 (by omega) with hb | ⟨k, hk, rfl⟩
  · exact JSi.no hX hM hQ (p_tempoB hX hb) (q_tempoB hM hb)
  · obtain ⟨σ1, ⟨hX1, hC⟩, hS⟩ := p_tempo hX hk
    exact JSi.go hM hQ hS hX1 (by omega) hC (fun h' => q_tempo h' hX.GG (by omega) hk)
theorem j_make (h : JI N σ) (hN : N ≤ 64) (x : Int32) : JSi mX11_make mX12_make [.int x] N σ := by
  obtain ⟨P, tx, n, g, kp, lk, tl, rw, Q, r, dy, ⟨v, W, S, R, hX⟩, hM, hQ⟩ := h
  rcases i32_rng x 31 (by omega) with hb | ⟨k, hk, rfl⟩
  · exact JSi.no hX hM hQ (p_makeB hX hb) (q_makeB hM hb)
  · obtain ⟨r', dy', σ1, ⟨hX1, hC⟩, hS⟩ := p_make hX hk
    exact JSi.go hM hQ hS hX1 (by omega) hC (fun h' => q_make h' hX.GG (by omega) hk)
theorem j_parrot (h : JI N σ) (hN : N ≤ 64) (x : Int32) : JSi mX11_parrot mX12_parrot [.int x] N σ := by
  obtain ⟨P, tx, n, g, kp, lk, tl, rw, Q, r, dy, ⟨v, W, S, R, hX⟩, hM, hQ⟩ := h
  rcases i32_rng x 2 (by omega) with hb | ⟨k, hk, rfl⟩
  · exact JSi.no hX hM hQ (p_parrotB hX.1 hb) (q_parrotB hM hb)
  · obtain ⟨r', dy', σ1, ⟨hX1, hC⟩, hS⟩ := p_parrot hX hk
    exact JSi.go hM hQ hS hX1 (by omega) hC (fun h' => q_parrot h' hX.GG (by omega) hk)
theorem j_out (h : JI N σ) (hN : N ≤ 64) (x : Int32) : JSi mX11_out mX12_out [.int x] N σ := by
  obtain ⟨P, tx, n, g, kp, lk, tl, rw, Q, r, dy, ⟨v, W, S, R, hX⟩, hM, hQ⟩ := h
  rcases i32_rng x 2 (by omega) with hb | ⟨k, hk, rfl⟩
  · exact JSi.no hX hM hQ (p_outB hX.1 hb) (q_outB hM hb)
  · obtain ⟨r', dy', σ1, ⟨hX1, hC⟩, hS⟩ := p_out hX hk
    exact JSi.go hM hQ hS hX1 (by omega) hC (fun h' => q_out h' hX.GG (by omega) hk)
theorem j_count (h : JI N σ) (hN : N ≤ 64) (x : Int32) : JSi mX11_count mX12_count [.int x] N σ := by
  obtain ⟨P, tx, n, g, kp, lk, tl, rw, Q, r, dy, ⟨v, W, S, R, hX⟩, hM, hQ⟩ := h
  rcases i32_rng x 7 (by omega) with hb | ⟨k, hk, rfl⟩
  · exact JSi.no hX hM hQ (p_countB hX.1 hb) (q_countB hM hb)
  · exact JSi.no hX hM hQ (p_count hX hk) (q_count hM hk)
theorem j_alone (h : JI N σ) (hN : N ≤ 64) (x : Int32) : JSi mX11_alone mX12_alone [.int x] N σ := by
  obtain ⟨P, tx, n, g, kp, lk, tl, rw, Q, r, dy, ⟨v, W, S, R, hX⟩, hM, hQ⟩ := h
  obtain ⟨a, ha, rfl⟩ := i32_nat x
  by_cases c : a < 2 ^ pl_n P
  · obtain ⟨r', dy', σ1, ⟨hX1, hC⟩, hS⟩ := p_alone hX c
    exact JSi.go hM hQ hS hX1 (by omega) hC (fun h' => q_alone h' (by omega) c)
  · exact JSi.no hX hM hQ (p_aloneB hX ha c) (q_aloneB hM ha c)
theorem j_heap (h : JI N σ) (hN : N ≤ 64) (x : Int32) : JSi mX11_heap mX12_heap [.int x] N σ := by
  obtain ⟨P, tx, n, g, kp, lk, tl, rw, Q, r, dy, ⟨v, W, S, R, hX⟩, hM, hQ⟩ := h
  have n14 := hM.n14
  rcases i32_lt x (pl_n P) (by omega) with hb | ⟨k, hk, rfl⟩
  · exact JSi.no hX hM hQ (p_heapB hX hb) (q_heapB hM hb)
  · exact JSi.no hX hM hQ (p_heap hX hk) (q_heap hM hk)
theorem j_alike (h : JI N σ) (hN : N ≤ 64) (x y : Int32) : JSi mX11_alike mX12_alike [.int x, .int y] N σ := by
  obtain ⟨P, tx, n, g, kp, lk, tl, rw, Q, r, dy, ⟨v, W, S, R, hX⟩, hM, hQ⟩ := h
  have n14 := hM.n14
  rcases i32_lt x (pl_n P) (by omega) with hb | ⟨k, hk, rfl⟩
  · exact JSi.no hX hM hQ (p_alikeB hX (Or.inl hb)) (q_alikeB hM (Or.inl hb))
  · rcases i32_lt y (pl_n P) (by omega) with hb | ⟨j, hj, rfl⟩
    · exact JSi.no hX hM hQ (p_alikeB hX (Or.inr hb)) (q_alikeB hM (Or.inr hb))
    · obtain ⟨σ1, ⟨hX1, hC⟩, hS⟩ := p_alike hX hk hj
      exact JSi.go hM hQ hS hX1 (by omega) hC (fun h' => q_alike h' hk hj)
theorem j_would (h : JI N σ) (hN : N ≤ 64) (x y : Int32) : JSi mX11_would mX12_would [.int x, .int y] N σ := by
  obtain ⟨P, tx, n, g, kp, lk, tl, rw, Q, r, dy, ⟨v, W, S, R, hX⟩, hM, hQ⟩ := h
  rcases i32_rng x 1 (by omega) with hb | ⟨k, hk, rfl⟩
  · exact JSi.no hX hM hQ (p_wouldB hX.1 (Or.inl hb)) (q_wouldB hM (Or.inl hb))
  · rcases i32_rng y 1 (by omega) with hb | ⟨j, hj, rfl⟩
    · exact JSi.no hX hM hQ (p_wouldB hX.1 (Or.inr hb)) (q_wouldB hM (Or.inr hb))
    · obtain ⟨r', dy', σ1, ⟨hX1, hC⟩, hS⟩ := p_would hX hk hj
      exact JSi.go hM hQ hS hX1 (by omega) hC (fun h' => q_would h' hX.GG (by omega) hk hj)
theorem j_gets (h : JI N σ) (hN : N ≤ 64) (x y : Int32) : JSi mX11_gets mX12_gets [.int x, .int y] N σ := by
  obtain ⟨P, tx, n, g, kp, lk, tl, rw, Q, r, dy, ⟨v, W, S, R, hX⟩, hM, hQ⟩ := h
  obtain ⟨a, ha, rfl⟩ := i32_nat y
  rcases i32_rng x 1 (by omega) with hb | ⟨k, hk, rfl⟩
  · exact JSi.no hX hM hQ (p_getsB hX ha (Or.inl hb)) (q_getsB hM ha (Or.inl hb))
  · by_cases c : a < 2 ^ pl_n P
    · obtain ⟨r', dy', σ1, ⟨hX1, hC⟩, hS⟩ := p_gets hX (by omega) hk c
      exact JSi.go hM hQ hS hX1 (by omega) hC (fun h' => q_gets h' (by omega) hk c)
    · exact JSi.no hX hM hQ (p_getsB hX ha (Or.inr c)) (q_getsB hM ha (Or.inr c))
theorem j_likes (h : JI N σ) (hN : N ≤ 64) (x y : Int32) : JSi mX11_likes mX12_likes [.int x, .int y] N σ := by
  obtain ⟨P, tx, n, g, kp, lk, tl, rw, Q, r, dy, ⟨v, W, S, R, hX⟩, hM, hQ⟩ := h
  rcases i32_rng x 2 (by omega) with hb | ⟨k, hk, rfl⟩
  · exact JSi.no hX hM hQ (p_likesB hX.1 (Or.inl hb)) (q_likesB hM (Or.inl hb))
  · rcases i32_rng y 2 (by omega) with hb | ⟨j, hj, rfl⟩
    · exact JSi.no hX hM hQ (p_likesB hX.1 (Or.inr (Or.inl hb))) (q_likesB hM (Or.inr (Or.inl hb)))
    · by_cases c : k = j
      · exact JSi.no hX hM hQ (p_likesB hX.1 (Or.inr (Or.inr (by rw [c])))) (q_likesB hM (Or.inr (Or.inr (by rw [c]))))
      · obtain ⟨σ1, ⟨hX1, hC⟩, hS⟩ := p_likes hX hk hj c
        exact JSi.go hM hQ hS hX1 (by omega) hC (fun h' => q_likes h' hk hj c)
theorem j_notary (h : JI N σ) (hN : N ≤ 64) (x y : Int32) : JSi mX11_notary mX12_notary [.int x, .int y] N σ := by
  obtain ⟨P, tx, n, g, kp, lk, tl, rw, Q, r, dy, ⟨v, W, S, R, hX⟩, hM, hQ⟩ := h
  rcases i32_rng x 1 (by omega) with hb | ⟨k, hk, rfl⟩
  · exact JSi.no hX hM hQ (p_notaryB hX.1 (Or.inl hb)) (q_notaryB hM (Or.inl hb))
  · rcases i32_rng y 10 (by omega) with hb | ⟨j, hj, rfl⟩
    · exact JSi.no hX hM hQ (p_notaryB hX.1 (Or.inr hb)) (q_notaryB hM (Or.inr hb))
    · by_cases c : 6 < pl_cn (gth P g) 14 ∨ 0 < pl_b P
      · exact JSi.no hX hM hQ (p_notaryT hX c hk hj) (q_notaryT hM c hk hj)
      · obtain ⟨σ1, ⟨hX1, hC⟩, hS⟩ := p_notary hX c hk hj
        exact JSi.go hM hQ hS hX1 (by omega) hC (fun h' => q_notary h' hX.GG (by omega) c hk hj)
theorem j_judge (h : JI N σ) (hN : N ≤ 64) (x y z w : Int32) : JSi mX11_judge mX12_judge [.int x, .int y, .int z, .int w] N σ := by
  obtain ⟨P, tx, n, g, kp, lk, tl, rw, Q, r, dy, ⟨v, W, S, R, hX⟩, hM, hQ⟩ := h
  rcases i32_rng x 15 (by omega) with hb | ⟨k, hk, rfl⟩
  · exact JSi.no hX hM hQ (p_judgeB hX.1 hb) (q_judgeB hM hb)
  · obtain ⟨a, ha, rfl⟩ := i32_nat y
    obtain ⟨b, hb, rfl⟩ := i32_nat z
    obtain ⟨c, hc, rfl⟩ := i32_nat w
    obtain ⟨ra, x1, y1, σ1, ⟨hJ1, hX1, hC⟩, hS⟩ := p_judge hX hk ha hb hc
    refine JSi.go hM hQ hS hX1 (by omega) hC (fun h' => ?_)
    obtain ⟨ra', x2, y2, σ2, ⟨hJ2, hJ⟩, hS2⟩ := q_judge h' hk ha hb hc
    obtain ⟨rfl, rfl, rfl⟩ := JR_fun hJ1 hJ2
    exact ⟨σ2, hJ, hS2⟩
theorem j_keep (h : JI N σ) (hN : N ≤ 64) (x : Int32) : JSi mX11_keep mX12_keep [.int x] N σ := by
  obtain ⟨P, tx, n, g, kp, lk, tl, rw, Q, r, dy, ⟨v, W, S, R, hX⟩, hM, hQ⟩ := h
  rcases i32_rng x 2 (by omega) with hb | ⟨k, hk, rfl⟩
  · exact JSi.no hX hM hQ (p_keepB hX.1 hb) (q_keepB hM hb)
  · rcases (show k = 0 ∨ k = 1 ∨ k = 2 by omega) with rfl | rfl | rfl
    · obtain ⟨σ1, ⟨hX1, hC⟩, hS⟩ := p_keep0 hX
      exact JSi.go hM hQ hS hX1 (by omega) hC (fun h' => q_keep h' hX.GG hX.KG hk)
    · obtain ⟨σ1, ⟨hX1, hC⟩, hS⟩ := p_keep1 hX
      exact JSi.go hM hQ hS hX1 (by omega) hC (fun h' => q_keep h' hX.GG hX.KG hk)
    · obtain ⟨σ1, ⟨hX1, hC⟩, hS⟩ := p_keep2 hX
      exact JSi.go hM hQ hS hX1 (by omega) hC (fun h' => q_keep h' hX.GG hX.KG hk)
theorem j_again (h : JI N σ) (hN : N ≤ 64) (x : Int32) : JSi mX11_again mX12_again [.int x] N σ := by
  obtain ⟨P, tx, n, g, kp, lk, tl, rw, Q, r, dy, ⟨v, W, S, R, hX⟩, hM, hQ⟩ := h
  rcases i32_rng x 2 (by omega) with hb | ⟨k, hk, rfl⟩
  · exact JSi.no hX hM hQ (p_againB hX.1 hb) (q_againB hM hb)
  · cases e : kp k with
    | none =>
      rcases (show k = 0 ∨ k = 1 ∨ k = 2 by omega) with rfl | rfl | rfl
      · exact JSi.no hX hM hQ (p_againN0 hX e) (q_againN hM hk e)
      · exact JSi.no hX hM hQ (p_againN1 hX e) (q_againN hM hk e)
      · exact JSi.no hX hM hQ (p_againN2 hX e) (q_againN hM hk e)
    | some g1 =>
      rcases (show k = 0 ∨ k = 1 ∨ k = 2 by omega) with rfl | rfl | rfl
      · obtain ⟨σ1, ⟨hX1, hC⟩, hS⟩ := p_again0 hX e
        exact JSi.go hM hQ hS hX1 (by omega) hC (fun h' => q_again h' hX.KG hk e)
      · obtain ⟨σ1, ⟨hX1, hC⟩, hS⟩ := p_again1 hX e
        exact JSi.go hM hQ hS hX1 (by omega) hC (fun h' => q_again h' hX.KG hk e)
      · obtain ⟨σ1, ⟨hX1, hC⟩, hS⟩ := p_again2 hX e
        exact JSi.go hM hQ hS hX1 (by omega) hC (fun h' => q_again h' hX.KG hk e)
theorem j_move (h : JI N σ) (hN : N ≤ 64) (x : Int32) : JSi mX11_move mX12_move [.int x] N σ := by
  obtain ⟨P, tx, n, g, kp, lk, tl, rw, Q, r, dy, ⟨v, W, S, R, hX⟩, hM, hQ⟩ := h
  rcases i32_rng x 27 (by omega) with hb | ⟨m, hk, rfl⟩
  · exact JSi.no hX hM hQ (p_moveB hX (Or.inl hb)) (q_moveB hM (Or.inl hb))
  · by_cases c : m % 14 < pl_n P
    · by_cases c2 : ∃ j, pl_sp P m = some j ∧ pl_lg P (gtn g) (gst g) j = true
      · obtain ⟨j, hj, hl⟩ := c2
        obtain ⟨σ1, ⟨hX1, hC⟩, hS⟩ := p_moveY hX (by omega) c hj (pl_sp_lt hj) hl
        have h18 : g.1 < 18 := by
          obtain ⟨v', W', S', R', hX2⟩ := hX1
          have := hX2.G.2.1
          have : g.1 + 1 ≤ 18 := this
          omega
        exact JSi.go hM hQ hS hX1 (by omega) hC (fun h' => q_moveY h' hX.GG (by omega) c hj hl h18)
      · have hn : ∀ j, pl_sp P m = some j → pl_lg P (gtn g) (gst g) j = false := fun j hj => by
          cases q : pl_lg P (gtn g) (gst g) j with
          | false => rfl
          | true => exact absurd ⟨j, hj, q⟩ c2
        exact JSi.no hX hM hQ (p_moveN hX (by omega) c (fun j hj => ⟨pl_sp_lt hj, hn j hj⟩)) (q_moveN hM hX.GG (by omega) c hn)
    · exact JSi.no hX hM hQ (p_moveB hX (Or.inr ⟨m, rfl, by omega, c⟩)) (q_moveB hM (Or.inr ⟨m, rfl, by omega, c⟩))
theorem j_wall (h : JI N σ) (hN : N ≤ 64) (x y z w : Int32) : JSi mX11_wall mX12_wall [.int x, .int y, .int z, .int w] N σ := by
  obtain ⟨P, tx, n, g, kp, lk, tl, rw, Q, r, dy, ⟨v, W, S, R, hX⟩, hM, hQ⟩ := h
  by_cases c : 0 ≤ x ∧ x ≤ nI 7 ∧ 0 ≤ y ∧ y ≤ x ∧ 0 ≤ z ∧ z ≤ y ∧ 0 ≤ w ∧ w ≤ z
  · obtain ⟨c1, c2, c3, c4, c5, c6, c7, c8⟩ := c
    rw [Int32.le_iff_toInt_le, Int32.toInt_zero] at c1 c3 c5 c7
    rw [Int32.le_iff_toInt_le, nI_toInt (by omega)] at c2
    rw [Int32.le_iff_toInt_le] at c4 c6 c8
    have rd : ∀ q : Int32, 0 ≤ q.toInt → q.toInt ≤ 7 → q = nI q.toInt.toNat := fun q q1 q2 => by
      apply Int32.toInt_inj.mp
      rw [nI_toInt (by omega)]; omega
    rw [rd x (by omega) (by omega), rd y (by omega) (by omega), rd z (by omega) (by omega), rd w (by omega) (by omega)]
    obtain ⟨r', dy', σ1, ⟨hX1, hC⟩, hS⟩ := p_wall hX (a := x.toInt.toNat) (b := y.toInt.toNat) (c := z.toInt.toNat) (d := w.toInt.toNat) (by omega) (by omega) (by omega) (by omega)
    exact JSi.go hM hQ hS hX1 (by omega) hC (fun h' => q_wall h' (by omega) (by omega) (by omega) (by omega) (by omega))
  · exact JSi.no hX hM hQ (p_wallB hX.1 c) (q_wallB hM c)
theorem j_sheet (h : JI N σ) (hN : N ≤ 64) (x y z w : Int32) : JSi mX11_sheet mX12_sheet [.int x, .int y, .int z, .int w] N σ := by
  obtain ⟨P, tx, n, g, kp, lk, tl, rw, Q, r, dy, ⟨v, W, S, R, hX⟩, hM, hQ⟩ := h
  rcases i32_rng x 3 (by omega) with hb | ⟨k, hk, rfl⟩
  · exact JSi.no hX hM hQ (p_sheetB hX.1 (Or.inl hb)) (q_sheetB hM (Or.inl hb))
  · by_cases c : y ≤ nI 14
    · by_cases c3 : k = 3
      · obtain ⟨σ1, ⟨hX1, hC⟩, hS⟩ := p_sheet hX (k := k) (ent := 0) (x := y) (f := z) (st := w) hk c (Or.inl ⟨c3, rfl⟩)
        have hok : pl_ok (shP P k 0 z w) := by
          obtain ⟨v', W', S', R', hX2⟩ := hX1
          exact hX2.ok
        exact JSi.go hM hQ hS hX1 (by omega) hC (fun h' => q_sheet h' hok hk c (Or.inl ⟨c3, rfl⟩))
      · rcases i32_rng y 14 (by omega) with hb | ⟨j, hj, rfl⟩
        · rcases hb with hb | hb
          · exact JSi.no hX hM hQ (p_sheetM hX.1 (by omega) hb) (q_sheetM hM (by omega) hb)
          · rw [Int32.le_iff_toInt_le] at c
            rw [Int32.lt_iff_toInt_lt] at hb
            omega
        · obtain ⟨σ1, ⟨hX1, hC⟩, hS⟩ := p_sheet hX (k := k) (ent := j) (x := nI j) (f := z) (st := w) hk c (Or.inr ⟨by omega, rfl, hj⟩)
          have hok : pl_ok (shP P k j z w) := by
            obtain ⟨v', W', S', R', hX2⟩ := hX1
            exact hX2.ok
          exact JSi.go hM hQ hS hX1 (by omega) hC (fun h' => q_sheet h' hok hk c (Or.inr ⟨by omega, rfl, hj⟩))
    · exact JSi.no hX hM hQ (p_sheetB hX.1 (Or.inr c)) (q_sheetB hM (Or.inr c))
theorem j_lines (h : JI N σ) (hN : N ≤ 64) (x : Int32) : JSl mX11_lines mX12_lines [.int x] N σ := by
  obtain ⟨P, tx, n, g, kp, lk, tl, rw, Q, r, dy, ⟨v, W, S, R, hX⟩, hM, hQ⟩ := h
  rcases i32_rng x 5 (by omega) with hb | ⟨k, hk, rfl⟩
  · obtain ⟨σ2, h1, h2⟩ := q_linesB hM hb
    exact ⟨_, σ, σ2, p_linesB hX hb, h2, ⟨r, dy, hM.W⟩, JI.of hX.to h1 hQ (by omega)⟩
  · obtain ⟨r', σ2, ⟨h1, hF⟩, h2⟩ := q_lines hM hX.GG hk
    exact ⟨_, σ, σ2, p_lines hX hk, h2, ⟨r, dy, hM.W⟩, P, tx, n, g, kp, lk, tl, rw, Q, r', dy, ((hX.up (by omega)).mf hF h1.W h1.R).to, h1, by omega⟩
end
