/-! THE LAW'S CASES (printed by wip/gen/lcase.py) -/
abbrev lg_ls (i : Nat) (v5 v6 v7 : Option Value) : aa_L := [some (.float 1), some (.ref 0), some (.ref 63), some (.ref 86), some (.int (nI i)), v5, v6, v7]
/-- the next round -/
def lg_E (i N : Nat) (pc : Nat) (ls : aa_L) (st : List Value) (σ : aa_St) : Prop := pc = 23 ∧ st = [] ∧ JI (N + 1) σ ∧ ∃ v5 v6 v7 : Option Value, ls = lg_ls (i + 5) v5 v6 v7
section
variable {x : lg_X} {n : Nat} {f : Nat → Int32} {N i : Nat} {σ : aa_St} {v5 v6 v7 : Option Value}
theorem lg_rd (ok : lg_ok n f x) {E : Nat → aa_L → List Value → aa_St → Prop} {st : List Value} {pc p1 p2 p3 p4 p5 : Nat} {j : Int} {jn : Nat} (d1 : aa_At mL_law pc (.aload_n 0) 1 p1) (d2 : aa_At mL_law p1 (.iload 4) 2 p2) (d3 : aa_At mL_law p2 (.iconst j) 1 p3) (d4 : aa_At mL_law p3 .iadd 1 p4) (d5 : aa_At mL_law p4 .iaload 1 p5) (hv : Int32.ofInt j = nI jn) (hj : i + jn < n) (hn : n ≤ 320)
    (k : lg_V x p5 (lg_ls i v5 v6 v7) (.int (f (i + jn)) :: st) σ E) : lg_V x pc (lg_ls i v5 v6 v7) st σ E :=
  lg_go ok (aa_aload0F d1) (lg_go ok (aa_iload4 d2) (lg_go ok (aa_iconst d3 hv) (lg_go ok (aa_iaddN d4) (lg_gg (lg_scr ok d5 hj (by omega)) k))))
theorem lc_tail (ok : lg_ok n f x) (h : JI (N + 1) σ) : lg_V x 1342 (lg_ls i v5 v6 v7) [] σ (lg_E i N) :=
  lg_go ok (aa_iinc4 (v := nI (i + 5)) iL_law_1342 (nI_add i 5) rfl (by decide)) (lg_go ok (aa_goto iL_law_1345) (lg_end ⟨rfl, rfl, h, v5, v6, v7, rfl⟩))
theorem lc_0 (ok : lg_ok n f x) (h : JI N σ) (hN : N ≤ 64) (hi : i + 5 ≤ n) (hn : n ≤ 320) : lg_V x 228 (lg_ls i v5 v6 v7) [] σ (lg_E i N) := by
  obtain ⟨a, σ1, σ2, s1, s2, ⟨r1, d1, w1⟩, hJ⟩ := j_sign h hN (f (i + 1))
  obtain ⟨r0, d0, w0⟩ := h.W
  refine lg_go ok (aa_aload1 iL_law_228) ?_
  refine lg_rd ok iL_law_229 iL_law_230 iL_law_232 iL_law_233 iL_law_234 (jn := 1) rfl (by omega) hn ?_
  refine lg_go ok (aa_cVi iL_law_235 s1 (by decide) lc_X11_sign lk_L_23 (sh_0 w0) rfl rfl (Nat.le_of_ble_eq_true rfl)) ?_
  refine lg_go ok (aa_aload2 iL_law_238) ?_
  refine lg_rd ok iL_law_239 iL_law_240 iL_law_242 iL_law_243 iL_law_244 (jn := 1) rfl (by omega) hn ?_
  refine lg_go ok (aa_cVi iL_law_245 s2 (by decide) lc_X12_sign lk_L_27 (sh_63 w1) rfl rfl (Nat.le_of_ble_eq_true rfl)) ?_
  exact lg_go ok (aa_ic_eqT iL_law_248 rfl) (lc_tail ok hJ)
theorem lc_1 (ok : lg_ok n f x) (h : JI N σ) (hN : N ≤ 64) (hi : i + 5 ≤ n) (hn : n ≤ 320) : lg_V x 253 (lg_ls i v5 v6 v7) [] σ (lg_E i N) := by
  obtain ⟨a, σ1, σ2, s1, s2, ⟨r1, d1, w1⟩, hJ⟩ := j_end h hN (f (i + 1))
  obtain ⟨r0, d0, w0⟩ := h.W
  refine lg_go ok (aa_aload1 iL_law_253) ?_
  refine lg_rd ok iL_law_254 iL_law_255 iL_law_257 iL_law_258 iL_law_259 (jn := 1) rfl (by omega) hn ?_
  refine lg_go ok (aa_cVi iL_law_260 s1 (by decide) lc_X11_end lk_L_28 (sh_0 w0) rfl rfl (Nat.le_of_ble_eq_true rfl)) ?_
  refine lg_go ok (aa_aload2 iL_law_263) ?_
  refine lg_rd ok iL_law_264 iL_law_265 iL_law_267 iL_law_268 iL_law_269 (jn := 1) rfl (by omega) hn ?_
  refine lg_go ok (aa_cVi iL_law_270 s2 (by decide) lc_X12_end lk_L_32 (sh_63 w1) rfl rfl (Nat.le_of_ble_eq_true rfl)) ?_
  exact lg_go ok (aa_ic_eqT iL_law_273 rfl) (lc_tail ok hJ)
theorem lc_2 (ok : lg_ok n f x) (h : JI N σ) (hN : N ≤ 64) (hi : i + 5 ≤ n) (hn : n ≤ 320) : lg_V x 278 (lg_ls i v5 v6 v7) [] σ (lg_E i N) := by
  obtain ⟨a, σ1, σ2, s1, s2, ⟨r1, d1, w1⟩, hJ⟩ := j_piles h hN
  obtain ⟨r0, d0, w0⟩ := h.W
  refine lg_go ok (aa_aload1 iL_law_278) ?_
  refine lg_go ok (aa_cVi iL_law_279 s1 (by decide) lc_X11_piles lk_L_33 (sh_0 w0) rfl rfl (Nat.le_of_ble_eq_true rfl)) ?_
  refine lg_go ok (aa_aload2 iL_law_282) ?_
  refine lg_go ok (aa_cVi iL_law_283 s2 (by decide) lc_X12_piles lk_L_37 (sh_63 w1) rfl rfl (Nat.le_of_ble_eq_true rfl)) ?_
  exact lg_go ok (aa_ic_eqT iL_law_286 rfl) (lc_tail ok hJ)
theorem lc_4 (ok : lg_ok n f x) (h : JI N σ) (hN : N ≤ 64) (hi : i + 5 ≤ n) (hn : n ≤ 320) : lg_V x 359 (lg_ls i v5 v6 v7) [] σ (lg_E i N) := by
  obtain ⟨a, σ1, σ2, s1, s2, ⟨r1, d1, w1⟩, hJ⟩ := j_ends h hN (f (i + 1))
  obtain ⟨r0, d0, w0⟩ := h.W
  refine lg_go ok (aa_aload1 iL_law_359) ?_
  refine lg_rd ok iL_law_360 iL_law_361 iL_law_363 iL_law_364 iL_law_365 (jn := 1) rfl (by omega) hn ?_
  refine lg_go ok (aa_cVi iL_law_366 s1 (by decide) lc_X11_ends lk_L_47 (sh_0 w0) rfl rfl (Nat.le_of_ble_eq_true rfl)) ?_
  refine lg_go ok (aa_aload2 iL_law_369) ?_
  refine lg_rd ok iL_law_370 iL_law_371 iL_law_373 iL_law_374 iL_law_375 (jn := 1) rfl (by omega) hn ?_
  refine lg_go ok (aa_cVi iL_law_376 s2 (by decide) lc_X12_ends lk_L_50 (sh_63 w1) rfl rfl (Nat.le_of_ble_eq_true rfl)) ?_
  exact lg_go ok (aa_ic_eqT iL_law_379 rfl) (lc_tail ok hJ)
theorem lc_5 (ok : lg_ok n f x) (h : JI N σ) (hN : N ≤ 64) (hi : i + 5 ≤ n) (hn : n ≤ 320) : lg_V x 384 (lg_ls i v5 v6 v7) [] σ (lg_E i N) := by
  obtain ⟨a, σ1, σ2, s1, s2, ⟨r1, d1, w1⟩, hJ⟩ := j_sheet h hN (f (i + 1)) (f (i + 2)) (f (i + 3)) (f (i + 4))
  obtain ⟨r0, d0, w0⟩ := h.W
  refine lg_go ok (aa_aload1 iL_law_384) ?_
  refine lg_rd ok iL_law_385 iL_law_386 iL_law_388 iL_law_389 iL_law_390 (jn := 1) rfl (by omega) hn ?_
  refine lg_rd ok iL_law_391 iL_law_392 iL_law_394 iL_law_395 iL_law_396 (jn := 2) rfl (by omega) hn ?_
  refine lg_rd ok iL_law_397 iL_law_398 iL_law_400 iL_law_401 iL_law_402 (jn := 3) rfl (by omega) hn ?_
  refine lg_rd ok iL_law_403 iL_law_404 iL_law_406 iL_law_407 iL_law_408 (jn := 4) rfl (by omega) hn ?_
  refine lg_go ok (aa_cVi iL_law_409 s1 (by decide) lc_X11_sheet lk_L_51 (sh_0 w0) rfl rfl (Nat.le_of_ble_eq_true rfl)) ?_
  refine lg_go ok (aa_aload2 iL_law_412) ?_
  refine lg_rd ok iL_law_413 iL_law_414 iL_law_416 iL_law_417 iL_law_418 (jn := 1) rfl (by omega) hn ?_
  refine lg_rd ok iL_law_419 iL_law_420 iL_law_422 iL_law_423 iL_law_424 (jn := 2) rfl (by omega) hn ?_
  refine lg_rd ok iL_law_425 iL_law_426 iL_law_428 iL_law_429 iL_law_430 (jn := 3) rfl (by omega) hn ?_
  refine lg_rd ok iL_law_431 iL_law_432 iL_law_434 iL_law_435 iL_law_436 (jn := 4) rfl (by omega) hn ?_
  refine lg_go ok (aa_cVi iL_law_437 s2 (by decide) lc_X12_sheet lk_L_55 (sh_63 w1) rfl rfl (Nat.le_of_ble_eq_true rfl)) ?_
  exact lg_go ok (aa_ic_eqT iL_law_440 rfl) (lc_tail ok hJ)
theorem lc_6 (ok : lg_ok n f x) (h : JI N σ) (hN : N ≤ 64) (hi : i + 5 ≤ n) (hn : n ≤ 320) : lg_V x 445 (lg_ls i v5 v6 v7) [] σ (lg_E i N) := by
  obtain ⟨a, σ1, σ2, s1, s2, ⟨r1, d1, w1⟩, hJ⟩ := j_may h hN (f (i + 1))
  obtain ⟨r0, d0, w0⟩ := h.W
  refine lg_go ok (aa_aload1 iL_law_445) ?_
  refine lg_rd ok iL_law_446 iL_law_447 iL_law_449 iL_law_450 iL_law_451 (jn := 1) rfl (by omega) hn ?_
  refine lg_go ok (aa_cVi iL_law_452 s1 (by decide) lc_X11_may lk_L_56 (sh_0 w0) rfl rfl (Nat.le_of_ble_eq_true rfl)) ?_
  refine lg_go ok (aa_aload2 iL_law_455) ?_
  refine lg_rd ok iL_law_456 iL_law_457 iL_law_459 iL_law_460 iL_law_461 (jn := 1) rfl (by omega) hn ?_
  refine lg_go ok (aa_cVi iL_law_462 s2 (by decide) lc_X12_may lk_L_59 (sh_63 w1) rfl rfl (Nat.le_of_ble_eq_true rfl)) ?_
  exact lg_go ok (aa_ic_eqT iL_law_465 rfl) (lc_tail ok hJ)
theorem lc_7 (ok : lg_ok n f x) (h : JI N σ) (hN : N ≤ 64) (hi : i + 5 ≤ n) (hn : n ≤ 320) : lg_V x 470 (lg_ls i v5 v6 v7) [] σ (lg_E i N) := by
  obtain ⟨a, σ1, σ2, s1, s2, ⟨r1, d1, w1⟩, hJ⟩ := j_move h hN (f (i + 1))
  obtain ⟨r0, d0, w0⟩ := h.W
  refine lg_go ok (aa_aload1 iL_law_470) ?_
  refine lg_rd ok iL_law_471 iL_law_472 iL_law_474 iL_law_475 iL_law_476 (jn := 1) rfl (by omega) hn ?_
  refine lg_go ok (aa_cVi iL_law_477 s1 (by decide) lc_X11_move lk_L_60 (sh_0 w0) rfl rfl (Nat.le_of_ble_eq_true rfl)) ?_
  refine lg_go ok (aa_aload2 iL_law_480) ?_
  refine lg_rd ok iL_law_481 iL_law_482 iL_law_484 iL_law_485 iL_law_486 (jn := 1) rfl (by omega) hn ?_
  refine lg_go ok (aa_cVi iL_law_487 s2 (by decide) lc_X12_move lk_L_63 (sh_63 w1) rfl rfl (Nat.le_of_ble_eq_true rfl)) ?_
  exact lg_go ok (aa_ic_eqT iL_law_490 rfl) (lc_tail ok hJ)
theorem lc_8 (ok : lg_ok n f x) (h : JI N σ) (hN : N ≤ 64) (hi : i + 5 ≤ n) (hn : n ≤ 320) : lg_V x 495 (lg_ls i v5 v6 v7) [] σ (lg_E i N) := by
  obtain ⟨a, σ1, σ2, s1, s2, ⟨r1, d1, w1⟩, hJ⟩ := j_undo h hN
  obtain ⟨r0, d0, w0⟩ := h.W
  refine lg_go ok (aa_aload1 iL_law_495) ?_
  refine lg_go ok (aa_cVi iL_law_496 s1 (by decide) lc_X11_undo lk_L_64 (sh_0 w0) rfl rfl (Nat.le_of_ble_eq_true rfl)) ?_
  refine lg_go ok (aa_aload2 iL_law_499) ?_
  refine lg_go ok (aa_cVi iL_law_500 s2 (by decide) lc_X12_undo lk_L_67 (sh_63 w1) rfl rfl (Nat.le_of_ble_eq_true rfl)) ?_
  exact lg_go ok (aa_ic_eqT iL_law_503 rfl) (lc_tail ok hJ)
theorem lc_9 (ok : lg_ok n f x) (h : JI N σ) (hN : N ≤ 64) (hi : i + 5 ≤ n) (hn : n ≤ 320) : lg_V x 508 (lg_ls i v5 v6 v7) [] σ (lg_E i N) := by
  obtain ⟨a, σ1, σ2, s1, s2, ⟨r1, d1, w1⟩, hJ⟩ := j_begin h hN
  obtain ⟨r0, d0, w0⟩ := h.W
  refine lg_go ok (aa_aload1 iL_law_508) ?_
  refine lg_go ok (aa_cVi iL_law_509 s1 (by decide) lc_X11_begin lk_L_68 (sh_0 w0) rfl rfl (Nat.le_of_ble_eq_true rfl)) ?_
  refine lg_go ok (aa_aload2 iL_law_512) ?_
  refine lg_go ok (aa_cVi iL_law_513 s2 (by decide) lc_X12_begin lk_L_71 (sh_63 w1) rfl rfl (Nat.le_of_ble_eq_true rfl)) ?_
  exact lg_go ok (aa_ic_eqT iL_law_516 rfl) (lc_tail ok hJ)
theorem lc_10 (ok : lg_ok n f x) (h : JI N σ) (hN : N ≤ 64) (hi : i + 5 ≤ n) (hn : n ≤ 320) : lg_V x 521 (lg_ls i v5 v6 v7) [] σ (lg_E i N) := by
  obtain ⟨a, σ1, σ2, s1, s2, ⟨r1, d1, w1⟩, hJ⟩ := j_judge h hN (f (i + 1)) (f (i + 2)) (f (i + 3)) (f (i + 4))
  obtain ⟨r0, d0, w0⟩ := h.W
  refine lg_go ok (aa_aload1 iL_law_521) ?_
  refine lg_rd ok iL_law_522 iL_law_523 iL_law_525 iL_law_526 iL_law_527 (jn := 1) rfl (by omega) hn ?_
  refine lg_rd ok iL_law_528 iL_law_529 iL_law_531 iL_law_532 iL_law_533 (jn := 2) rfl (by omega) hn ?_
  refine lg_rd ok iL_law_534 iL_law_535 iL_law_537 iL_law_538 iL_law_539 (jn := 3) rfl (by omega) hn ?_
  refine lg_rd ok iL_law_540 iL_law_541 iL_law_543 iL_law_544 iL_law_545 (jn := 4) rfl (by omega) hn ?_
  refine lg_go ok (aa_cVi iL_law_546 s1 (by decide) lc_X11_judge lk_L_72 (sh_0 w0) rfl rfl (Nat.le_of_ble_eq_true rfl)) ?_
  refine lg_go ok (aa_aload2 iL_law_549) ?_
  refine lg_rd ok iL_law_550 iL_law_551 iL_law_553 iL_law_554 iL_law_555 (jn := 1) rfl (by omega) hn ?_
  refine lg_rd ok iL_law_556 iL_law_557 iL_law_559 iL_law_560 iL_law_561 (jn := 2) rfl (by omega) hn ?_
  refine lg_rd ok iL_law_562 iL_law_563 iL_law_565 iL_law_566 iL_law_567 (jn := 3) rfl (by omega) hn ?_
  refine lg_rd ok iL_law_568 iL_law_569 iL_law_571 iL_law_572 iL_law_573 (jn := 4) rfl (by omega) hn ?_
  refine lg_go ok (aa_cVi iL_law_574 s2 (by decide) lc_X12_judge lk_L_75 (sh_63 w1) rfl rfl (Nat.le_of_ble_eq_true rfl)) ?_
  exact lg_go ok (aa_ic_eqT iL_law_577 rfl) (lc_tail ok hJ)
theorem lc_11 (ok : lg_ok n f x) (h : JI N σ) (hN : N ≤ 64) (hi : i + 5 ≤ n) (hn : n ≤ 320) : lg_V x 582 (lg_ls i v5 v6 v7) [] σ (lg_E i N) := by
  obtain ⟨a, σ1, σ2, s1, s2, ⟨r1, d1, w1⟩, hJ⟩ := j_taken h hN
  obtain ⟨r0, d0, w0⟩ := h.W
  refine lg_go ok (aa_aload1 iL_law_582) ?_
  refine lg_go ok (aa_cVi iL_law_583 s1 (by decide) lc_X11_taken lk_L_76 (sh_0 w0) rfl rfl (Nat.le_of_ble_eq_true rfl)) ?_
  refine lg_go ok (aa_aload2 iL_law_586) ?_
  refine lg_go ok (aa_cVi iL_law_587 s2 (by decide) lc_X12_taken lk_L_79 (sh_63 w1) rfl rfl (Nat.le_of_ble_eq_true rfl)) ?_
  exact lg_go ok (aa_ic_eqT iL_law_590 rfl) (lc_tail ok hJ)
theorem lc_12 (ok : lg_ok n f x) (h : JI N σ) (hN : N ≤ 64) (hi : i + 5 ≤ n) (hn : n ≤ 320) : lg_V x 595 (lg_ls i v5 v6 v7) [] σ (lg_E i N) := by
  obtain ⟨a, σ1, σ2, s1, s2, ⟨r1, d1, w1⟩, hJ⟩ := j_wins h hN
  obtain ⟨r0, d0, w0⟩ := h.W
  refine lg_go ok (aa_aload1 iL_law_595) ?_
  refine lg_go ok (aa_cVi iL_law_596 s1 (by decide) lc_X11_wins lk_L_80 (sh_0 w0) rfl rfl (Nat.le_of_ble_eq_true rfl)) ?_
  refine lg_go ok (aa_aload2 iL_law_599) ?_
  refine lg_go ok (aa_cVi iL_law_600 s2 (by decide) lc_X12_wins lk_L_83 (sh_63 w1) rfl rfl (Nat.le_of_ble_eq_true rfl)) ?_
  exact lg_go ok (aa_ic_eqT iL_law_603 rfl) (lc_tail ok hJ)
theorem lc_13 (ok : lg_ok n f x) (h : JI N σ) (hN : N ≤ 64) (hi : i + 5 ≤ n) (hn : n ≤ 320) : lg_V x 608 (lg_ls i v5 v6 v7) [] σ (lg_E i N) := by
  obtain ⟨a, σ1, σ2, s1, s2, ⟨r1, d1, w1⟩, hJ⟩ := j_would h hN (f (i + 1)) (f (i + 2))
  obtain ⟨r0, d0, w0⟩ := h.W
  refine lg_go ok (aa_aload1 iL_law_608) ?_
  refine lg_rd ok iL_law_609 iL_law_610 iL_law_612 iL_law_613 iL_law_614 (jn := 1) rfl (by omega) hn ?_
  refine lg_rd ok iL_law_615 iL_law_616 iL_law_618 iL_law_619 iL_law_620 (jn := 2) rfl (by omega) hn ?_
  refine lg_go ok (aa_cVi iL_law_621 s1 (by decide) lc_X11_would lk_L_84 (sh_0 w0) rfl rfl (Nat.le_of_ble_eq_true rfl)) ?_
  refine lg_go ok (aa_aload2 iL_law_624) ?_
  refine lg_rd ok iL_law_625 iL_law_626 iL_law_628 iL_law_629 iL_law_630 (jn := 1) rfl (by omega) hn ?_
  refine lg_rd ok iL_law_631 iL_law_632 iL_law_634 iL_law_635 iL_law_636 (jn := 2) rfl (by omega) hn ?_
  refine lg_go ok (aa_cVi iL_law_637 s2 (by decide) lc_X12_would lk_L_87 (sh_63 w1) rfl rfl (Nat.le_of_ble_eq_true rfl)) ?_
  exact lg_go ok (aa_ic_eqT iL_law_640 rfl) (lc_tail ok hJ)
theorem lc_14 (ok : lg_ok n f x) (h : JI N σ) (hN : N ≤ 64) (hi : i + 5 ≤ n) (hn : n ≤ 320) : lg_V x 645 (lg_ls i v5 v6 v7) [] σ (lg_E i N) := by
  obtain ⟨a, σ1, σ2, s1, s2, ⟨r1, d1, w1⟩, hJ⟩ := j_soon h hN
  obtain ⟨r0, d0, w0⟩ := h.W
  refine lg_go ok (aa_aload1 iL_law_645) ?_
  refine lg_go ok (aa_cVi iL_law_646 s1 (by decide) lc_X11_soon lk_L_88 (sh_0 w0) rfl rfl (Nat.le_of_ble_eq_true rfl)) ?_
  refine lg_go ok (aa_aload2 iL_law_649) ?_
  refine lg_go ok (aa_cVi iL_law_650 s2 (by decide) lc_X12_soon lk_L_91 (sh_63 w1) rfl rfl (Nat.le_of_ble_eq_true rfl)) ?_
  exact lg_go ok (aa_ic_eqT iL_law_653 rfl) (lc_tail ok hJ)
theorem lc_15 (ok : lg_ok n f x) (h : JI N σ) (hN : N ≤ 64) (hi : i + 5 ≤ n) (hn : n ≤ 320) : lg_V x 658 (lg_ls i v5 v6 v7) [] σ (lg_E i N) := by
  obtain ⟨a, σ1, σ2, s1, s2, ⟨r1, d1, w1⟩, hJ⟩ := j_leave h hN
  obtain ⟨r0, d0, w0⟩ := h.W
  refine lg_go ok (aa_aload1 iL_law_658) ?_
  refine lg_go ok (aa_cVi iL_law_659 s1 (by decide) lc_X11_leave lk_L_92 (sh_0 w0) rfl rfl (Nat.le_of_ble_eq_true rfl)) ?_
  refine lg_go ok (aa_aload2 iL_law_662) ?_
  refine lg_go ok (aa_cVi iL_law_663 s2 (by decide) lc_X12_leave lk_L_95 (sh_63 w1) rfl rfl (Nat.le_of_ble_eq_true rfl)) ?_
  exact lg_go ok (aa_ic_eqT iL_law_666 rfl) (lc_tail ok hJ)
theorem lc_16 (ok : lg_ok n f x) (h : JI N σ) (hN : N ≤ 64) (hi : i + 5 ≤ n) (hn : n ≤ 320) : lg_V x 671 (lg_ls i v5 v6 v7) [] σ (lg_E i N) := by
  obtain ⟨a, σ1, σ2, s1, s2, ⟨r1, d1, w1⟩, hJ⟩ := j_states h hN
  obtain ⟨r0, d0, w0⟩ := h.W
  refine lg_go ok (aa_aload1 iL_law_671) ?_
  refine lg_go ok (aa_cVi iL_law_672 s1 (by decide) lc_X11_states lk_L_96 (sh_0 w0) rfl rfl (Nat.le_of_ble_eq_true rfl)) ?_
  refine lg_go ok (aa_aload2 iL_law_675) ?_
  refine lg_go ok (aa_cVi iL_law_676 s2 (by decide) lc_X12_states lk_L_99 (sh_63 w1) rfl rfl (Nat.le_of_ble_eq_true rfl)) ?_
  exact lg_go ok (aa_ic_eqT iL_law_679 rfl) (lc_tail ok hJ)
theorem lc_17 (ok : lg_ok n f x) (h : JI N σ) (hN : N ≤ 64) (hi : i + 5 ≤ n) (hn : n ≤ 320) : lg_V x 684 (lg_ls i v5 v6 v7) [] σ (lg_E i N) := by
  obtain ⟨a, σ1, σ2, s1, s2, ⟨r1, d1, w1⟩, hJ⟩ := j_lines h hN (f (i + 1))
  obtain ⟨r0, d0, w0⟩ := h.W
  refine lg_go ok (aa_aload1 iL_law_684) ?_
  refine lg_rd ok iL_law_685 iL_law_686 iL_law_688 iL_law_689 iL_law_690 (jn := 1) rfl (by omega) hn ?_
  refine lg_go ok (aa_cVl iL_law_691 s1 (by decide) lc_X11_lines lk_L_100 (sh_0 w0) rfl rfl (Nat.le_of_ble_eq_true rfl)) ?_
  refine lg_go ok (aa_aload2 iL_law_694) ?_
  refine lg_rd ok iL_law_695 iL_law_696 iL_law_698 iL_law_699 iL_law_700 (jn := 1) rfl (by omega) hn ?_
  refine lg_go ok (aa_cVl iL_law_701 s2 (by decide) lc_X12_lines lk_L_103 (sh_63 w1) rfl rfl (Nat.le_of_ble_eq_true rfl)) ?_
  exact lg_go ok (aa_lcmp iL_law_704) (lg_go ok (aa_if_eqT iL_law_705 ((lg_eq0 a a).mpr rfl)) (lc_tail ok hJ))
theorem lc_18 (ok : lg_ok n f x) (h : JI N σ) (hN : N ≤ 64) (hi : i + 5 ≤ n) (hn : n ≤ 320) : lg_V x 710 (lg_ls i v5 v6 v7) [] σ (lg_E i N) := by
  obtain ⟨a, σ1, σ2, s1, s2, ⟨r1, d1, w1⟩, hJ⟩ := j_forced h hN
  obtain ⟨r0, d0, w0⟩ := h.W
  refine lg_go ok (aa_aload1 iL_law_710) ?_
  refine lg_go ok (aa_cVi iL_law_711 s1 (by decide) lc_X11_forced lk_L_104 (sh_0 w0) rfl rfl (Nat.le_of_ble_eq_true rfl)) ?_
  refine lg_go ok (aa_aload2 iL_law_714) ?_
  refine lg_go ok (aa_cVi iL_law_715 s2 (by decide) lc_X12_forced lk_L_107 (sh_63 w1) rfl rfl (Nat.le_of_ble_eq_true rfl)) ?_
  exact lg_go ok (aa_ic_eqT iL_law_718 rfl) (lc_tail ok hJ)
theorem lc_19 (ok : lg_ok n f x) (h : JI N σ) (hN : N ≤ 64) (hi : i + 5 ≤ n) (hn : n ≤ 320) : lg_V x 723 (lg_ls i v5 v6 v7) [] σ (lg_E i N) := by
  obtain ⟨a, σ1, σ2, s1, s2, ⟨r1, d1, w1⟩, hJ⟩ := j_tempo h hN (f (i + 1))
  obtain ⟨r0, d0, w0⟩ := h.W
  refine lg_go ok (aa_aload1 iL_law_723) ?_
  refine lg_rd ok iL_law_724 iL_law_725 iL_law_727 iL_law_728 iL_law_729 (jn := 1) rfl (by omega) hn ?_
  refine lg_go ok (aa_cVi iL_law_730 s1 (by decide) lc_X11_tempo lk_L_108 (sh_0 w0) rfl rfl (Nat.le_of_ble_eq_true rfl)) ?_
  refine lg_go ok (aa_aload2 iL_law_733) ?_
  refine lg_rd ok iL_law_734 iL_law_735 iL_law_737 iL_law_738 iL_law_739 (jn := 1) rfl (by omega) hn ?_
  refine lg_go ok (aa_cVi iL_law_740 s2 (by decide) lc_X12_tempo lk_L_111 (sh_63 w1) rfl rfl (Nat.le_of_ble_eq_true rfl)) ?_
  exact lg_go ok (aa_ic_eqT iL_law_743 rfl) (lc_tail ok hJ)
theorem lc_20 (ok : lg_ok n f x) (h : JI N σ) (hN : N ≤ 64) (hi : i + 5 ≤ n) (hn : n ≤ 320) : lg_V x 748 (lg_ls i v5 v6 v7) [] σ (lg_E i N) := by
  obtain ⟨a, σ1, σ2, s1, s2, ⟨r1, d1, w1⟩, hJ⟩ := j_value h hN
  obtain ⟨r0, d0, w0⟩ := h.W
  refine lg_go ok (aa_aload1 iL_law_748) ?_
  refine lg_go ok (aa_cVi iL_law_749 s1 (by decide) lc_X11_value lk_L_112 (sh_0 w0) rfl rfl (Nat.le_of_ble_eq_true rfl)) ?_
  refine lg_go ok (aa_aload2 iL_law_752) ?_
  refine lg_go ok (aa_cVi iL_law_753 s2 (by decide) lc_X12_value lk_L_115 (sh_63 w1) rfl rfl (Nat.le_of_ble_eq_true rfl)) ?_
  exact lg_go ok (aa_ic_eqT iL_law_756 rfl) (lc_tail ok hJ)
theorem lc_21 (ok : lg_ok n f x) (h : JI N σ) (hN : N ≤ 64) (hi : i + 5 ≤ n) (hn : n ≤ 320) : lg_V x 761 (lg_ls i v5 v6 v7) [] σ (lg_E i N) := by
  obtain ⟨a, σ1, σ2, s1, s2, ⟨r1, d1, w1⟩, hJ⟩ := j_alone h hN (f (i + 1))
  obtain ⟨r0, d0, w0⟩ := h.W
  refine lg_go ok (aa_aload1 iL_law_761) ?_
  refine lg_rd ok iL_law_762 iL_law_763 iL_law_765 iL_law_766 iL_law_767 (jn := 1) rfl (by omega) hn ?_
  refine lg_go ok (aa_cVi iL_law_768 s1 (by decide) lc_X11_alone lk_L_116 (sh_0 w0) rfl rfl (Nat.le_of_ble_eq_true rfl)) ?_
  refine lg_go ok (aa_aload2 iL_law_771) ?_
  refine lg_rd ok iL_law_772 iL_law_773 iL_law_775 iL_law_776 iL_law_777 (jn := 1) rfl (by omega) hn ?_
  refine lg_go ok (aa_cVi iL_law_778 s2 (by decide) lc_X12_alone lk_L_119 (sh_63 w1) rfl rfl (Nat.le_of_ble_eq_true rfl)) ?_
  exact lg_go ok (aa_ic_eqT iL_law_781 rfl) (lc_tail ok hJ)
theorem lc_22 (ok : lg_ok n f x) (h : JI N σ) (hN : N ≤ 64) (hi : i + 5 ≤ n) (hn : n ≤ 320) : lg_V x 786 (lg_ls i v5 v6 v7) [] σ (lg_E i N) := by
  obtain ⟨a, σ1, σ2, s1, s2, ⟨r1, d1, w1⟩, hJ⟩ := j_heap h hN (f (i + 1))
  obtain ⟨r0, d0, w0⟩ := h.W
  refine lg_go ok (aa_aload1 iL_law_786) ?_
  refine lg_rd ok iL_law_787 iL_law_788 iL_law_790 iL_law_791 iL_law_792 (jn := 1) rfl (by omega) hn ?_
  refine lg_go ok (aa_cVi iL_law_793 s1 (by decide) lc_X11_heap lk_L_120 (sh_0 w0) rfl rfl (Nat.le_of_ble_eq_true rfl)) ?_
  refine lg_go ok (aa_aload2 iL_law_796) ?_
  refine lg_rd ok iL_law_797 iL_law_798 iL_law_800 iL_law_801 iL_law_802 (jn := 1) rfl (by omega) hn ?_
  refine lg_go ok (aa_cVi iL_law_803 s2 (by decide) lc_X12_heap lk_L_123 (sh_63 w1) rfl rfl (Nat.le_of_ble_eq_true rfl)) ?_
  exact lg_go ok (aa_ic_eqT iL_law_806 rfl) (lc_tail ok hJ)
theorem lc_23 (ok : lg_ok n f x) (h : JI N σ) (hN : N ≤ 64) (hi : i + 5 ≤ n) (hn : n ≤ 320) : lg_V x 811 (lg_ls i v5 v6 v7) [] σ (lg_E i N) := by
  obtain ⟨a, σ1, σ2, s1, s2, ⟨r1, d1, w1⟩, hJ⟩ := j_heaps h hN
  obtain ⟨r0, d0, w0⟩ := h.W
  refine lg_go ok (aa_aload1 iL_law_811) ?_
  refine lg_go ok (aa_cVi iL_law_812 s1 (by decide) lc_X11_heaps lk_L_124 (sh_0 w0) rfl rfl (Nat.le_of_ble_eq_true rfl)) ?_
  refine lg_go ok (aa_aload2 iL_law_815) ?_
  refine lg_go ok (aa_cVi iL_law_816 s2 (by decide) lc_X12_heaps lk_L_127 (sh_63 w1) rfl rfl (Nat.le_of_ble_eq_true rfl)) ?_
  exact lg_go ok (aa_ic_eqT iL_law_819 rfl) (lc_tail ok hJ)
theorem lc_24 (ok : lg_ok n f x) (h : JI N σ) (hN : N ≤ 64) (hi : i + 5 ≤ n) (hn : n ≤ 320) : lg_V x 824 (lg_ls i v5 v6 v7) [] σ (lg_E i N) := by
  obtain ⟨a, σ1, σ2, s1, s2, ⟨r1, d1, w1⟩, hJ⟩ := j_make h hN (f (i + 1))
  obtain ⟨r0, d0, w0⟩ := h.W
  refine lg_go ok (aa_aload1 iL_law_824) ?_
  refine lg_rd ok iL_law_825 iL_law_826 iL_law_828 iL_law_829 iL_law_830 (jn := 1) rfl (by omega) hn ?_
  refine lg_go ok (aa_cVi iL_law_831 s1 (by decide) lc_X11_make lk_L_128 (sh_0 w0) rfl rfl (Nat.le_of_ble_eq_true rfl)) ?_
  refine lg_go ok (aa_aload2 iL_law_834) ?_
  refine lg_rd ok iL_law_835 iL_law_836 iL_law_838 iL_law_839 iL_law_840 (jn := 1) rfl (by omega) hn ?_
  refine lg_go ok (aa_cVi iL_law_841 s2 (by decide) lc_X12_make lk_L_131 (sh_63 w1) rfl rfl (Nat.le_of_ble_eq_true rfl)) ?_
  exact lg_go ok (aa_ic_eqT iL_law_844 rfl) (lc_tail ok hJ)
theorem lc_25 (ok : lg_ok n f x) (h : JI N σ) (hN : N ≤ 64) (hi : i + 5 ≤ n) (hn : n ≤ 320) : lg_V x 849 (lg_ls i v5 v6 v7) [] σ (lg_E i N) := by
  obtain ⟨a, σ1, σ2, s1, s2, ⟨r1, d1, w1⟩, hJ⟩ := j_joined h hN
  obtain ⟨r0, d0, w0⟩ := h.W
  refine lg_go ok (aa_aload1 iL_law_849) ?_
  refine lg_go ok (aa_cVi iL_law_850 s1 (by decide) lc_X11_joined lk_L_132 (sh_0 w0) rfl rfl (Nat.le_of_ble_eq_true rfl)) ?_
  refine lg_go ok (aa_aload2 iL_law_853) ?_
  refine lg_go ok (aa_cVi iL_law_854 s2 (by decide) lc_X12_joined lk_L_135 (sh_63 w1) rfl rfl (Nat.le_of_ble_eq_true rfl)) ?_
  exact lg_go ok (aa_ic_eqT iL_law_857 rfl) (lc_tail ok hJ)
theorem lc_26 (ok : lg_ok n f x) (h : JI N σ) (hN : N ≤ 64) (hi : i + 5 ≤ n) (hn : n ≤ 320) : lg_V x 862 (lg_ls i v5 v6 v7) [] σ (lg_E i N) := by
  obtain ⟨a, σ1, σ2, s1, s2, ⟨r1, d1, w1⟩, hJ⟩ := j_alike h hN (f (i + 1)) (f (i + 2))
  obtain ⟨r0, d0, w0⟩ := h.W
  refine lg_go ok (aa_aload1 iL_law_862) ?_
  refine lg_rd ok iL_law_863 iL_law_864 iL_law_866 iL_law_867 iL_law_868 (jn := 1) rfl (by omega) hn ?_
  refine lg_rd ok iL_law_869 iL_law_870 iL_law_872 iL_law_873 iL_law_874 (jn := 2) rfl (by omega) hn ?_
  refine lg_go ok (aa_cVi iL_law_875 s1 (by decide) lc_X11_alike lk_L_136 (sh_0 w0) rfl rfl (Nat.le_of_ble_eq_true rfl)) ?_
  refine lg_go ok (aa_aload2 iL_law_878) ?_
  refine lg_rd ok iL_law_879 iL_law_880 iL_law_882 iL_law_883 iL_law_884 (jn := 1) rfl (by omega) hn ?_
  refine lg_rd ok iL_law_885 iL_law_886 iL_law_888 iL_law_889 iL_law_890 (jn := 2) rfl (by omega) hn ?_
  refine lg_go ok (aa_cVi iL_law_891 s2 (by decide) lc_X12_alike lk_L_139 (sh_63 w1) rfl rfl (Nat.le_of_ble_eq_true rfl)) ?_
  exact lg_go ok (aa_ic_eqT iL_law_894 rfl) (lc_tail ok hJ)
theorem lc_27 (ok : lg_ok n f x) (h : JI N σ) (hN : N ≤ 64) (hi : i + 5 ≤ n) (hn : n ≤ 320) : lg_V x 899 (lg_ls i v5 v6 v7) [] σ (lg_E i N) := by
  obtain ⟨a, σ1, σ2, s1, s2, ⟨r1, d1, w1⟩, hJ⟩ := j_wall h hN (f (i + 1)) (f (i + 2)) (f (i + 3)) (f (i + 4))
  obtain ⟨r0, d0, w0⟩ := h.W
  refine lg_go ok (aa_aload1 iL_law_899) ?_
  refine lg_rd ok iL_law_900 iL_law_901 iL_law_903 iL_law_904 iL_law_905 (jn := 1) rfl (by omega) hn ?_
  refine lg_rd ok iL_law_906 iL_law_907 iL_law_909 iL_law_910 iL_law_911 (jn := 2) rfl (by omega) hn ?_
  refine lg_rd ok iL_law_912 iL_law_913 iL_law_915 iL_law_916 iL_law_917 (jn := 3) rfl (by omega) hn ?_
  refine lg_rd ok iL_law_918 iL_law_919 iL_law_921 iL_law_922 iL_law_923 (jn := 4) rfl (by omega) hn ?_
  refine lg_go ok (aa_cVi iL_law_924 s1 (by decide) lc_X11_wall lk_L_140 (sh_0 w0) rfl rfl (Nat.le_of_ble_eq_true rfl)) ?_
  refine lg_go ok (aa_aload2 iL_law_927) ?_
  refine lg_rd ok iL_law_928 iL_law_929 iL_law_931 iL_law_932 iL_law_933 (jn := 1) rfl (by omega) hn ?_
  refine lg_rd ok iL_law_934 iL_law_935 iL_law_937 iL_law_938 iL_law_939 (jn := 2) rfl (by omega) hn ?_
  refine lg_rd ok iL_law_940 iL_law_941 iL_law_943 iL_law_944 iL_law_945 (jn := 3) rfl (by omega) hn ?_
  refine lg_rd ok iL_law_946 iL_law_947 iL_law_949 iL_law_950 iL_law_951 (jn := 4) rfl (by omega) hn ?_
  refine lg_go ok (aa_cVi iL_law_952 s2 (by decide) lc_X12_wall lk_L_143 (sh_63 w1) rfl rfl (Nat.le_of_ble_eq_true rfl)) ?_
  exact lg_go ok (aa_ic_eqT iL_law_955 rfl) (lc_tail ok hJ)
theorem lc_28 (ok : lg_ok n f x) (h : JI N σ) (hN : N ≤ 64) (hi : i + 5 ≤ n) (hn : n ≤ 320) : lg_V x 960 (lg_ls i v5 v6 v7) [] σ (lg_E i N) := by
  obtain ⟨a, σ1, σ2, s1, s2, ⟨r1, d1, w1⟩, hJ⟩ := j_best h hN
  obtain ⟨r0, d0, w0⟩ := h.W
  refine lg_go ok (aa_aload1 iL_law_960) ?_
  refine lg_go ok (aa_cVi iL_law_961 s1 (by decide) lc_X11_best lk_L_144 (sh_0 w0) rfl rfl (Nat.le_of_ble_eq_true rfl)) ?_
  refine lg_go ok (aa_aload2 iL_law_964) ?_
  refine lg_go ok (aa_cVi iL_law_965 s2 (by decide) lc_X12_best lk_L_147 (sh_63 w1) rfl rfl (Nat.le_of_ble_eq_true rfl)) ?_
  exact lg_go ok (aa_ic_eqT iL_law_968 rfl) (lc_tail ok hJ)
theorem lc_29 (ok : lg_ok n f x) (h : JI N σ) (hN : N ≤ 64) (hi : i + 5 ≤ n) (hn : n ≤ 320) : lg_V x 973 (lg_ls i v5 v6 v7) [] σ (lg_E i N) := by
  obtain ⟨a, σ1, σ2, s1, s2, ⟨r1, d1, w1⟩, hJ⟩ := j_gets h hN (f (i + 1)) (f (i + 2))
  obtain ⟨r0, d0, w0⟩ := h.W
  refine lg_go ok (aa_aload1 iL_law_973) ?_
  refine lg_rd ok iL_law_974 iL_law_975 iL_law_977 iL_law_978 iL_law_979 (jn := 1) rfl (by omega) hn ?_
  refine lg_rd ok iL_law_980 iL_law_981 iL_law_983 iL_law_984 iL_law_985 (jn := 2) rfl (by omega) hn ?_
  refine lg_go ok (aa_cVi iL_law_986 s1 (by decide) lc_X11_gets lk_L_148 (sh_0 w0) rfl rfl (Nat.le_of_ble_eq_true rfl)) ?_
  refine lg_go ok (aa_aload2 iL_law_989) ?_
  refine lg_rd ok iL_law_990 iL_law_991 iL_law_993 iL_law_994 iL_law_995 (jn := 1) rfl (by omega) hn ?_
  refine lg_rd ok iL_law_996 iL_law_997 iL_law_999 iL_law_1000 iL_law_1001 (jn := 2) rfl (by omega) hn ?_
  refine lg_go ok (aa_cVi iL_law_1002 s2 (by decide) lc_X12_gets lk_L_151 (sh_63 w1) rfl rfl (Nat.le_of_ble_eq_true rfl)) ?_
  exact lg_go ok (aa_ic_eqT iL_law_1005 rfl) (lc_tail ok hJ)
theorem lc_30 (ok : lg_ok n f x) (h : JI N σ) (hN : N ≤ 64) (hi : i + 5 ≤ n) (hn : n ≤ 320) : lg_V x 1010 (lg_ls i v5 v6 v7) [] σ (lg_E i N) := by
  obtain ⟨a, σ1, σ2, s1, s2, ⟨r1, d1, w1⟩, hJ⟩ := j_greedy h hN
  obtain ⟨r0, d0, w0⟩ := h.W
  refine lg_go ok (aa_aload1 iL_law_1010) ?_
  refine lg_go ok (aa_cVi iL_law_1011 s1 (by decide) lc_X11_greedy lk_L_152 (sh_0 w0) rfl rfl (Nat.le_of_ble_eq_true rfl)) ?_
  refine lg_go ok (aa_aload2 iL_law_1014) ?_
  refine lg_go ok (aa_cVi iL_law_1015 s2 (by decide) lc_X12_greedy lk_L_155 (sh_63 w1) rfl rfl (Nat.le_of_ble_eq_true rfl)) ?_
  exact lg_go ok (aa_ic_eqT iL_law_1018 rfl) (lc_tail ok hJ)
theorem lc_31 (ok : lg_ok n f x) (h : JI N σ) (hN : N ≤ 64) (hi : i + 5 ≤ n) (hn : n ≤ 320) : lg_V x 1023 (lg_ls i v5 v6 v7) [] σ (lg_E i N) := by
  obtain ⟨a, σ1, σ2, s1, s2, ⟨r1, d1, w1⟩, hJ⟩ := j_limits h hN
  obtain ⟨r0, d0, w0⟩ := h.W
  refine lg_go ok (aa_aload1 iL_law_1023) ?_
  refine lg_go ok (aa_cVi iL_law_1024 s1 (by decide) lc_X11_limits lk_L_156 (sh_0 w0) rfl rfl (Nat.le_of_ble_eq_true rfl)) ?_
  refine lg_go ok (aa_aload2 iL_law_1027) ?_
  refine lg_go ok (aa_cVi iL_law_1028 s2 (by decide) lc_X12_limits lk_L_159 (sh_63 w1) rfl rfl (Nat.le_of_ble_eq_true rfl)) ?_
  exact lg_go ok (aa_ic_eqT iL_law_1031 rfl) (lc_tail ok hJ)
theorem lc_32 (ok : lg_ok n f x) (h : JI N σ) (hN : N ≤ 64) (hi : i + 5 ≤ n) (hn : n ≤ 320) : lg_V x 1036 (lg_ls i v5 v6 v7) [] σ (lg_E i N) := by
  obtain ⟨a, σ1, σ2, s1, s2, ⟨r1, d1, w1⟩, hJ⟩ := j_mean h hN
  obtain ⟨r0, d0, w0⟩ := h.W
  refine lg_go ok (aa_aload1 iL_law_1036) ?_
  refine lg_go ok (aa_cVi iL_law_1037 s1 (by decide) lc_X11_mean lk_L_160 (sh_0 w0) rfl rfl (Nat.le_of_ble_eq_true rfl)) ?_
  refine lg_go ok (aa_aload2 iL_law_1040) ?_
  refine lg_go ok (aa_cVi iL_law_1041 s2 (by decide) lc_X12_mean lk_L_163 (sh_63 w1) rfl rfl (Nat.le_of_ble_eq_true rfl)) ?_
  exact lg_go ok (aa_ic_eqT iL_law_1044 rfl) (lc_tail ok hJ)
theorem lc_33 (ok : lg_ok n f x) (h : JI N σ) (hN : N ≤ 64) (hi : i + 5 ≤ n) (hn : n ≤ 320) : lg_V x 1049 (lg_ls i v5 v6 v7) [] σ (lg_E i N) := by
  obtain ⟨a, σ1, σ2, s1, s2, ⟨r1, d1, w1⟩, hJ⟩ := j_likes h hN (f (i + 1)) (f (i + 2))
  obtain ⟨r0, d0, w0⟩ := h.W
  refine lg_go ok (aa_aload1 iL_law_1049) ?_
  refine lg_rd ok iL_law_1050 iL_law_1051 iL_law_1053 iL_law_1054 iL_law_1055 (jn := 1) rfl (by omega) hn ?_
  refine lg_rd ok iL_law_1056 iL_law_1057 iL_law_1059 iL_law_1060 iL_law_1061 (jn := 2) rfl (by omega) hn ?_
  refine lg_go ok (aa_cVi iL_law_1062 s1 (by decide) lc_X11_likes lk_L_164 (sh_0 w0) rfl rfl (Nat.le_of_ble_eq_true rfl)) ?_
  refine lg_go ok (aa_aload2 iL_law_1065) ?_
  refine lg_rd ok iL_law_1066 iL_law_1067 iL_law_1069 iL_law_1070 iL_law_1071 (jn := 1) rfl (by omega) hn ?_
  refine lg_rd ok iL_law_1072 iL_law_1073 iL_law_1075 iL_law_1076 iL_law_1077 (jn := 2) rfl (by omega) hn ?_
  refine lg_go ok (aa_cVi iL_law_1078 s2 (by decide) lc_X12_likes lk_L_168 (sh_63 w1) rfl rfl (Nat.le_of_ble_eq_true rfl)) ?_
  exact lg_go ok (aa_ic_eqT iL_law_1081 rfl) (lc_tail ok hJ)
theorem lc_34 (ok : lg_ok n f x) (h : JI N σ) (hN : N ≤ 64) (hi : i + 5 ≤ n) (hn : n ≤ 320) : lg_V x 1086 (lg_ls i v5 v6 v7) [] σ (lg_E i N) := by
  obtain ⟨a, σ1, σ2, s1, s2, ⟨r1, d1, w1⟩, hJ⟩ := j_parrot h hN (f (i + 1))
  obtain ⟨r0, d0, w0⟩ := h.W
  refine lg_go ok (aa_aload1 iL_law_1086) ?_
  refine lg_rd ok iL_law_1087 iL_law_1088 iL_law_1090 iL_law_1091 iL_law_1092 (jn := 1) rfl (by omega) hn ?_
  refine lg_go ok (aa_cVi iL_law_1093 s1 (by decide) lc_X11_parrot lk_L_169 (sh_0 w0) rfl rfl (Nat.le_of_ble_eq_true rfl)) ?_
  refine lg_go ok (aa_aload2 iL_law_1096) ?_
  refine lg_rd ok iL_law_1097 iL_law_1098 iL_law_1100 iL_law_1101 iL_law_1102 (jn := 1) rfl (by omega) hn ?_
  refine lg_go ok (aa_cVi iL_law_1103 s2 (by decide) lc_X12_parrot lk_L_172 (sh_63 w1) rfl rfl (Nat.le_of_ble_eq_true rfl)) ?_
  exact lg_go ok (aa_ic_eqT iL_law_1106 rfl) (lc_tail ok hJ)
theorem lc_35 (ok : lg_ok n f x) (h : JI N σ) (hN : N ≤ 64) (hi : i + 5 ≤ n) (hn : n ≤ 320) : lg_V x 1111 (lg_ls i v5 v6 v7) [] σ (lg_E i N) := by
  obtain ⟨a, σ1, σ2, s1, s2, ⟨r1, d1, w1⟩, hJ⟩ := j_parrots h hN
  obtain ⟨r0, d0, w0⟩ := h.W
  refine lg_go ok (aa_aload1 iL_law_1111) ?_
  refine lg_go ok (aa_cVi iL_law_1112 s1 (by decide) lc_X11_parrots lk_L_173 (sh_0 w0) rfl rfl (Nat.le_of_ble_eq_true rfl)) ?_
  refine lg_go ok (aa_aload2 iL_law_1115) ?_
  refine lg_go ok (aa_cVi iL_law_1116 s2 (by decide) lc_X12_parrots lk_L_176 (sh_63 w1) rfl rfl (Nat.le_of_ble_eq_true rfl)) ?_
  exact lg_go ok (aa_ic_eqT iL_law_1119 rfl) (lc_tail ok hJ)
theorem lc_36 (ok : lg_ok n f x) (h : JI N σ) (hN : N ≤ 64) (hi : i + 5 ≤ n) (hn : n ≤ 320) : lg_V x 1124 (lg_ls i v5 v6 v7) [] σ (lg_E i N) := by
  obtain ⟨a, σ1, σ2, s1, s2, ⟨r1, d1, w1⟩, hJ⟩ := j_out h hN (f (i + 1))
  obtain ⟨r0, d0, w0⟩ := h.W
  refine lg_go ok (aa_aload1 iL_law_1124) ?_
  refine lg_rd ok iL_law_1125 iL_law_1126 iL_law_1128 iL_law_1129 iL_law_1130 (jn := 1) rfl (by omega) hn ?_
  refine lg_go ok (aa_cVi iL_law_1131 s1 (by decide) lc_X11_out lk_L_177 (sh_0 w0) rfl rfl (Nat.le_of_ble_eq_true rfl)) ?_
  refine lg_go ok (aa_aload2 iL_law_1134) ?_
  refine lg_rd ok iL_law_1135 iL_law_1136 iL_law_1138 iL_law_1139 iL_law_1140 (jn := 1) rfl (by omega) hn ?_
  refine lg_go ok (aa_cVi iL_law_1141 s2 (by decide) lc_X12_out lk_L_180 (sh_63 w1) rfl rfl (Nat.le_of_ble_eq_true rfl)) ?_
  exact lg_go ok (aa_ic_eqT iL_law_1144 rfl) (lc_tail ok hJ)
theorem lc_37 (ok : lg_ok n f x) (h : JI N σ) (hN : N ≤ 64) (hi : i + 5 ≤ n) (hn : n ≤ 320) : lg_V x 1149 (lg_ls i v5 v6 v7) [] σ (lg_E i N) := by
  obtain ⟨a, σ1, σ2, s1, s2, ⟨r1, d1, w1⟩, hJ⟩ := j_notary h hN (f (i + 1)) (f (i + 2))
  obtain ⟨r0, d0, w0⟩ := h.W
  refine lg_go ok (aa_aload1 iL_law_1149) ?_
  refine lg_rd ok iL_law_1150 iL_law_1151 iL_law_1153 iL_law_1154 iL_law_1155 (jn := 1) rfl (by omega) hn ?_
  refine lg_rd ok iL_law_1156 iL_law_1157 iL_law_1159 iL_law_1160 iL_law_1161 (jn := 2) rfl (by omega) hn ?_
  refine lg_go ok (aa_cVi iL_law_1162 s1 (by decide) lc_X11_notary lk_L_181 (sh_0 w0) rfl rfl (Nat.le_of_ble_eq_true rfl)) ?_
  refine lg_go ok (aa_aload2 iL_law_1165) ?_
  refine lg_rd ok iL_law_1166 iL_law_1167 iL_law_1169 iL_law_1170 iL_law_1171 (jn := 1) rfl (by omega) hn ?_
  refine lg_rd ok iL_law_1172 iL_law_1173 iL_law_1175 iL_law_1176 iL_law_1177 (jn := 2) rfl (by omega) hn ?_
  refine lg_go ok (aa_cVi iL_law_1178 s2 (by decide) lc_X12_notary lk_L_184 (sh_63 w1) rfl rfl (Nat.le_of_ble_eq_true rfl)) ?_
  exact lg_go ok (aa_ic_eqT iL_law_1181 rfl) (lc_tail ok hJ)
theorem lc_38 (ok : lg_ok n f x) (h : JI N σ) (hN : N ≤ 64) (hi : i + 5 ≤ n) (hn : n ≤ 320) : lg_V x 1186 (lg_ls i v5 v6 v7) [] σ (lg_E i N) := by
  obtain ⟨a, σ1, σ2, s1, s2, ⟨r1, d1, w1⟩, hJ⟩ := j_change h hN
  obtain ⟨r0, d0, w0⟩ := h.W
  refine lg_go ok (aa_aload1 iL_law_1186) ?_
  refine lg_go ok (aa_cVi iL_law_1187 s1 (by decide) lc_X11_change lk_L_185 (sh_0 w0) rfl rfl (Nat.le_of_ble_eq_true rfl)) ?_
  refine lg_go ok (aa_aload2 iL_law_1190) ?_
  refine lg_go ok (aa_cVi iL_law_1191 s2 (by decide) lc_X12_change lk_L_188 (sh_63 w1) rfl rfl (Nat.le_of_ble_eq_true rfl)) ?_
  exact lg_go ok (aa_ic_eqT iL_law_1194 rfl) (lc_tail ok hJ)
theorem lc_39 (ok : lg_ok n f x) (h : JI N σ) (hN : N ≤ 64) (hi : i + 5 ≤ n) (hn : n ≤ 320) : lg_V x 1199 (lg_ls i v5 v6 v7) [] σ (lg_E i N) := by
  obtain ⟨a, σ1, σ2, s1, s2, ⟨r1, d1, w1⟩, hJ⟩ := j_single h hN
  obtain ⟨r0, d0, w0⟩ := h.W
  refine lg_go ok (aa_aload1 iL_law_1199) ?_
  refine lg_go ok (aa_cVi iL_law_1200 s1 (by decide) lc_X11_single lk_L_189 (sh_0 w0) rfl rfl (Nat.le_of_ble_eq_true rfl)) ?_
  refine lg_go ok (aa_aload2 iL_law_1203) ?_
  refine lg_go ok (aa_cVi iL_law_1204 s2 (by decide) lc_X12_single lk_L_192 (sh_63 w1) rfl rfl (Nat.le_of_ble_eq_true rfl)) ?_
  exact lg_go ok (aa_ic_eqT iL_law_1207 rfl) (lc_tail ok hJ)
theorem lc_40 (ok : lg_ok n f x) (h : JI N σ) (hN : N ≤ 64) (hi : i + 5 ≤ n) (hn : n ≤ 320) : lg_V x 1212 (lg_ls i v5 v6 v7) [] σ (lg_E i N) := by
  obtain ⟨a, σ1, σ2, s1, s2, ⟨r1, d1, w1⟩, hJ⟩ := j_keep h hN (f (i + 1))
  obtain ⟨r0, d0, w0⟩ := h.W
  refine lg_go ok (aa_aload1 iL_law_1212) ?_
  refine lg_rd ok iL_law_1213 iL_law_1214 iL_law_1216 iL_law_1217 iL_law_1218 (jn := 1) rfl (by omega) hn ?_
  refine lg_go ok (aa_cVi iL_law_1219 s1 (by decide) lc_X11_keep lk_L_193 (sh_0 w0) rfl rfl (Nat.le_of_ble_eq_true rfl)) ?_
  refine lg_go ok (aa_aload2 iL_law_1222) ?_
  refine lg_rd ok iL_law_1223 iL_law_1224 iL_law_1226 iL_law_1227 iL_law_1228 (jn := 1) rfl (by omega) hn ?_
  refine lg_go ok (aa_cVi iL_law_1229 s2 (by decide) lc_X12_keep lk_L_196 (sh_63 w1) rfl rfl (Nat.le_of_ble_eq_true rfl)) ?_
  exact lg_go ok (aa_ic_eqT iL_law_1232 rfl) (lc_tail ok hJ)
theorem lc_41 (ok : lg_ok n f x) (h : JI N σ) (hN : N ≤ 64) (hi : i + 5 ≤ n) (hn : n ≤ 320) : lg_V x 1237 (lg_ls i v5 v6 v7) [] σ (lg_E i N) := by
  obtain ⟨a, σ1, σ2, s1, s2, ⟨r1, d1, w1⟩, hJ⟩ := j_again h hN (f (i + 1))
  obtain ⟨r0, d0, w0⟩ := h.W
  refine lg_go ok (aa_aload1 iL_law_1237) ?_
  refine lg_rd ok iL_law_1238 iL_law_1239 iL_law_1241 iL_law_1242 iL_law_1243 (jn := 1) rfl (by omega) hn ?_
  refine lg_go ok (aa_cVi iL_law_1244 s1 (by decide) lc_X11_again lk_L_197 (sh_0 w0) rfl rfl (Nat.le_of_ble_eq_true rfl)) ?_
  refine lg_go ok (aa_aload2 iL_law_1247) ?_
  refine lg_rd ok iL_law_1248 iL_law_1249 iL_law_1251 iL_law_1252 iL_law_1253 (jn := 1) rfl (by omega) hn ?_
  refine lg_go ok (aa_cVi iL_law_1254 s2 (by decide) lc_X12_again lk_L_200 (sh_63 w1) rfl rfl (Nat.le_of_ble_eq_true rfl)) ?_
  exact lg_go ok (aa_ic_eqT iL_law_1257 rfl) (lc_tail ok hJ)
theorem lc_42 (ok : lg_ok n f x) (h : JI N σ) (hN : N ≤ 64) (hi : i + 5 ≤ n) (hn : n ≤ 320) : lg_V x 1262 (lg_ls i v5 v6 v7) [] σ (lg_E i N) := by
  obtain ⟨a, σ1, σ2, s1, s2, ⟨r1, d1, w1⟩, hJ⟩ := j_count h hN (f (i + 1))
  obtain ⟨r0, d0, w0⟩ := h.W
  refine lg_go ok (aa_aload1 iL_law_1262) ?_
  refine lg_rd ok iL_law_1263 iL_law_1264 iL_law_1266 iL_law_1267 iL_law_1268 (jn := 1) rfl (by omega) hn ?_
  refine lg_go ok (aa_cVi iL_law_1269 s1 (by decide) lc_X11_count lk_L_201 (sh_0 w0) rfl rfl (Nat.le_of_ble_eq_true rfl)) ?_
  refine lg_go ok (aa_aload2 iL_law_1272) ?_
  refine lg_rd ok iL_law_1273 iL_law_1274 iL_law_1276 iL_law_1277 iL_law_1278 (jn := 1) rfl (by omega) hn ?_
  refine lg_go ok (aa_cVi iL_law_1279 s2 (by decide) lc_X12_count lk_L_204 (sh_63 w1) rfl rfl (Nat.le_of_ble_eq_true rfl)) ?_
  exact lg_go ok (aa_ic_eqT iL_law_1282 rfl) (lc_tail ok hJ)
theorem lc_thing (ok : lg_ok n f x) (h : JI N σ) (hi : i + 5 ≤ n) (hn : n ≤ 320) : lg_V x 291 (lg_ls i v5 v6 v7) [] σ (lg_E i N) := by
  obtain ⟨k, a, σ1, σ2, hk, s1, ⟨r1, d1, w1⟩, s2, ⟨r2, d2, w2⟩, s3, e1, hJ⟩ := j_thing h (f (i + 1)) (f (i + 2))
  refine lg_go ok (aa_aload1 iL_law_291) ?_
  refine lg_rd ok iL_law_292 iL_law_293 iL_law_295 iL_law_296 iL_law_297 (jn := 1) rfl (by omega) hn ?_
  refine lg_rd ok iL_law_298 iL_law_299 iL_law_301 iL_law_302 iL_law_303 (jn := 2) rfl (by omega) hn ?_
  refine lg_go ok (aa_aload3 iL_law_304) (lg_gg (lg_callW ok iL_law_305 s1 rfl lw_thing rfl (Nat.le_of_ble_eq_true rfl)) ?_)
  refine lg_go ok (aa_istore5 iL_law_308 rfl (by decide)) (lg_go ok (aa_aload2 iL_law_310) ?_)
  refine lg_rd ok iL_law_311 iL_law_312 iL_law_314 iL_law_315 iL_law_316 (jn := 1) rfl (by omega) hn ?_
  refine lg_rd ok iL_law_317 iL_law_318 iL_law_320 iL_law_321 iL_law_322 (jn := 2) rfl (by omega) hn ?_
  refine lg_go ok (aa_cVi iL_law_323 s2 (by decide) lc_X12_thing lk_L_43 (sh_63 w1) rfl rfl (Nat.le_of_ble_eq_true rfl)) ?_
  refine lg_go ok (aa_istore6 iL_law_326 rfl (by decide)) (lg_go ok (aa_aload2 iL_law_328) ?_)
  refine lg_go ok (aa_cVi iL_law_329 s3 (by decide) lc_X12_thrown lk_L_44 (sh_63 w2) rfl rfl (Nat.le_of_ble_eq_true rfl)) ?_
  refine lg_go ok (aa_iload5 iL_law_332) (lg_go ok (aa_ic_eqT iL_law_334 rfl) (lg_go ok (aa_iload5 iL_law_339) ?_))
  rcases (show k = 0 ∨ k = 1 by omega) with rfl | rfl
  · refine lg_go ok (aa_if_neF iL_law_341 rfl) (lg_go ok (aa_aload3 iL_law_344) (lg_go ok (aa_iconst (v := nI 0) iL_law_345 rfl) ?_))
    refine lg_go ok (aa_lalE iL_law_346 (sh_86 w2) (by decide) (by decide) (e1 rfl)) (lg_go ok (aa_iload6 iL_law_347) (lg_go ok (aa_i2l iL_law_349) (lg_go ok (aa_lcmp iL_law_350) ?_)))
    exact lg_go ok (aa_if_eqT iL_law_351 ((lg_eq0 _ _).mpr rfl)) (lg_go ok (aa_goto iL_law_356) (lc_tail ok hJ))
  · exact lg_go ok (aa_if_neT iL_law_341 (by decide)) (lg_go ok (aa_goto iL_law_356) (lc_tail ok hJ))
theorem lc_row (ok : lg_ok n f x) (h : JI N σ) (hi : i + 5 ≤ n) (hn : n ≤ 320) : lg_V x 1287 (lg_ls i v5 v6 v7) [] σ (lg_E i N) := by
  obtain ⟨k, a, σ1, σ2, hk, s1, ⟨r1, d1, w1⟩, s2, ⟨r2, d2, w2⟩, s3, e1, hJ⟩ := j_row h (f (i + 1))
  refine lg_go ok (aa_aload1 iL_law_1287) ?_
  refine lg_rd ok iL_law_1288 iL_law_1289 iL_law_1291 iL_law_1292 iL_law_1293 (jn := 1) rfl (by omega) hn ?_
  refine lg_go ok (aa_aload3 iL_law_1294) (lg_gg (lg_callW ok iL_law_1295 s1 rfl lw_row rfl (Nat.le_of_ble_eq_true rfl)) ?_)
  refine lg_go ok (aa_istore5 iL_law_1298 rfl (by decide)) (lg_go ok (aa_aload2 iL_law_1300) ?_)
  refine lg_rd ok iL_law_1301 iL_law_1302 iL_law_1304 iL_law_1305 iL_law_1306 (jn := 1) rfl (by omega) hn ?_
  refine lg_go ok (aa_cVl iL_law_1307 s2 (by decide) lc_X12_row lk_L_208 (sh_63 w1) rfl rfl (Nat.le_of_ble_eq_true rfl)) ?_
  refine lg_go ok (aa_lstore6 iL_law_1310 rfl (by decide)) (lg_go ok (aa_aload2 iL_law_1312) ?_)
  refine lg_go ok (aa_cVi iL_law_1313 s3 (by decide) lc_X12_thrown lk_L_44 (sh_63 w2) rfl rfl (Nat.le_of_ble_eq_true rfl)) ?_
  refine lg_go ok (aa_iload5 iL_law_1316) (lg_go ok (aa_ic_eqT iL_law_1318 rfl) (lg_go ok (aa_iload5 iL_law_1323) ?_))
  rcases (show k = 0 ∨ k = 1 by omega) with rfl | rfl
  · refine lg_go ok (aa_if_neF iL_law_1325 rfl) (lg_go ok (aa_aload3 iL_law_1328) (lg_go ok (aa_iconst (v := nI 0) iL_law_1329 rfl) ?_))
    refine lg_go ok (aa_lalE iL_law_1330 (sh_86 w2) (by decide) (by decide) (e1 rfl)) (lg_go ok (aa_lload6 iL_law_1331) (lg_go ok (aa_lcmp iL_law_1333) ?_))
    exact lg_go ok (aa_if_eqT iL_law_1334 ((lg_eq0 _ _).mpr rfl)) (lg_go ok (aa_goto iL_law_1339) (lc_tail ok hJ))
  · exact lg_go ok (aa_if_neT iL_law_1325 (by decide)) (lg_go ok (aa_goto iL_law_1339) (lc_tail ok hJ))
/-- one round: whatever is asked for -/
theorem lc_all (ok : lg_ok n f x) (h : JI N σ) (hN : N ≤ 64) (hi : i + 5 ≤ n) (hn : n ≤ 320) {k : Nat} (hk : k < 64) : lg_V x 39 (lg_ls i v5 v6 v7) [.int (nI k)] σ (lg_E i N) := by
  by_cases hb : 43 < k
  · refine lg_go ok (aa_tsOut (tgt := 1342) iL_law_39 (Or.inr ?_) (by decide)) ?_
    · rw [nI_toInt (by omega)]; omega
    · obtain ⟨P, tx, n1, g, kp, lk, tl, rw, Q, r, dy, ⟨v, W, S, R, hX⟩, hM, hQ⟩ := h
      exact lc_tail ok ⟨P, tx, n1, g, kp, lk, tl, rw, Q, r, dy, (hX.up (Nat.le_succ N)).to, hM, by omega⟩
  have hc : k = 0 ∨ k = 1 ∨ k = 2 ∨ k = 3 ∨ k = 4 ∨ k = 5 ∨ k = 6 ∨ k = 7 ∨ k = 8 ∨ k = 9 ∨ k = 10 ∨ k = 11 ∨ k = 12 ∨ k = 13 ∨ k = 14 ∨ k = 15 ∨ k = 16 ∨ k = 17 ∨ k = 18 ∨ k = 19 ∨ k = 20 ∨ k = 21 ∨ k = 22 ∨ k = 23 ∨ k = 24 ∨ k = 25 ∨ k = 26 ∨ k = 27 ∨ k = 28 ∨ k = 29 ∨ k = 30 ∨ k = 31 ∨ k = 32 ∨ k = 33 ∨ k = 34 ∨ k = 35 ∨ k = 36 ∨ k = 37 ∨ k = 38 ∨ k = 39 ∨ k = 40 ∨ k = 41 ∨ k = 42 ∨ k = 43 := by omega
  rcases hc with rfl | rfl | rfl | rfl | rfl | rfl | rfl | rfl | rfl | rfl | rfl | rfl | rfl | rfl | rfl | rfl | rfl | rfl | rfl | rfl | rfl | rfl | rfl | rfl | rfl | rfl | rfl | rfl | rfl | rfl | rfl | rfl | rfl | rfl | rfl | rfl | rfl | rfl | rfl | rfl | rfl | rfl | rfl | rfl
  · exact lg_go ok (aa_tsIn (x := nI 0) (off := 189) (tgt := 228) iL_law_39 (by decide) (by decide) (by decide) (by decide)) (lc_0 ok h hN hi hn)
  · exact lg_go ok (aa_tsIn (x := nI 1) (off := 214) (tgt := 253) iL_law_39 (by decide) (by decide) (by decide) (by decide)) (lc_1 ok h hN hi hn)
  · exact lg_go ok (aa_tsIn (x := nI 2) (off := 239) (tgt := 278) iL_law_39 (by decide) (by decide) (by decide) (by decide)) (lc_2 ok h hN hi hn)
  · exact lg_go ok (aa_tsIn (x := nI 3) (off := 252) (tgt := 291) iL_law_39 (by decide) (by decide) (by decide) (by decide)) (lc_thing ok h hi hn)
  · exact lg_go ok (aa_tsIn (x := nI 4) (off := 320) (tgt := 359) iL_law_39 (by decide) (by decide) (by decide) (by decide)) (lc_4 ok h hN hi hn)
  · exact lg_go ok (aa_tsIn (x := nI 5) (off := 345) (tgt := 384) iL_law_39 (by decide) (by decide) (by decide) (by decide)) (lc_5 ok h hN hi hn)
  · exact lg_go ok (aa_tsIn (x := nI 6) (off := 406) (tgt := 445) iL_law_39 (by decide) (by decide) (by decide) (by decide)) (lc_6 ok h hN hi hn)
  · exact lg_go ok (aa_tsIn (x := nI 7) (off := 431) (tgt := 470) iL_law_39 (by decide) (by decide) (by decide) (by decide)) (lc_7 ok h hN hi hn)
  · exact lg_go ok (aa_tsIn (x := nI 8) (off := 456) (tgt := 495) iL_law_39 (by decide) (by decide) (by decide) (by decide)) (lc_8 ok h hN hi hn)
  · exact lg_go ok (aa_tsIn (x := nI 9) (off := 469) (tgt := 508) iL_law_39 (by decide) (by decide) (by decide) (by decide)) (lc_9 ok h hN hi hn)
  · exact lg_go ok (aa_tsIn (x := nI 10) (off := 482) (tgt := 521) iL_law_39 (by decide) (by decide) (by decide) (by decide)) (lc_10 ok h hN hi hn)
  · exact lg_go ok (aa_tsIn (x := nI 11) (off := 543) (tgt := 582) iL_law_39 (by decide) (by decide) (by decide) (by decide)) (lc_11 ok h hN hi hn)
  · exact lg_go ok (aa_tsIn (x := nI 12) (off := 556) (tgt := 595) iL_law_39 (by decide) (by decide) (by decide) (by decide)) (lc_12 ok h hN hi hn)
  · exact lg_go ok (aa_tsIn (x := nI 13) (off := 569) (tgt := 608) iL_law_39 (by decide) (by decide) (by decide) (by decide)) (lc_13 ok h hN hi hn)
  · exact lg_go ok (aa_tsIn (x := nI 14) (off := 606) (tgt := 645) iL_law_39 (by decide) (by decide) (by decide) (by decide)) (lc_14 ok h hN hi hn)
  · exact lg_go ok (aa_tsIn (x := nI 15) (off := 619) (tgt := 658) iL_law_39 (by decide) (by decide) (by decide) (by decide)) (lc_15 ok h hN hi hn)
  · exact lg_go ok (aa_tsIn (x := nI 16) (off := 632) (tgt := 671) iL_law_39 (by decide) (by decide) (by decide) (by decide)) (lc_16 ok h hN hi hn)
  · exact lg_go ok (aa_tsIn (x := nI 17) (off := 645) (tgt := 684) iL_law_39 (by decide) (by decide) (by decide) (by decide)) (lc_17 ok h hN hi hn)
  · exact lg_go ok (aa_tsIn (x := nI 18) (off := 671) (tgt := 710) iL_law_39 (by decide) (by decide) (by decide) (by decide)) (lc_18 ok h hN hi hn)
  · exact lg_go ok (aa_tsIn (x := nI 19) (off := 684) (tgt := 723) iL_law_39 (by decide) (by decide) (by decide) (by decide)) (lc_19 ok h hN hi hn)
  · exact lg_go ok (aa_tsIn (x := nI 20) (off := 709) (tgt := 748) iL_law_39 (by decide) (by decide) (by decide) (by decide)) (lc_20 ok h hN hi hn)
  · exact lg_go ok (aa_tsIn (x := nI 21) (off := 722) (tgt := 761) iL_law_39 (by decide) (by decide) (by decide) (by decide)) (lc_21 ok h hN hi hn)
  · exact lg_go ok (aa_tsIn (x := nI 22) (off := 747) (tgt := 786) iL_law_39 (by decide) (by decide) (by decide) (by decide)) (lc_22 ok h hN hi hn)
  · exact lg_go ok (aa_tsIn (x := nI 23) (off := 772) (tgt := 811) iL_law_39 (by decide) (by decide) (by decide) (by decide)) (lc_23 ok h hN hi hn)
  · exact lg_go ok (aa_tsIn (x := nI 24) (off := 785) (tgt := 824) iL_law_39 (by decide) (by decide) (by decide) (by decide)) (lc_24 ok h hN hi hn)
  · exact lg_go ok (aa_tsIn (x := nI 25) (off := 810) (tgt := 849) iL_law_39 (by decide) (by decide) (by decide) (by decide)) (lc_25 ok h hN hi hn)
  · exact lg_go ok (aa_tsIn (x := nI 26) (off := 823) (tgt := 862) iL_law_39 (by decide) (by decide) (by decide) (by decide)) (lc_26 ok h hN hi hn)
  · exact lg_go ok (aa_tsIn (x := nI 27) (off := 860) (tgt := 899) iL_law_39 (by decide) (by decide) (by decide) (by decide)) (lc_27 ok h hN hi hn)
  · exact lg_go ok (aa_tsIn (x := nI 28) (off := 921) (tgt := 960) iL_law_39 (by decide) (by decide) (by decide) (by decide)) (lc_28 ok h hN hi hn)
  · exact lg_go ok (aa_tsIn (x := nI 29) (off := 934) (tgt := 973) iL_law_39 (by decide) (by decide) (by decide) (by decide)) (lc_29 ok h hN hi hn)
  · exact lg_go ok (aa_tsIn (x := nI 30) (off := 971) (tgt := 1010) iL_law_39 (by decide) (by decide) (by decide) (by decide)) (lc_30 ok h hN hi hn)
  · exact lg_go ok (aa_tsIn (x := nI 31) (off := 984) (tgt := 1023) iL_law_39 (by decide) (by decide) (by decide) (by decide)) (lc_31 ok h hN hi hn)
  · exact lg_go ok (aa_tsIn (x := nI 32) (off := 997) (tgt := 1036) iL_law_39 (by decide) (by decide) (by decide) (by decide)) (lc_32 ok h hN hi hn)
  · exact lg_go ok (aa_tsIn (x := nI 33) (off := 1010) (tgt := 1049) iL_law_39 (by decide) (by decide) (by decide) (by decide)) (lc_33 ok h hN hi hn)
  · exact lg_go ok (aa_tsIn (x := nI 34) (off := 1047) (tgt := 1086) iL_law_39 (by decide) (by decide) (by decide) (by decide)) (lc_34 ok h hN hi hn)
  · exact lg_go ok (aa_tsIn (x := nI 35) (off := 1072) (tgt := 1111) iL_law_39 (by decide) (by decide) (by decide) (by decide)) (lc_35 ok h hN hi hn)
  · exact lg_go ok (aa_tsIn (x := nI 36) (off := 1085) (tgt := 1124) iL_law_39 (by decide) (by decide) (by decide) (by decide)) (lc_36 ok h hN hi hn)
  · exact lg_go ok (aa_tsIn (x := nI 37) (off := 1110) (tgt := 1149) iL_law_39 (by decide) (by decide) (by decide) (by decide)) (lc_37 ok h hN hi hn)
  · exact lg_go ok (aa_tsIn (x := nI 38) (off := 1147) (tgt := 1186) iL_law_39 (by decide) (by decide) (by decide) (by decide)) (lc_38 ok h hN hi hn)
  · exact lg_go ok (aa_tsIn (x := nI 39) (off := 1160) (tgt := 1199) iL_law_39 (by decide) (by decide) (by decide) (by decide)) (lc_39 ok h hN hi hn)
  · exact lg_go ok (aa_tsIn (x := nI 40) (off := 1173) (tgt := 1212) iL_law_39 (by decide) (by decide) (by decide) (by decide)) (lc_40 ok h hN hi hn)
  · exact lg_go ok (aa_tsIn (x := nI 41) (off := 1198) (tgt := 1237) iL_law_39 (by decide) (by decide) (by decide) (by decide)) (lc_41 ok h hN hi hn)
  · exact lg_go ok (aa_tsIn (x := nI 42) (off := 1223) (tgt := 1262) iL_law_39 (by decide) (by decide) (by decide) (by decide)) (lc_42 ok h hN hi hn)
  · exact lg_go ok (aa_tsIn (x := nI 43) (off := 1248) (tgt := 1287) iL_law_39 (by decide) (by decide) (by decide) (by decide)) (lc_row ok h hi hn)
end
