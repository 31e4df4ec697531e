section
def aa_At (M : aa_M) (pc : Nat) (i : Instr) (n pn : Nat) : Prop := decode M.2.1 pc = .ok (i, n) ∧ pc + n = pn
def aa_J (M : aa_M) (pc : Nat) (f : Int → Instr) (pn tgt : Nat) : Prop := ∃ off : Int, decode M.2.1 pc = .ok (f off, 3) ∧ pc + 3 = pn ∧ (pc : Int) + off = (tgt : Int)
variable {M : aa_M} {d pc pn : Nat} {ls tl : aa_L} {st : List Value} {σ : aa_St}
theorem aa_iconst {k : Int} {v : Int32} (h : aa_At M pc (.iconst k) 1 pn) (hv : Int32.ofInt k = v) : aa_Go M d pc ls (st) σ pn ls (.int v :: st) σ := ⟨Nat.le_refl _, Nat.le_refl _, fun p l e R s m args below meth c D cA b z c0 s0 Q ok _ _ _ _ K H locs lsA hP hz hS hl => by
  have K1 := K H locs lsA hP hz hS hl
  rw [← h.2] at K1
  exact lv_iconst ok.1 ok.2.1 h.1 hv K1⟩
theorem aa_bipush {k : Int} {v : Int32} (h : aa_At M pc (.bipush k) 2 pn) (hv : (Int8.ofInt k).toInt32 = v) : aa_Go M d pc ls (st) σ pn ls (.int v :: st) σ := ⟨Nat.le_refl _, Nat.le_refl _, fun p l e R s m args below meth c D cA b z c0 s0 Q ok _ _ _ _ K H locs lsA hP hz hS hl => by
  have K1 := K H locs lsA hP hz hS hl
  rw [← h.2] at K1
  exact lv_bipush ok.1 ok.2.1 h.1 hv K1⟩
theorem aa_sipush {k : Int} {v : Int32} (h : aa_At M pc (.sipush k) 3 pn) (hv : (Int16.ofInt k).toInt32 = v) : aa_Go M d pc ls (st) σ pn ls (.int v :: st) σ := ⟨Nat.le_refl _, Nat.le_refl _, fun p l e R s m args below meth c D cA b z c0 s0 Q ok _ _ _ _ K H locs lsA hP hz hS hl => by
  have K1 := K H locs lsA hP hz hS hl
  rw [← h.2] at K1
  exact lv_sipush ok.1 ok.2.1 h.1 hv K1⟩
theorem aa_lconst {k : Fin 2} {v : Int64} (h : aa_At M pc (.lconst k) 1 pn) (hv : Int64.ofNat (k : Nat) = v) : aa_Go M d pc ls (st) σ pn ls (.long v :: st) σ := ⟨Nat.le_refl _, Nat.le_refl _, fun p l e R s m args below meth c D cA b z c0 s0 Q ok _ _ _ _ K H locs lsA hP hz hS hl => by
  have K1 := K H locs lsA hP hz hS hl
  rw [← h.2] at K1
  exact lv_lconst ok.1 ok.2.1 h.1 hv K1⟩
theorem aa_iadd {x y : Int32} (h : aa_At M pc (.iadd) 1 pn) : aa_Go M d pc ls (.int y :: .int x :: st) σ pn ls (.int (x + y) :: st) σ := ⟨Nat.le_refl _, Nat.le_refl _, fun p l e R s m args below meth c D cA b z c0 s0 Q ok _ _ _ _ K H locs lsA hP hz hS hl => by
  have K1 := K H locs lsA hP hz hS hl
  rw [← h.2] at K1
  exact lv_iadd ok.1 ok.2.1 h.1 K1⟩
theorem aa_isub {x y : Int32} (h : aa_At M pc (.isub) 1 pn) : aa_Go M d pc ls (.int y :: .int x :: st) σ pn ls (.int (x - y) :: st) σ := ⟨Nat.le_refl _, Nat.le_refl _, fun p l e R s m args below meth c D cA b z c0 s0 Q ok _ _ _ _ K H locs lsA hP hz hS hl => by
  have K1 := K H locs lsA hP hz hS hl
  rw [← h.2] at K1
  exact lv_isub ok.1 ok.2.1 h.1 K1⟩
theorem aa_imul {x y : Int32} (h : aa_At M pc (.imul) 1 pn) : aa_Go M d pc ls (.int y :: .int x :: st) σ pn ls (.int (x * y) :: st) σ := ⟨Nat.le_refl _, Nat.le_refl _, fun p l e R s m args below meth c D cA b z c0 s0 Q ok _ _ _ _ K H locs lsA hP hz hS hl => by
  have K1 := K H locs lsA hP hz hS hl
  rw [← h.2] at K1
  exact lv_imul ok.1 ok.2.1 h.1 K1⟩
theorem aa_iand {x y : Int32} (h : aa_At M pc (.iand) 1 pn) : aa_Go M d pc ls (.int y :: .int x :: st) σ pn ls (.int (x &&& y) :: st) σ := ⟨Nat.le_refl _, Nat.le_refl _, fun p l e R s m args below meth c D cA b z c0 s0 Q ok _ _ _ _ K H locs lsA hP hz hS hl => by
  have K1 := K H locs lsA hP hz hS hl
  rw [← h.2] at K1
  exact lv_iand ok.1 ok.2.1 h.1 K1⟩
theorem aa_ior {x y : Int32} (h : aa_At M pc (.ior) 1 pn) : aa_Go M d pc ls (.int y :: .int x :: st) σ pn ls (.int (x ||| y) :: st) σ := ⟨Nat.le_refl _, Nat.le_refl _, fun p l e R s m args below meth c D cA b z c0 s0 Q ok _ _ _ _ K H locs lsA hP hz hS hl => by
  have K1 := K H locs lsA hP hz hS hl
  rw [← h.2] at K1
  exact lv_ior ok.1 ok.2.1 h.1 K1⟩
theorem aa_ixor {x y : Int32} (h : aa_At M pc (.ixor) 1 pn) : aa_Go M d pc ls (.int y :: .int x :: st) σ pn ls (.int (x ^^^ y) :: st) σ := ⟨Nat.le_refl _, Nat.le_refl _, fun p l e R s m args below meth c D cA b z c0 s0 Q ok _ _ _ _ K H locs lsA hP hz hS hl => by
  have K1 := K H locs lsA hP hz hS hl
  rw [← h.2] at K1
  exact lv_ixor ok.1 ok.2.1 h.1 K1⟩
theorem aa_ishl {x y : Int32} (h : aa_At M pc (.ishl) 1 pn) : aa_Go M d pc ls (.int y :: .int x :: st) σ pn ls (.int (x <<< (y &&& 31)) :: st) σ := ⟨Nat.le_refl _, Nat.le_refl _, fun p l e R s m args below meth c D cA b z c0 s0 Q ok _ _ _ _ K H locs lsA hP hz hS hl => by
  have K1 := K H locs lsA hP hz hS hl
  rw [← h.2] at K1
  exact lv_ishl ok.1 ok.2.1 h.1 K1⟩
theorem aa_ishr {x y : Int32} (h : aa_At M pc (.ishr) 1 pn) : aa_Go M d pc ls (.int y :: .int x :: st) σ pn ls (.int (x >>> (y &&& 31)) :: st) σ := ⟨Nat.le_refl _, Nat.le_refl _, fun p l e R s m args below meth c D cA b z c0 s0 Q ok _ _ _ _ K H locs lsA hP hz hS hl => by
  have K1 := K H locs lsA hP hz hS hl
  rw [← h.2] at K1
  exact lv_ishr ok.1 ok.2.1 h.1 K1⟩
theorem aa_idiv {x y : Int32} (h : aa_At M pc (.idiv) 1 pn) (hne : ¬ y = 0) : aa_Go M d pc ls (.int y :: .int x :: st) σ pn ls (.int (x / y) :: st) σ := ⟨Nat.le_refl _, Nat.le_refl _, fun p l e R s m args below meth c D cA b z c0 s0 Q ok _ _ _ _ K H locs lsA hP hz hS hl => by
  have K1 := K H locs lsA hP hz hS hl
  rw [← h.2] at K1
  exact lv_idiv ok.1 ok.2.1 h.1 hne K1⟩
theorem aa_irem {x y : Int32} (h : aa_At M pc (.irem) 1 pn) (hne : ¬ y = 0) : aa_Go M d pc ls (.int y :: .int x :: st) σ pn ls (.int (x - x / y * y) :: st) σ := ⟨Nat.le_refl _, Nat.le_refl _, fun p l e R s m args below meth c D cA b z c0 s0 Q ok _ _ _ _ K H locs lsA hP hz hS hl => by
  have K1 := K H locs lsA hP hz hS hl
  rw [← h.2] at K1
  exact lv_irem ok.1 ok.2.1 h.1 hne K1⟩
theorem aa_ladd {x y : Int64} (h : aa_At M pc (.ladd) 1 pn) : aa_Go M d pc ls (.long y :: .long x :: st) σ pn ls (.long (x + y) :: st) σ := ⟨Nat.le_refl _, Nat.le_refl _, fun p l e R s m args below meth c D cA b z c0 s0 Q ok _ _ _ _ K H locs lsA hP hz hS hl => by
  have K1 := K H locs lsA hP hz hS hl
  rw [← h.2] at K1
  exact lv_ladd ok.1 ok.2.1 h.1 K1⟩
theorem aa_lsub {x y : Int64} (h : aa_At M pc (.lsub) 1 pn) : aa_Go M d pc ls (.long y :: .long x :: st) σ pn ls (.long (x - y) :: st) σ := ⟨Nat.le_refl _, Nat.le_refl _, fun p l e R s m args below meth c D cA b z c0 s0 Q ok _ _ _ _ K H locs lsA hP hz hS hl => by
  have K1 := K H locs lsA hP hz hS hl
  rw [← h.2] at K1
  exact lv_lsub ok.1 ok.2.1 h.1 K1⟩
theorem aa_lmul {x y : Int64} (h : aa_At M pc (.lmul) 1 pn) : aa_Go M d pc ls (.long y :: .long x :: st) σ pn ls (.long (x * y) :: st) σ := ⟨Nat.le_refl _, Nat.le_refl _, fun p l e R s m args below meth c D cA b z c0 s0 Q ok _ _ _ _ K H locs lsA hP hz hS hl => by
  have K1 := K H locs lsA hP hz hS hl
  rw [← h.2] at K1
  exact lv_lmul ok.1 ok.2.1 h.1 K1⟩
theorem aa_land {x y : Int64} (h : aa_At M pc (.land) 1 pn) : aa_Go M d pc ls (.long y :: .long x :: st) σ pn ls (.long (x &&& y) :: st) σ := ⟨Nat.le_refl _, Nat.le_refl _, fun p l e R s m args below meth c D cA b z c0 s0 Q ok _ _ _ _ K H locs lsA hP hz hS hl => by
  have K1 := K H locs lsA hP hz hS hl
  rw [← h.2] at K1
  exact lv_land ok.1 ok.2.1 h.1 K1⟩
theorem aa_lor {x y : Int64} (h : aa_At M pc (.lor) 1 pn) : aa_Go M d pc ls (.long y :: .long x :: st) σ pn ls (.long (x ||| y) :: st) σ := ⟨Nat.le_refl _, Nat.le_refl _, fun p l e R s m args below meth c D cA b z c0 s0 Q ok _ _ _ _ K H locs lsA hP hz hS hl => by
  have K1 := K H locs lsA hP hz hS hl
  rw [← h.2] at K1
  exact lv_lor ok.1 ok.2.1 h.1 K1⟩
theorem aa_lxor {x y : Int64} (h : aa_At M pc (.lxor) 1 pn) : aa_Go M d pc ls (.long y :: .long x :: st) σ pn ls (.long (x ^^^ y) :: st) σ := ⟨Nat.le_refl _, Nat.le_refl _, fun p l e R s m args below meth c D cA b z c0 s0 Q ok _ _ _ _ K H locs lsA hP hz hS hl => by
  have K1 := K H locs lsA hP hz hS hl
  rw [← h.2] at K1
  exact lv_lxor ok.1 ok.2.1 h.1 K1⟩
theorem aa_ldiv {x y : Int64} (h : aa_At M pc (.ldiv) 1 pn) (hne : ¬ y = 0) : aa_Go M d pc ls (.long y :: .long x :: st) σ pn ls (.long (x / y) :: st) σ := ⟨Nat.le_refl _, Nat.le_refl _, fun p l e R s m args below meth c D cA b z c0 s0 Q ok _ _ _ _ K H locs lsA hP hz hS hl => by
  have K1 := K H locs lsA hP hz hS hl
  rw [← h.2] at K1
  exact lv_ldiv ok.1 ok.2.1 h.1 hne K1⟩
theorem aa_lrem {x y : Int64} (h : aa_At M pc (.lrem) 1 pn) (hne : ¬ y = 0) : aa_Go M d pc ls (.long y :: .long x :: st) σ pn ls (.long (x - x / y * y) :: st) σ := ⟨Nat.le_refl _, Nat.le_refl _, fun p l e R s m args below meth c D cA b z c0 s0 Q ok _ _ _ _ K H locs lsA hP hz hS hl => by
  have K1 := K H locs lsA hP hz hS hl
  rw [← h.2] at K1
  exact lv_lrem ok.1 ok.2.1 h.1 hne K1⟩
theorem aa_ineg {x : Int32} (h : aa_At M pc (.ineg) 1 pn) : aa_Go M d pc ls (.int x :: st) σ pn ls (.int (-x) :: st) σ := ⟨Nat.le_refl _, Nat.le_refl _, fun p l e R s m args below meth c D cA b z c0 s0 Q ok _ _ _ _ K H locs lsA hP hz hS hl => by
  have K1 := K H locs lsA hP hz hS hl
  rw [← h.2] at K1
  exact lv_ineg ok.1 ok.2.1 h.1 K1⟩
theorem aa_iushr {x y : Int32} (h : aa_At M pc (.iushr) 1 pn) : aa_Go M d pc ls (.int y :: .int x :: st) σ pn ls (.int ((x.toUInt32 >>> (y.toUInt32 &&& Int32.toUInt32 31)).toInt32) :: st) σ := ⟨Nat.le_refl _, Nat.le_refl _, fun p l e R s m args below meth c D cA b z c0 s0 Q ok _ _ _ _ K H locs lsA hP hz hS hl => by
  have K1 := K H locs lsA hP hz hS hl
  rw [← h.2] at K1
  exact lv_iushr ok.1 ok.2.1 h.1 rfl K1⟩
theorem aa_lushr {x : Int64} {y : Int32} (h : aa_At M pc (.lushr) 1 pn) : aa_Go M d pc ls (.int y :: .long x :: st) σ pn ls (.long ((x.toUInt64 >>> (y.toInt64.toUInt64 &&& Int64.toUInt64 63)).toInt64) :: st) σ := ⟨Nat.le_refl _, Nat.le_refl _, fun p l e R s m args below meth c D cA b z c0 s0 Q ok _ _ _ _ K H locs lsA hP hz hS hl => by
  have K1 := K H locs lsA hP hz hS hl
  rw [← h.2] at K1
  exact lv_lushr ok.1 ok.2.1 h.1 rfl K1⟩
theorem aa_lshl {x : Int64} {y : Int32} (h : aa_At M pc (.lshl) 1 pn) : aa_Go M d pc ls (.int y :: .long x :: st) σ pn ls (.long (x <<< (y.toInt64 &&& 63)) :: st) σ := ⟨Nat.le_refl _, Nat.le_refl _, fun p l e R s m args below meth c D cA b z c0 s0 Q ok _ _ _ _ K H locs lsA hP hz hS hl => by
  have K1 := K H locs lsA hP hz hS hl
  rw [← h.2] at K1
  exact lv_lshl ok.1 ok.2.1 h.1 rfl K1⟩
theorem aa_lshr {x : Int64} {y : Int32} (h : aa_At M pc (.lshr) 1 pn) : aa_Go M d pc ls (.int y :: .long x :: st) σ pn ls (.long (x >>> (y.toInt64 &&& 63)) :: st) σ := ⟨Nat.le_refl _, Nat.le_refl _, fun p l e R s m args below meth c D cA b z c0 s0 Q ok _ _ _ _ K H locs lsA hP hz hS hl => by
  have K1 := K H locs lsA hP hz hS hl
  rw [← h.2] at K1
  exact lv_lshr ok.1 ok.2.1 h.1 rfl K1⟩
theorem aa_i2l {x : Int32} (h : aa_At M pc (.i2l) 1 pn) : aa_Go M d pc ls (.int x :: st) σ pn ls (.long x.toInt64 :: st) σ := ⟨Nat.le_refl _, Nat.le_refl _, fun p l e R s m args below meth c D cA b z c0 s0 Q ok _ _ _ _ K H locs lsA hP hz hS hl => by
  have K1 := K H locs lsA hP hz hS hl
  rw [← h.2] at K1
  exact lv_i2l ok.1 ok.2.1 h.1 rfl K1⟩
theorem aa_l2i {x : Int64} (h : aa_At M pc (.l2i) 1 pn) : aa_Go M d pc ls (.long x :: st) σ pn ls (.int x.toInt32 :: st) σ := ⟨Nat.le_refl _, Nat.le_refl _, fun p l e R s m args below meth c D cA b z c0 s0 Q ok _ _ _ _ K H locs lsA hP hz hS hl => by
  have K1 := K H locs lsA hP hz hS hl
  rw [← h.2] at K1
  exact lv_l2i ok.1 ok.2.1 h.1 rfl K1⟩
theorem aa_i2b {x : Int32} (h : aa_At M pc (.i2b) 1 pn) : aa_Go M d pc ls (.int x :: st) σ pn ls (.int x.toInt8.toInt32 :: st) σ := ⟨Nat.le_refl _, Nat.le_refl _, fun p l e R s m args below meth c D cA b z c0 s0 Q ok _ _ _ _ K H locs lsA hP hz hS hl => by
  have K1 := K H locs lsA hP hz hS hl
  rw [← h.2] at K1
  exact lv_i2b ok.1 ok.2.1 h.1 rfl K1⟩
theorem aa_i2s {x : Int32} (h : aa_At M pc (.i2s) 1 pn) : aa_Go M d pc ls (.int x :: st) σ pn ls (.int x.toInt16.toInt32 :: st) σ := ⟨Nat.le_refl _, Nat.le_refl _, fun p l e R s m args below meth c D cA b z c0 s0 Q ok _ _ _ _ K H locs lsA hP hz hS hl => by
  have K1 := K H locs lsA hP hz hS hl
  rw [← h.2] at K1
  exact lv_i2s ok.1 ok.2.1 h.1 rfl K1⟩
theorem aa_dup {v : Value} (h : aa_At M pc (.dup) 1 pn) (hv : v.category = 1) : aa_Go M d pc ls (v :: st) σ pn ls (v :: v :: st) σ := ⟨Nat.le_refl _, Nat.le_refl _, fun p l e R s m args below meth c D cA b z c0 s0 Q ok _ _ _ _ K H locs lsA hP hz hS hl => by
  have K1 := K H locs lsA hP hz hS hl
  rw [← h.2] at K1
  exact lv_dup ok.1 ok.2.1 h.1 ((aa_tr_cat _ _ _).trans hv) K1⟩
theorem aa_pop {v : Value} (h : aa_At M pc (.pop) 1 pn) (hv : v.category = 1) : aa_Go M d pc ls (v :: st) σ pn ls (st) σ := ⟨Nat.le_refl _, Nat.le_refl _, fun p l e R s m args below meth c D cA b z c0 s0 Q ok _ _ _ _ K H locs lsA hP hz hS hl => by
  have K1 := K H locs lsA hP hz hS hl
  rw [← h.2] at K1
  exact lv_pop ok.1 ok.2.1 h.1 ((aa_tr_cat _ _ _).trans hv) K1⟩
theorem aa_dup2 {v w : Value} (h : aa_At M pc (.dup2) 1 pn) (hv : v.category = 1) (hw : w.category = 1) : aa_Go M d pc ls (v :: w :: st) σ pn ls (v :: w :: v :: w :: st) σ := ⟨Nat.le_refl _, Nat.le_refl _, fun p l e R s m args below meth c D cA b z c0 s0 Q ok _ _ _ _ K H locs lsA hP hz hS hl => by
  have K1 := K H locs lsA hP hz hS hl
  rw [← h.2] at K1
  exact lv_dup2_11 ok.1 ok.2.1 h.1 ((aa_tr_cat _ _ _).trans hv) ((aa_tr_cat _ _ _).trans hw) K1⟩
theorem aa_lcmp {x y : Int64} (h : aa_At M pc (.lcmp) 1 pn) : aa_Go M d pc ls (.long y :: .long x :: st) σ pn ls (.int (lg_cmp x y) :: st) σ := ⟨Nat.le_refl _, Nat.le_refl _, fun p l e R s m args below meth c D cA b z c0 s0 Q ok _ _ _ _ K H locs lsA hP hz hS hl => by
  have K1 := K H locs lsA hP hz hS hl
  rw [← h.2] at K1
  exact W.lcmp ok.1 ok.2.1 h.1 K1⟩
theorem aa_iload0 {x : Int32} (h : aa_At M pc (.iload_n 0) 1 pn) : aa_Go M d pc (some (.int x) :: tl) st σ pn (some (.int x) :: tl) (.int x :: st) σ := ⟨Nat.le_refl _, Nat.le_refl _, fun p l e R s m args below meth c D cA b z c0 s0 Q ok _ _ _ _ K H locs lsA hP hz hS hl => by
  have K1 := K H locs lsA hP hz hS hl
  rw [← h.2] at K1
  exact lv_iload_n ok.1 ok.2.1 h.1 rfl (hl.at (i := 0) (v := .int x) rfl) K1⟩
theorem aa_iload1 {a0 : Option Value} {x : Int32} (h : aa_At M pc (.iload_n 1) 1 pn) : aa_Go M d pc (a0 :: some (.int x) :: tl) st σ pn (a0 :: some (.int x) :: tl) (.int x :: st) σ := ⟨Nat.le_refl _, Nat.le_refl _, fun p l e R s m args below meth c D cA b z c0 s0 Q ok _ _ _ _ K H locs lsA hP hz hS hl => by
  have K1 := K H locs lsA hP hz hS hl
  rw [← h.2] at K1
  exact lv_iload_n ok.1 ok.2.1 h.1 rfl (hl.at (i := 1) (v := .int x) rfl) K1⟩
theorem aa_iload2 {a0 a1 : Option Value} {x : Int32} (h : aa_At M pc (.iload_n 2) 1 pn) : aa_Go M d pc (a0 :: a1 :: some (.int x) :: tl) st σ pn (a0 :: a1 :: some (.int x) :: tl) (.int x :: st) σ := ⟨Nat.le_refl _, Nat.le_refl _, fun p l e R s m args below meth c D cA b z c0 s0 Q ok _ _ _ _ K H locs lsA hP hz hS hl => by
  have K1 := K H locs lsA hP hz hS hl
  rw [← h.2] at K1
  exact lv_iload_n ok.1 ok.2.1 h.1 rfl (hl.at (i := 2) (v := .int x) rfl) K1⟩
theorem aa_iload3 {a0 a1 a2 : Option Value} {x : Int32} (h : aa_At M pc (.iload_n 3) 1 pn) : aa_Go M d pc (a0 :: a1 :: a2 :: some (.int x) :: tl) st σ pn (a0 :: a1 :: a2 :: some (.int x) :: tl) (.int x :: st) σ := ⟨Nat.le_refl _, Nat.le_refl _, fun p l e R s m args below meth c D cA b z c0 s0 Q ok _ _ _ _ K H locs lsA hP hz hS hl => by
  have K1 := K H locs lsA hP hz hS hl
  rw [← h.2] at K1
  exact lv_iload_n ok.1 ok.2.1 h.1 rfl (hl.at (i := 3) (v := .int x) rfl) K1⟩
theorem aa_iload4 {a0 a1 a2 a3 : Option Value} {x : Int32} (h : aa_At M pc (.iload 4) 2 pn) : aa_Go M d pc (a0 :: a1 :: a2 :: a3 :: some (.int x) :: tl) st σ pn (a0 :: a1 :: a2 :: a3 :: some (.int x) :: tl) (.int x :: st) σ := ⟨Nat.le_refl _, Nat.le_refl _, fun p l e R s m args below meth c D cA b z c0 s0 Q ok _ _ _ _ K H locs lsA hP hz hS hl => by
  have K1 := K H locs lsA hP hz hS hl
  rw [← h.2] at K1
  exact lv_iload ok.1 ok.2.1 h.1 (hl.at (i := 4) (v := .int x) rfl) K1⟩
theorem aa_iload5 {a0 a1 a2 a3 a4 : Option Value} {x : Int32} (h : aa_At M pc (.iload 5) 2 pn) : aa_Go M d pc (a0 :: a1 :: a2 :: a3 :: a4 :: some (.int x) :: tl) st σ pn (a0 :: a1 :: a2 :: a3 :: a4 :: some (.int x) :: tl) (.int x :: st) σ := ⟨Nat.le_refl _, Nat.le_refl _, fun p l e R s m args below meth c D cA b z c0 s0 Q ok _ _ _ _ K H locs lsA hP hz hS hl => by
  have K1 := K H locs lsA hP hz hS hl
  rw [← h.2] at K1
  exact lv_iload ok.1 ok.2.1 h.1 (hl.at (i := 5) (v := .int x) rfl) K1⟩
theorem aa_iload6 {a0 a1 a2 a3 a4 a5 : Option Value} {x : Int32} (h : aa_At M pc (.iload 6) 2 pn) : aa_Go M d pc (a0 :: a1 :: a2 :: a3 :: a4 :: a5 :: some (.int x) :: tl) st σ pn (a0 :: a1 :: a2 :: a3 :: a4 :: a5 :: some (.int x) :: tl) (.int x :: st) σ := ⟨Nat.le_refl _, Nat.le_refl _, fun p l e R s m args below meth c D cA b z c0 s0 Q ok _ _ _ _ K H locs lsA hP hz hS hl => by
  have K1 := K H locs lsA hP hz hS hl
  rw [← h.2] at K1
  exact lv_iload ok.1 ok.2.1 h.1 (hl.at (i := 6) (v := .int x) rfl) K1⟩
theorem aa_iload7 {a0 a1 a2 a3 a4 a5 a6 : Option Value} {x : Int32} (h : aa_At M pc (.iload 7) 2 pn) : aa_Go M d pc (a0 :: a1 :: a2 :: a3 :: a4 :: a5 :: a6 :: some (.int x) :: tl) st σ pn (a0 :: a1 :: a2 :: a3 :: a4 :: a5 :: a6 :: some (.int x) :: tl) (.int x :: st) σ := ⟨Nat.le_refl _, Nat.le_refl _, fun p l e R s m args below meth c D cA b z c0 s0 Q ok _ _ _ _ K H locs lsA hP hz hS hl => by
  have K1 := K H locs lsA hP hz hS hl
  rw [← h.2] at K1
  exact lv_iload ok.1 ok.2.1 h.1 (hl.at (i := 7) (v := .int x) rfl) K1⟩
theorem aa_iload8 {a0 a1 a2 a3 a4 a5 a6 a7 : Option Value} {x : Int32} (h : aa_At M pc (.iload 8) 2 pn) : aa_Go M d pc (a0 :: a1 :: a2 :: a3 :: a4 :: a5 :: a6 :: a7 :: some (.int x) :: tl) st σ pn (a0 :: a1 :: a2 :: a3 :: a4 :: a5 :: a6 :: a7 :: some (.int x) :: tl) (.int x :: st) σ := ⟨Nat.le_refl _, Nat.le_refl _, fun p l e R s m args below meth c D cA b z c0 s0 Q ok _ _ _ _ K H locs lsA hP hz hS hl => by
  have K1 := K H locs lsA hP hz hS hl
  rw [← h.2] at K1
  exact lv_iload ok.1 ok.2.1 h.1 (hl.at (i := 8) (v := .int x) rfl) K1⟩
theorem aa_iload9 {a0 a1 a2 a3 a4 a5 a6 a7 a8 : Option Value} {x : Int32} (h : aa_At M pc (.iload 9) 2 pn) : aa_Go M d pc (a0 :: a1 :: a2 :: a3 :: a4 :: a5 :: a6 :: a7 :: a8 :: some (.int x) :: tl) st σ pn (a0 :: a1 :: a2 :: a3 :: a4 :: a5 :: a6 :: a7 :: a8 :: some (.int x) :: tl) (.int x :: st) σ := ⟨Nat.le_refl _, Nat.le_refl _, fun p l e R s m args below meth c D cA b z c0 s0 Q ok _ _ _ _ K H locs lsA hP hz hS hl => by
  have K1 := K H locs lsA hP hz hS hl
  rw [← h.2] at K1
  exact lv_iload ok.1 ok.2.1 h.1 (hl.at (i := 9) (v := .int x) rfl) K1⟩
theorem aa_iload10 {a0 a1 a2 a3 a4 a5 a6 a7 a8 a9 : Option Value} {x : Int32} (h : aa_At M pc (.iload 10) 2 pn) : aa_Go M d pc (a0 :: a1 :: a2 :: a3 :: a4 :: a5 :: a6 :: a7 :: a8 :: a9 :: some (.int x) :: tl) st σ pn (a0 :: a1 :: a2 :: a3 :: a4 :: a5 :: a6 :: a7 :: a8 :: a9 :: some (.int x) :: tl) (.int x :: st) σ := ⟨Nat.le_refl _, Nat.le_refl _, fun p l e R s m args below meth c D cA b z c0 s0 Q ok _ _ _ _ K H locs lsA hP hz hS hl => by
  have K1 := K H locs lsA hP hz hS hl
  rw [← h.2] at K1
  exact lv_iload ok.1 ok.2.1 h.1 (hl.at (i := 10) (v := .int x) rfl) K1⟩
theorem aa_iload11 {a0 a1 a2 a3 a4 a5 a6 a7 a8 a9 a10 : Option Value} {x : Int32} (h : aa_At M pc (.iload 11) 2 pn) : aa_Go M d pc (a0 :: a1 :: a2 :: a3 :: a4 :: a5 :: a6 :: a7 :: a8 :: a9 :: a10 :: some (.int x) :: tl) st σ pn (a0 :: a1 :: a2 :: a3 :: a4 :: a5 :: a6 :: a7 :: a8 :: a9 :: a10 :: some (.int x) :: tl) (.int x :: st) σ := ⟨Nat.le_refl _, Nat.le_refl _, fun p l e R s m args below meth c D cA b z c0 s0 Q ok _ _ _ _ K H locs lsA hP hz hS hl => by
  have K1 := K H locs lsA hP hz hS hl
  rw [← h.2] at K1
  exact lv_iload ok.1 ok.2.1 h.1 (hl.at (i := 11) (v := .int x) rfl) K1⟩
theorem aa_iload12 {a0 a1 a2 a3 a4 a5 a6 a7 a8 a9 a10 a11 : Option Value} {x : Int32} (h : aa_At M pc (.iload 12) 2 pn) : aa_Go M d pc (a0 :: a1 :: a2 :: a3 :: a4 :: a5 :: a6 :: a7 :: a8 :: a9 :: a10 :: a11 :: some (.int x) :: tl) st σ pn (a0 :: a1 :: a2 :: a3 :: a4 :: a5 :: a6 :: a7 :: a8 :: a9 :: a10 :: a11 :: some (.int x) :: tl) (.int x :: st) σ := ⟨Nat.le_refl _, Nat.le_refl _, fun p l e R s m args below meth c D cA b z c0 s0 Q ok _ _ _ _ K H locs lsA hP hz hS hl => by
  have K1 := K H locs lsA hP hz hS hl
  rw [← h.2] at K1
  exact lv_iload ok.1 ok.2.1 h.1 (hl.at (i := 12) (v := .int x) rfl) K1⟩
theorem aa_iload13 {a0 a1 a2 a3 a4 a5 a6 a7 a8 a9 a10 a11 a12 : Option Value} {x : Int32} (h : aa_At M pc (.iload 13) 2 pn) : aa_Go M d pc (a0 :: a1 :: a2 :: a3 :: a4 :: a5 :: a6 :: a7 :: a8 :: a9 :: a10 :: a11 :: a12 :: some (.int x) :: tl) st σ pn (a0 :: a1 :: a2 :: a3 :: a4 :: a5 :: a6 :: a7 :: a8 :: a9 :: a10 :: a11 :: a12 :: some (.int x) :: tl) (.int x :: st) σ := ⟨Nat.le_refl _, Nat.le_refl _, fun p l e R s m args below meth c D cA b z c0 s0 Q ok _ _ _ _ K H locs lsA hP hz hS hl => by
  have K1 := K H locs lsA hP hz hS hl
  rw [← h.2] at K1
  exact lv_iload ok.1 ok.2.1 h.1 (hl.at (i := 13) (v := .int x) rfl) K1⟩
theorem aa_iload14 {a0 a1 a2 a3 a4 a5 a6 a7 a8 a9 a10 a11 a12 a13 : Option Value} {x : Int32} (h : aa_At M pc (.iload 14) 2 pn) : aa_Go M d pc (a0 :: a1 :: a2 :: a3 :: a4 :: a5 :: a6 :: a7 :: a8 :: a9 :: a10 :: a11 :: a12 :: a13 :: some (.int x) :: tl) st σ pn (a0 :: a1 :: a2 :: a3 :: a4 :: a5 :: a6 :: a7 :: a8 :: a9 :: a10 :: a11 :: a12 :: a13 :: some (.int x) :: tl) (.int x :: st) σ := ⟨Nat.le_refl _, Nat.le_refl _, fun p l e R s m args below meth c D cA b z c0 s0 Q ok _ _ _ _ K H locs lsA hP hz hS hl => by
  have K1 := K H locs lsA hP hz hS hl
  rw [← h.2] at K1
  exact lv_iload ok.1 ok.2.1 h.1 (hl.at (i := 14) (v := .int x) rfl) K1⟩
theorem aa_iload15 {a0 a1 a2 a3 a4 a5 a6 a7 a8 a9 a10 a11 a12 a13 a14 : Option Value} {x : Int32} (h : aa_At M pc (.iload 15) 2 pn) : aa_Go M d pc (a0 :: a1 :: a2 :: a3 :: a4 :: a5 :: a6 :: a7 :: a8 :: a9 :: a10 :: a11 :: a12 :: a13 :: a14 :: some (.int x) :: tl) st σ pn (a0 :: a1 :: a2 :: a3 :: a4 :: a5 :: a6 :: a7 :: a8 :: a9 :: a10 :: a11 :: a12 :: a13 :: a14 :: some (.int x) :: tl) (.int x :: st) σ := ⟨Nat.le_refl _, Nat.le_refl _, fun p l e R s m args below meth c D cA b z c0 s0 Q ok _ _ _ _ K H locs lsA hP hz hS hl => by
  have K1 := K H locs lsA hP hz hS hl
  rw [← h.2] at K1
  exact lv_iload ok.1 ok.2.1 h.1 (hl.at (i := 15) (v := .int x) rfl) K1⟩
theorem aa_iload16 {a0 a1 a2 a3 a4 a5 a6 a7 a8 a9 a10 a11 a12 a13 a14 a15 : Option Value} {x : Int32} (h : aa_At M pc (.iload 16) 2 pn) : aa_Go M d pc (a0 :: a1 :: a2 :: a3 :: a4 :: a5 :: a6 :: a7 :: a8 :: a9 :: a10 :: a11 :: a12 :: a13 :: a14 :: a15 :: some (.int x) :: tl) st σ pn (a0 :: a1 :: a2 :: a3 :: a4 :: a5 :: a6 :: a7 :: a8 :: a9 :: a10 :: a11 :: a12 :: a13 :: a14 :: a15 :: some (.int x) :: tl) (.int x :: st) σ := ⟨Nat.le_refl _, Nat.le_refl _, fun p l e R s m args below meth c D cA b z c0 s0 Q ok _ _ _ _ K H locs lsA hP hz hS hl => by
  have K1 := K H locs lsA hP hz hS hl
  rw [← h.2] at K1
  exact lv_iload ok.1 ok.2.1 h.1 (hl.at (i := 16) (v := .int x) rfl) K1⟩
theorem aa_iload17 {a0 a1 a2 a3 a4 a5 a6 a7 a8 a9 a10 a11 a12 a13 a14 a15 a16 : Option Value} {x : Int32} (h : aa_At M pc (.iload 17) 2 pn) : aa_Go M d pc (a0 :: a1 :: a2 :: a3 :: a4 :: a5 :: a6 :: a7 :: a8 :: a9 :: a10 :: a11 :: a12 :: a13 :: a14 :: a15 :: a16 :: some (.int x) :: tl) st σ pn (a0 :: a1 :: a2 :: a3 :: a4 :: a5 :: a6 :: a7 :: a8 :: a9 :: a10 :: a11 :: a12 :: a13 :: a14 :: a15 :: a16 :: some (.int x) :: tl) (.int x :: st) σ := ⟨Nat.le_refl _, Nat.le_refl _, fun p l e R s m args below meth c D cA b z c0 s0 Q ok _ _ _ _ K H locs lsA hP hz hS hl => by
  have K1 := K H locs lsA hP hz hS hl
  rw [← h.2] at K1
  exact lv_iload ok.1 ok.2.1 h.1 (hl.at (i := 17) (v := .int x) rfl) K1⟩
theorem aa_iload18 {a0 a1 a2 a3 a4 a5 a6 a7 a8 a9 a10 a11 a12 a13 a14 a15 a16 a17 : Option Value} {x : Int32} (h : aa_At M pc (.iload 18) 2 pn) : aa_Go M d pc (a0 :: a1 :: a2 :: a3 :: a4 :: a5 :: a6 :: a7 :: a8 :: a9 :: a10 :: a11 :: a12 :: a13 :: a14 :: a15 :: a16 :: a17 :: some (.int x) :: tl) st σ pn (a0 :: a1 :: a2 :: a3 :: a4 :: a5 :: a6 :: a7 :: a8 :: a9 :: a10 :: a11 :: a12 :: a13 :: a14 :: a15 :: a16 :: a17 :: some (.int x) :: tl) (.int x :: st) σ := ⟨Nat.le_refl _, Nat.le_refl _, fun p l e R s m args below meth c D cA b z c0 s0 Q ok _ _ _ _ K H locs lsA hP hz hS hl => by
  have K1 := K H locs lsA hP hz hS hl
  rw [← h.2] at K1
  exact lv_iload ok.1 ok.2.1 h.1 (hl.at (i := 18) (v := .int x) rfl) K1⟩
theorem aa_iload19 {a0 a1 a2 a3 a4 a5 a6 a7 a8 a9 a10 a11 a12 a13 a14 a15 a16 a17 a18 : Option Value} {x : Int32} (h : aa_At M pc (.iload 19) 2 pn) : aa_Go M d pc (a0 :: a1 :: a2 :: a3 :: a4 :: a5 :: a6 :: a7 :: a8 :: a9 :: a10 :: a11 :: a12 :: a13 :: a14 :: a15 :: a16 :: a17 :: a18 :: some (.int x) :: tl) st σ pn (a0 :: a1 :: a2 :: a3 :: a4 :: a5 :: a6 :: a7 :: a8 :: a9 :: a10 :: a11 :: a12 :: a13 :: a14 :: a15 :: a16 :: a17 :: a18 :: some (.int x) :: tl) (.int x :: st) σ := ⟨Nat.le_refl _, Nat.le_refl _, fun p l e R s m args below meth c D cA b z c0 s0 Q ok _ _ _ _ K H locs lsA hP hz hS hl => by
  have K1 := K H locs lsA hP hz hS hl
  rw [← h.2] at K1
  exact lv_iload ok.1 ok.2.1 h.1 (hl.at (i := 19) (v := .int x) rfl) K1⟩
theorem aa_iload20 {a0 a1 a2 a3 a4 a5 a6 a7 a8 a9 a10 a11 a12 a13 a14 a15 a16 a17 a18 a19 : Option Value} {x : Int32} (h : aa_At M pc (.iload 20) 2 pn) : aa_Go M d pc (a0 :: a1 :: a2 :: a3 :: a4 :: a5 :: a6 :: a7 :: a8 :: a9 :: a10 :: a11 :: a12 :: a13 :: a14 :: a15 :: a16 :: a17 :: a18 :: a19 :: some (.int x) :: tl) st σ pn (a0 :: a1 :: a2 :: a3 :: a4 :: a5 :: a6 :: a7 :: a8 :: a9 :: a10 :: a11 :: a12 :: a13 :: a14 :: a15 :: a16 :: a17 :: a18 :: a19 :: some (.int x) :: tl) (.int x :: st) σ := ⟨Nat.le_refl _, Nat.le_refl _, fun p l e R s m args below meth c D cA b z c0 s0 Q ok _ _ _ _ K H locs lsA hP hz hS hl => by
  have K1 := K H locs lsA hP hz hS hl
  rw [← h.2] at K1
  exact lv_iload ok.1 ok.2.1 h.1 (hl.at (i := 20) (v := .int x) rfl) K1⟩
theorem aa_lload0 {x : Int64} (h : aa_At M pc (.lload_n 0) 1 pn) : aa_Go M d pc (some (.long x) :: tl) st σ pn (some (.long x) :: tl) (.long x :: st) σ := ⟨Nat.le_refl _, Nat.le_refl _, fun p l e R s m args below meth c D cA b z c0 s0 Q ok _ _ _ _ K H locs lsA hP hz hS hl => by
  have K1 := K H locs lsA hP hz hS hl
  rw [← h.2] at K1
  exact lv_lload_n ok.1 ok.2.1 h.1 rfl (hl.at (i := 0) (v := .long x) rfl) K1⟩
theorem aa_lload1 {a0 : Option Value} {x : Int64} (h : aa_At M pc (.lload_n 1) 1 pn) : aa_Go M d pc (a0 :: some (.long x) :: tl) st σ pn (a0 :: some (.long x) :: tl) (.long x :: st) σ := ⟨Nat.le_refl _, Nat.le_refl _, fun p l e R s m args below meth c D cA b z c0 s0 Q ok _ _ _ _ K H locs lsA hP hz hS hl => by
  have K1 := K H locs lsA hP hz hS hl
  rw [← h.2] at K1
  exact lv_lload_n ok.1 ok.2.1 h.1 rfl (hl.at (i := 1) (v := .long x) rfl) K1⟩
theorem aa_lload2 {a0 a1 : Option Value} {x : Int64} (h : aa_At M pc (.lload_n 2) 1 pn) : aa_Go M d pc (a0 :: a1 :: some (.long x) :: tl) st σ pn (a0 :: a1 :: some (.long x) :: tl) (.long x :: st) σ := ⟨Nat.le_refl _, Nat.le_refl _, fun p l e R s m args below meth c D cA b z c0 s0 Q ok _ _ _ _ K H locs lsA hP hz hS hl => by
  have K1 := K H locs lsA hP hz hS hl
  rw [← h.2] at K1
  exact lv_lload_n ok.1 ok.2.1 h.1 rfl (hl.at (i := 2) (v := .long x) rfl) K1⟩
theorem aa_lload3 {a0 a1 a2 : Option Value} {x : Int64} (h : aa_At M pc (.lload_n 3) 1 pn) : aa_Go M d pc (a0 :: a1 :: a2 :: some (.long x) :: tl) st σ pn (a0 :: a1 :: a2 :: some (.long x) :: tl) (.long x :: st) σ := ⟨Nat.le_refl _, Nat.le_refl _, fun p l e R s m args below meth c D cA b z c0 s0 Q ok _ _ _ _ K H locs lsA hP hz hS hl => by
  have K1 := K H locs lsA hP hz hS hl
  rw [← h.2] at K1
  exact lv_lload_n ok.1 ok.2.1 h.1 rfl (hl.at (i := 3) (v := .long x) rfl) K1⟩
theorem aa_lload4 {a0 a1 a2 a3 : Option Value} {x : Int64} (h : aa_At M pc (.lload 4) 2 pn) : aa_Go M d pc (a0 :: a1 :: a2 :: a3 :: some (.long x) :: tl) st σ pn (a0 :: a1 :: a2 :: a3 :: some (.long x) :: tl) (.long x :: st) σ := ⟨Nat.le_refl _, Nat.le_refl _, fun p l e R s m args below meth c D cA b z c0 s0 Q ok _ _ _ _ K H locs lsA hP hz hS hl => by
  have K1 := K H locs lsA hP hz hS hl
  rw [← h.2] at K1
  exact lv_lload ok.1 ok.2.1 h.1 (hl.at (i := 4) (v := .long x) rfl) K1⟩
theorem aa_lload5 {a0 a1 a2 a3 a4 : Option Value} {x : Int64} (h : aa_At M pc (.lload 5) 2 pn) : aa_Go M d pc (a0 :: a1 :: a2 :: a3 :: a4 :: some (.long x) :: tl) st σ pn (a0 :: a1 :: a2 :: a3 :: a4 :: some (.long x) :: tl) (.long x :: st) σ := ⟨Nat.le_refl _, Nat.le_refl _, fun p l e R s m args below meth c D cA b z c0 s0 Q ok _ _ _ _ K H locs lsA hP hz hS hl => by
  have K1 := K H locs lsA hP hz hS hl
  rw [← h.2] at K1
  exact lv_lload ok.1 ok.2.1 h.1 (hl.at (i := 5) (v := .long x) rfl) K1⟩
theorem aa_lload6 {a0 a1 a2 a3 a4 a5 : Option Value} {x : Int64} (h : aa_At M pc (.lload 6) 2 pn) : aa_Go M d pc (a0 :: a1 :: a2 :: a3 :: a4 :: a5 :: some (.long x) :: tl) st σ pn (a0 :: a1 :: a2 :: a3 :: a4 :: a5 :: some (.long x) :: tl) (.long x :: st) σ := ⟨Nat.le_refl _, Nat.le_refl _, fun p l e R s m args below meth c D cA b z c0 s0 Q ok _ _ _ _ K H locs lsA hP hz hS hl => by
  have K1 := K H locs lsA hP hz hS hl
  rw [← h.2] at K1
  exact lv_lload ok.1 ok.2.1 h.1 (hl.at (i := 6) (v := .long x) rfl) K1⟩
theorem aa_lload7 {a0 a1 a2 a3 a4 a5 a6 : Option Value} {x : Int64} (h : aa_At M pc (.lload 7) 2 pn) : aa_Go M d pc (a0 :: a1 :: a2 :: a3 :: a4 :: a5 :: a6 :: some (.long x) :: tl) st σ pn (a0 :: a1 :: a2 :: a3 :: a4 :: a5 :: a6 :: some (.long x) :: tl) (.long x :: st) σ := ⟨Nat.le_refl _, Nat.le_refl _, fun p l e R s m args below meth c D cA b z c0 s0 Q ok _ _ _ _ K H locs lsA hP hz hS hl => by
  have K1 := K H locs lsA hP hz hS hl
  rw [← h.2] at K1
  exact lv_lload ok.1 ok.2.1 h.1 (hl.at (i := 7) (v := .long x) rfl) K1⟩
theorem aa_lload8 {a0 a1 a2 a3 a4 a5 a6 a7 : Option Value} {x : Int64} (h : aa_At M pc (.lload 8) 2 pn) : aa_Go M d pc (a0 :: a1 :: a2 :: a3 :: a4 :: a5 :: a6 :: a7 :: some (.long x) :: tl) st σ pn (a0 :: a1 :: a2 :: a3 :: a4 :: a5 :: a6 :: a7 :: some (.long x) :: tl) (.long x :: st) σ := ⟨Nat.le_refl _, Nat.le_refl _, fun p l e R s m args below meth c D cA b z c0 s0 Q ok _ _ _ _ K H locs lsA hP hz hS hl => by
  have K1 := K H locs lsA hP hz hS hl
  rw [← h.2] at K1
  exact lv_lload ok.1 ok.2.1 h.1 (hl.at (i := 8) (v := .long x) rfl) K1⟩
theorem aa_lload9 {a0 a1 a2 a3 a4 a5 a6 a7 a8 : Option Value} {x : Int64} (h : aa_At M pc (.lload 9) 2 pn) : aa_Go M d pc (a0 :: a1 :: a2 :: a3 :: a4 :: a5 :: a6 :: a7 :: a8 :: some (.long x) :: tl) st σ pn (a0 :: a1 :: a2 :: a3 :: a4 :: a5 :: a6 :: a7 :: a8 :: some (.long x) :: tl) (.long x :: st) σ := ⟨Nat.le_refl _, Nat.le_refl _, fun p l e R s m args below meth c D cA b z c0 s0 Q ok _ _ _ _ K H locs lsA hP hz hS hl => by
  have K1 := K H locs lsA hP hz hS hl
  rw [← h.2] at K1
  exact lv_lload ok.1 ok.2.1 h.1 (hl.at (i := 9) (v := .long x) rfl) K1⟩
theorem aa_lload10 {a0 a1 a2 a3 a4 a5 a6 a7 a8 a9 : Option Value} {x : Int64} (h : aa_At M pc (.lload 10) 2 pn) : aa_Go M d pc (a0 :: a1 :: a2 :: a3 :: a4 :: a5 :: a6 :: a7 :: a8 :: a9 :: some (.long x) :: tl) st σ pn (a0 :: a1 :: a2 :: a3 :: a4 :: a5 :: a6 :: a7 :: a8 :: a9 :: some (.long x) :: tl) (.long x :: st) σ := ⟨Nat.le_refl _, Nat.le_refl _, fun p l e R s m args below meth c D cA b z c0 s0 Q ok _ _ _ _ K H locs lsA hP hz hS hl => by
  have K1 := K H locs lsA hP hz hS hl
  rw [← h.2] at K1
  exact lv_lload ok.1 ok.2.1 h.1 (hl.at (i := 10) (v := .long x) rfl) K1⟩
theorem aa_lload11 {a0 a1 a2 a3 a4 a5 a6 a7 a8 a9 a10 : Option Value} {x : Int64} (h : aa_At M pc (.lload 11) 2 pn) : aa_Go M d pc (a0 :: a1 :: a2 :: a3 :: a4 :: a5 :: a6 :: a7 :: a8 :: a9 :: a10 :: some (.long x) :: tl) st σ pn (a0 :: a1 :: a2 :: a3 :: a4 :: a5 :: a6 :: a7 :: a8 :: a9 :: a10 :: some (.long x) :: tl) (.long x :: st) σ := ⟨Nat.le_refl _, Nat.le_refl _, fun p l e R s m args below meth c D cA b z c0 s0 Q ok _ _ _ _ K H locs lsA hP hz hS hl => by
  have K1 := K H locs lsA hP hz hS hl
  rw [← h.2] at K1
  exact lv_lload ok.1 ok.2.1 h.1 (hl.at (i := 11) (v := .long x) rfl) K1⟩
theorem aa_lload12 {a0 a1 a2 a3 a4 a5 a6 a7 a8 a9 a10 a11 : Option Value} {x : Int64} (h : aa_At M pc (.lload 12) 2 pn) : aa_Go M d pc (a0 :: a1 :: a2 :: a3 :: a4 :: a5 :: a6 :: a7 :: a8 :: a9 :: a10 :: a11 :: some (.long x) :: tl) st σ pn (a0 :: a1 :: a2 :: a3 :: a4 :: a5 :: a6 :: a7 :: a8 :: a9 :: a10 :: a11 :: some (.long x) :: tl) (.long x :: st) σ := ⟨Nat.le_refl _, Nat.le_refl _, fun p l e R s m args below meth c D cA b z c0 s0 Q ok _ _ _ _ K H locs lsA hP hz hS hl => by
  have K1 := K H locs lsA hP hz hS hl
  rw [← h.2] at K1
  exact lv_lload ok.1 ok.2.1 h.1 (hl.at (i := 12) (v := .long x) rfl) K1⟩
theorem aa_lload13 {a0 a1 a2 a3 a4 a5 a6 a7 a8 a9 a10 a11 a12 : Option Value} {x : Int64} (h : aa_At M pc (.lload 13) 2 pn) : aa_Go M d pc (a0 :: a1 :: a2 :: a3 :: a4 :: a5 :: a6 :: a7 :: a8 :: a9 :: a10 :: a11 :: a12 :: some (.long x) :: tl) st σ pn (a0 :: a1 :: a2 :: a3 :: a4 :: a5 :: a6 :: a7 :: a8 :: a9 :: a10 :: a11 :: a12 :: some (.long x) :: tl) (.long x :: st) σ := ⟨Nat.le_refl _, Nat.le_refl _, fun p l e R s m args below meth c D cA b z c0 s0 Q ok _ _ _ _ K H locs lsA hP hz hS hl => by
  have K1 := K H locs lsA hP hz hS hl
  rw [← h.2] at K1
  exact lv_lload ok.1 ok.2.1 h.1 (hl.at (i := 13) (v := .long x) rfl) K1⟩
theorem aa_lload14 {a0 a1 a2 a3 a4 a5 a6 a7 a8 a9 a10 a11 a12 a13 : Option Value} {x : Int64} (h : aa_At M pc (.lload 14) 2 pn) : aa_Go M d pc (a0 :: a1 :: a2 :: a3 :: a4 :: a5 :: a6 :: a7 :: a8 :: a9 :: a10 :: a11 :: a12 :: a13 :: some (.long x) :: tl) st σ pn (a0 :: a1 :: a2 :: a3 :: a4 :: a5 :: a6 :: a7 :: a8 :: a9 :: a10 :: a11 :: a12 :: a13 :: some (.long x) :: tl) (.long x :: st) σ := ⟨Nat.le_refl _, Nat.le_refl _, fun p l e R s m args below meth c D cA b z c0 s0 Q ok _ _ _ _ K H locs lsA hP hz hS hl => by
  have K1 := K H locs lsA hP hz hS hl
  rw [← h.2] at K1
  exact lv_lload ok.1 ok.2.1 h.1 (hl.at (i := 14) (v := .long x) rfl) K1⟩
theorem aa_lload15 {a0 a1 a2 a3 a4 a5 a6 a7 a8 a9 a10 a11 a12 a13 a14 : Option Value} {x : Int64} (h : aa_At M pc (.lload 15) 2 pn) : aa_Go M d pc (a0 :: a1 :: a2 :: a3 :: a4 :: a5 :: a6 :: a7 :: a8 :: a9 :: a10 :: a11 :: a12 :: a13 :: a14 :: some (.long x) :: tl) st σ pn (a0 :: a1 :: a2 :: a3 :: a4 :: a5 :: a6 :: a7 :: a8 :: a9 :: a10 :: a11 :: a12 :: a13 :: a14 :: some (.long x) :: tl) (.long x :: st) σ := ⟨Nat.le_refl _, Nat.le_refl _, fun p l e R s m args below meth c D cA b z c0 s0 Q ok _ _ _ _ K H locs lsA hP hz hS hl => by
  have K1 := K H locs lsA hP hz hS hl
  rw [← h.2] at K1
  exact lv_lload ok.1 ok.2.1 h.1 (hl.at (i := 15) (v := .long x) rfl) K1⟩
theorem aa_lload16 {a0 a1 a2 a3 a4 a5 a6 a7 a8 a9 a10 a11 a12 a13 a14 a15 : Option Value} {x : Int64} (h : aa_At M pc (.lload 16) 2 pn) : aa_Go M d pc (a0 :: a1 :: a2 :: a3 :: a4 :: a5 :: a6 :: a7 :: a8 :: a9 :: a10 :: a11 :: a12 :: a13 :: a14 :: a15 :: some (.long x) :: tl) st σ pn (a0 :: a1 :: a2 :: a3 :: a4 :: a5 :: a6 :: a7 :: a8 :: a9 :: a10 :: a11 :: a12 :: a13 :: a14 :: a15 :: some (.long x) :: tl) (.long x :: st) σ := ⟨Nat.le_refl _, Nat.le_refl _, fun p l e R s m args below meth c D cA b z c0 s0 Q ok _ _ _ _ K H locs lsA hP hz hS hl => by
  have K1 := K H locs lsA hP hz hS hl
  rw [← h.2] at K1
  exact lv_lload ok.1 ok.2.1 h.1 (hl.at (i := 16) (v := .long x) rfl) K1⟩
theorem aa_lload17 {a0 a1 a2 a3 a4 a5 a6 a7 a8 a9 a10 a11 a12 a13 a14 a15 a16 : Option Value} {x : Int64} (h : aa_At M pc (.lload 17) 2 pn) : aa_Go M d pc (a0 :: a1 :: a2 :: a3 :: a4 :: a5 :: a6 :: a7 :: a8 :: a9 :: a10 :: a11 :: a12 :: a13 :: a14 :: a15 :: a16 :: some (.long x) :: tl) st σ pn (a0 :: a1 :: a2 :: a3 :: a4 :: a5 :: a6 :: a7 :: a8 :: a9 :: a10 :: a11 :: a12 :: a13 :: a14 :: a15 :: a16 :: some (.long x) :: tl) (.long x :: st) σ := ⟨Nat.le_refl _, Nat.le_refl _, fun p l e R s m args below meth c D cA b z c0 s0 Q ok _ _ _ _ K H locs lsA hP hz hS hl => by
  have K1 := K H locs lsA hP hz hS hl
  rw [← h.2] at K1
  exact lv_lload ok.1 ok.2.1 h.1 (hl.at (i := 17) (v := .long x) rfl) K1⟩
theorem aa_lload18 {a0 a1 a2 a3 a4 a5 a6 a7 a8 a9 a10 a11 a12 a13 a14 a15 a16 a17 : Option Value} {x : Int64} (h : aa_At M pc (.lload 18) 2 pn) : aa_Go M d pc (a0 :: a1 :: a2 :: a3 :: a4 :: a5 :: a6 :: a7 :: a8 :: a9 :: a10 :: a11 :: a12 :: a13 :: a14 :: a15 :: a16 :: a17 :: some (.long x) :: tl) st σ pn (a0 :: a1 :: a2 :: a3 :: a4 :: a5 :: a6 :: a7 :: a8 :: a9 :: a10 :: a11 :: a12 :: a13 :: a14 :: a15 :: a16 :: a17 :: some (.long x) :: tl) (.long x :: st) σ := ⟨Nat.le_refl _, Nat.le_refl _, fun p l e R s m args below meth c D cA b z c0 s0 Q ok _ _ _ _ K H locs lsA hP hz hS hl => by
  have K1 := K H locs lsA hP hz hS hl
  rw [← h.2] at K1
  exact lv_lload ok.1 ok.2.1 h.1 (hl.at (i := 18) (v := .long x) rfl) K1⟩
theorem aa_lload19 {a0 a1 a2 a3 a4 a5 a6 a7 a8 a9 a10 a11 a12 a13 a14 a15 a16 a17 a18 : Option Value} {x : Int64} (h : aa_At M pc (.lload 19) 2 pn) : aa_Go M d pc (a0 :: a1 :: a2 :: a3 :: a4 :: a5 :: a6 :: a7 :: a8 :: a9 :: a10 :: a11 :: a12 :: a13 :: a14 :: a15 :: a16 :: a17 :: a18 :: some (.long x) :: tl) st σ pn (a0 :: a1 :: a2 :: a3 :: a4 :: a5 :: a6 :: a7 :: a8 :: a9 :: a10 :: a11 :: a12 :: a13 :: a14 :: a15 :: a16 :: a17 :: a18 :: some (.long x) :: tl) (.long x :: st) σ := ⟨Nat.le_refl _, Nat.le_refl _, fun p l e R s m args below meth c D cA b z c0 s0 Q ok _ _ _ _ K H locs lsA hP hz hS hl => by
  have K1 := K H locs lsA hP hz hS hl
  rw [← h.2] at K1
  exact lv_lload ok.1 ok.2.1 h.1 (hl.at (i := 19) (v := .long x) rfl) K1⟩
theorem aa_lload20 {a0 a1 a2 a3 a4 a5 a6 a7 a8 a9 a10 a11 a12 a13 a14 a15 a16 a17 a18 a19 : Option Value} {x : Int64} (h : aa_At M pc (.lload 20) 2 pn) : aa_Go M d pc (a0 :: a1 :: a2 :: a3 :: a4 :: a5 :: a6 :: a7 :: a8 :: a9 :: a10 :: a11 :: a12 :: a13 :: a14 :: a15 :: a16 :: a17 :: a18 :: a19 :: some (.long x) :: tl) st σ pn (a0 :: a1 :: a2 :: a3 :: a4 :: a5 :: a6 :: a7 :: a8 :: a9 :: a10 :: a11 :: a12 :: a13 :: a14 :: a15 :: a16 :: a17 :: a18 :: a19 :: some (.long x) :: tl) (.long x :: st) σ := ⟨Nat.le_refl _, Nat.le_refl _, fun p l e R s m args below meth c D cA b z c0 s0 Q ok _ _ _ _ K H locs lsA hP hz hS hl => by
  have K1 := K H locs lsA hP hz hS hl
  rw [← h.2] at K1
  exact lv_lload ok.1 ok.2.1 h.1 (hl.at (i := 20) (v := .long x) rfl) K1⟩
theorem aa_aload0 {x : Nat} (h : aa_At M pc (.aload_n 0) 1 pn) : aa_Go M d pc (some (.ref x) :: tl) st σ pn (some (.ref x) :: tl) (.ref x :: st) σ := ⟨Nat.le_refl _, Nat.le_refl _, fun p l e R s m args below meth c D cA b z c0 s0 Q ok _ _ _ _ K H locs lsA hP hz hS hl => by
  have K1 := K H locs lsA hP hz hS hl
  rw [← h.2] at K1
  exact lv_aload_n ok.1 ok.2.1 h.1 rfl (hl.at (i := 0) (v := .ref x) rfl) K1⟩
theorem aa_aload1 {a0 : Option Value} {x : Nat} (h : aa_At M pc (.aload_n 1) 1 pn) : aa_Go M d pc (a0 :: some (.ref x) :: tl) st σ pn (a0 :: some (.ref x) :: tl) (.ref x :: st) σ := ⟨Nat.le_refl _, Nat.le_refl _, fun p l e R s m args below meth c D cA b z c0 s0 Q ok _ _ _ _ K H locs lsA hP hz hS hl => by
  have K1 := K H locs lsA hP hz hS hl
  rw [← h.2] at K1
  exact lv_aload_n ok.1 ok.2.1 h.1 rfl (hl.at (i := 1) (v := .ref x) rfl) K1⟩
theorem aa_aload2 {a0 a1 : Option Value} {x : Nat} (h : aa_At M pc (.aload_n 2) 1 pn) : aa_Go M d pc (a0 :: a1 :: some (.ref x) :: tl) st σ pn (a0 :: a1 :: some (.ref x) :: tl) (.ref x :: st) σ := ⟨Nat.le_refl _, Nat.le_refl _, fun p l e R s m args below meth c D cA b z c0 s0 Q ok _ _ _ _ K H locs lsA hP hz hS hl => by
  have K1 := K H locs lsA hP hz hS hl
  rw [← h.2] at K1
  exact lv_aload_n ok.1 ok.2.1 h.1 rfl (hl.at (i := 2) (v := .ref x) rfl) K1⟩
theorem aa_aload3 {a0 a1 a2 : Option Value} {x : Nat} (h : aa_At M pc (.aload_n 3) 1 pn) : aa_Go M d pc (a0 :: a1 :: a2 :: some (.ref x) :: tl) st σ pn (a0 :: a1 :: a2 :: some (.ref x) :: tl) (.ref x :: st) σ := ⟨Nat.le_refl _, Nat.le_refl _, fun p l e R s m args below meth c D cA b z c0 s0 Q ok _ _ _ _ K H locs lsA hP hz hS hl => by
  have K1 := K H locs lsA hP hz hS hl
  rw [← h.2] at K1
  exact lv_aload_n ok.1 ok.2.1 h.1 rfl (hl.at (i := 3) (v := .ref x) rfl) K1⟩
theorem aa_aload4 {a0 a1 a2 a3 : Option Value} {x : Nat} (h : aa_At M pc (.aload 4) 2 pn) : aa_Go M d pc (a0 :: a1 :: a2 :: a3 :: some (.ref x) :: tl) st σ pn (a0 :: a1 :: a2 :: a3 :: some (.ref x) :: tl) (.ref x :: st) σ := ⟨Nat.le_refl _, Nat.le_refl _, fun p l e R s m args below meth c D cA b z c0 s0 Q ok _ _ _ _ K H locs lsA hP hz hS hl => by
  have K1 := K H locs lsA hP hz hS hl
  rw [← h.2] at K1
  exact lv_aload ok.1 ok.2.1 h.1 (hl.at (i := 4) (v := .ref x) rfl) K1⟩
theorem aa_aload5 {a0 a1 a2 a3 a4 : Option Value} {x : Nat} (h : aa_At M pc (.aload 5) 2 pn) : aa_Go M d pc (a0 :: a1 :: a2 :: a3 :: a4 :: some (.ref x) :: tl) st σ pn (a0 :: a1 :: a2 :: a3 :: a4 :: some (.ref x) :: tl) (.ref x :: st) σ := ⟨Nat.le_refl _, Nat.le_refl _, fun p l e R s m args below meth c D cA b z c0 s0 Q ok _ _ _ _ K H locs lsA hP hz hS hl => by
  have K1 := K H locs lsA hP hz hS hl
  rw [← h.2] at K1
  exact lv_aload ok.1 ok.2.1 h.1 (hl.at (i := 5) (v := .ref x) rfl) K1⟩
theorem aa_aload6 {a0 a1 a2 a3 a4 a5 : Option Value} {x : Nat} (h : aa_At M pc (.aload 6) 2 pn) : aa_Go M d pc (a0 :: a1 :: a2 :: a3 :: a4 :: a5 :: some (.ref x) :: tl) st σ pn (a0 :: a1 :: a2 :: a3 :: a4 :: a5 :: some (.ref x) :: tl) (.ref x :: st) σ := ⟨Nat.le_refl _, Nat.le_refl _, fun p l e R s m args below meth c D cA b z c0 s0 Q ok _ _ _ _ K H locs lsA hP hz hS hl => by
  have K1 := K H locs lsA hP hz hS hl
  rw [← h.2] at K1
  exact lv_aload ok.1 ok.2.1 h.1 (hl.at (i := 6) (v := .ref x) rfl) K1⟩
theorem aa_aload7 {a0 a1 a2 a3 a4 a5 a6 : Option Value} {x : Nat} (h : aa_At M pc (.aload 7) 2 pn) : aa_Go M d pc (a0 :: a1 :: a2 :: a3 :: a4 :: a5 :: a6 :: some (.ref x) :: tl) st σ pn (a0 :: a1 :: a2 :: a3 :: a4 :: a5 :: a6 :: some (.ref x) :: tl) (.ref x :: st) σ := ⟨Nat.le_refl _, Nat.le_refl _, fun p l e R s m args below meth c D cA b z c0 s0 Q ok _ _ _ _ K H locs lsA hP hz hS hl => by
  have K1 := K H locs lsA hP hz hS hl
  rw [← h.2] at K1
  exact lv_aload ok.1 ok.2.1 h.1 (hl.at (i := 7) (v := .ref x) rfl) K1⟩
def aa_c1 : Option Value → Bool
  | some v => v.category == 1
  | none => true
theorem aa_lv_set1 {b : Nat} {z : Nat × Nat} {ls' : Array Slot} {nL i : Nat} {v : Value} {l : aa_L} {l1 : aa_L} (h : lv_has ls' nL ((i, aa_tr b z v) :: (aa_al b z 0 l).filter (fun q => !(q.1 == i) && !(q.1 + 1 == i && q.2.category == 2)))) (hs : ∀ j w, l1[j]? = some (some w) → (j = i ∧ w = v) ∨ (j ≠ i ∧ l[j]? = some (some w) ∧ ¬ (j + 1 = i ∧ w.category = 2))) : aa_lv b z ls' nL l1 := by
  refine ⟨h.1, h.2.1, fun q hq => ?_⟩
  obtain ⟨j, w, h1, rfl⟩ := (aa_al_mem l1 0).mp hq
  rcases hs j w h1 with ⟨rfl, rfl⟩ | ⟨h2, h3, h4⟩
  · exact h.2.2 _ (by simp)
  · refine h.2.2 _ (List.mem_cons_of_mem _ (List.mem_filter.mpr ⟨(aa_al_mem l 0).mpr ⟨j, w, h3, rfl⟩, ?_⟩))
    simp only [Nat.zero_add, aa_tr_cat, Bool.and_eq_true, Bool.not_eq_true', beq_eq_false_iff_ne, ne_eq, Bool.and_eq_false_iff]
    refine ⟨h2, ?_⟩
    by_cases h5 : j + 1 = i
    · exact Or.inr (fun h6 => h4 ⟨h5, h6⟩)
    · exact Or.inl h5
theorem aa_lv_set2 {b : Nat} {z : Nat × Nat} {ls' : Array Slot} {nL i : Nat} {v : Value} {l : aa_L} {l1 : aa_L} (h : lv_has ls' nL ((i, aa_tr b z v) :: (aa_al b z 0 l).filter (fun q => !(q.1 == i) && (!(q.1 == i + 1) && !(q.1 + 1 == i && q.2.category == 2))))) (hs : ∀ j w, l1[j]? = some (some w) → (j = i ∧ w = v) ∨ (j ≠ i ∧ j ≠ i + 1 ∧ l[j]? = some (some w) ∧ ¬ (j + 1 = i ∧ w.category = 2))) : aa_lv b z ls' nL l1 := by
  refine ⟨h.1, h.2.1, fun q hq => ?_⟩
  obtain ⟨j, w, h1, rfl⟩ := (aa_al_mem l1 0).mp hq
  rcases hs j w h1 with ⟨rfl, rfl⟩ | ⟨h2, h2', h3, h4⟩
  · exact h.2.2 _ (by simp)
  · refine h.2.2 _ (List.mem_cons_of_mem _ (List.mem_filter.mpr ⟨(aa_al_mem l 0).mpr ⟨j, w, h3, rfl⟩, ?_⟩))
    simp only [Nat.zero_add, aa_tr_cat, Bool.and_eq_true, Bool.not_eq_true', beq_eq_false_iff_ne, ne_eq, Bool.and_eq_false_iff]
    refine ⟨h2, h2', ?_⟩
    by_cases h5 : j + 1 = i
    · exact Or.inr (fun h6 => h4 ⟨h5, h6⟩)
    · exact Or.inl h5
theorem aa_s1_0 {x0 : Option Value} {v : Value} {tl : aa_L} : ∀ j w, ((some v :: tl) : aa_L)[j]? = some (some w) → (j = 0 ∧ w = v) ∨ (j ≠ 0 ∧ ((x0 :: tl) : aa_L)[j]? = some (some w) ∧ ¬ (j + 1 = 0 ∧ w.category = 2)) := by
  intro j w hj
  rcases j with _ | j
  · exact Or.inl ⟨rfl, (Option.some.inj (Option.some.inj hj)).symm⟩
  · exact Or.inr ⟨by omega, hj, fun q => by omega⟩
theorem aa_s1_1 {a0 : Option Value} {x0 : Option Value} {v : Value} {tl : aa_L} (hc : aa_c1 a0 = true) : ∀ j w, ((a0 :: some v :: tl) : aa_L)[j]? = some (some w) → (j = 1 ∧ w = v) ∨ (j ≠ 1 ∧ ((a0 :: x0 :: tl) : aa_L)[j]? = some (some w) ∧ ¬ (j + 1 = 1 ∧ w.category = 2)) := by
  intro j w hj
  rcases j with _ | j
  · exact Or.inr ⟨by omega, hj, fun q => by
      have hj : a0 = some w := Option.some.inj hj
      rw [hj] at hc
      simp [aa_c1, q.2] at hc⟩
  rcases j with _ | j
  · exact Or.inl ⟨rfl, (Option.some.inj (Option.some.inj hj)).symm⟩
  · exact Or.inr ⟨by omega, hj, fun q => by omega⟩
theorem aa_s1_2 {a0 a1 : Option Value} {x0 : Option Value} {v : Value} {tl : aa_L} (hc : aa_c1 a1 = true) : ∀ j w, ((a0 :: a1 :: some v :: tl) : aa_L)[j]? = some (some w) → (j = 2 ∧ w = v) ∨ (j ≠ 2 ∧ ((a0 :: a1 :: x0 :: tl) : aa_L)[j]? = some (some w) ∧ ¬ (j + 1 = 2 ∧ w.category = 2)) := by
  intro j w hj
  rcases j with _ | j
  · exact Or.inr ⟨by omega, hj, fun q => by omega⟩
  rcases j with _ | j
  · exact Or.inr ⟨by omega, hj, fun q => by
      have hj : a1 = some w := Option.some.inj hj
      rw [hj] at hc
      simp [aa_c1, q.2] at hc⟩
  rcases j with _ | j
  · exact Or.inl ⟨rfl, (Option.some.inj (Option.some.inj hj)).symm⟩
  · exact Or.inr ⟨by omega, hj, fun q => by omega⟩
theorem aa_s1_3 {a0 a1 a2 : Option Value} {x0 : Option Value} {v : Value} {tl : aa_L} (hc : aa_c1 a2 = true) : ∀ j w, ((a0 :: a1 :: a2 :: some v :: tl) : aa_L)[j]? = some (some w) → (j = 3 ∧ w = v) ∨ (j ≠ 3 ∧ ((a0 :: a1 :: a2 :: x0 :: tl) : aa_L)[j]? = some (some w) ∧ ¬ (j + 1 = 3 ∧ w.category = 2)) := by
  intro j w hj
  rcases j with _ | j
  · exact Or.inr ⟨by omega, hj, fun q => by omega⟩
  rcases j with _ | j
  · exact Or.inr ⟨by omega, hj, fun q => by omega⟩
  rcases j with _ | j
  · exact Or.inr ⟨by omega, hj, fun q => by
      have hj : a2 = some w := Option.some.inj hj
      rw [hj] at hc
      simp [aa_c1, q.2] at hc⟩
  rcases j with _ | j
  · exact Or.inl ⟨rfl, (Option.some.inj (Option.some.inj hj)).symm⟩
  · exact Or.inr ⟨by omega, hj, fun q => by omega⟩
theorem aa_s1_4 {a0 a1 a2 a3 : Option Value} {x0 : Option Value} {v : Value} {tl : aa_L} (hc : aa_c1 a3 = true) : ∀ j w, ((a0 :: a1 :: a2 :: a3 :: some v :: tl) : aa_L)[j]? = some (some w) → (j = 4 ∧ w = v) ∨ (j ≠ 4 ∧ ((a0 :: a1 :: a2 :: a3 :: x0 :: tl) : aa_L)[j]? = some (some w) ∧ ¬ (j + 1 = 4 ∧ w.category = 2)) := by
  intro j w hj
  rcases j with _ | j
  · exact Or.inr ⟨by omega, hj, fun q => by omega⟩
  rcases j with _ | j
  · exact Or.inr ⟨by omega, hj, fun q => by omega⟩
  rcases j with _ | j
  · exact Or.inr ⟨by omega, hj, fun q => by omega⟩
  rcases j with _ | j
  · exact Or.inr ⟨by omega, hj, fun q => by
      have hj : a3 = some w := Option.some.inj hj
      rw [hj] at hc
      simp [aa_c1, q.2] at hc⟩
  rcases j with _ | j
  · exact Or.inl ⟨rfl, (Option.some.inj (Option.some.inj hj)).symm⟩
  · exact Or.inr ⟨by omega, hj, fun q => by omega⟩
theorem aa_s1_5 {a0 a1 a2 a3 a4 : Option Value} {x0 : Option Value} {v : Value} {tl : aa_L} (hc : aa_c1 a4 = true) : ∀ j w, ((a0 :: a1 :: a2 :: a3 :: a4 :: some v :: tl) : aa_L)[j]? = some (some w) → (j = 5 ∧ w = v) ∨ (j ≠ 5 ∧ ((a0 :: a1 :: a2 :: a3 :: a4 :: x0 :: tl) : aa_L)[j]? = some (some w) ∧ ¬ (j + 1 = 5 ∧ w.category = 2)) := by
  intro j w hj
  rcases j with _ | j
  · exact Or.inr ⟨by omega, hj, fun q => by omega⟩
  rcases j with _ | j
  · exact Or.inr ⟨by omega, hj, fun q => by omega⟩
  rcases j with _ | j
  · exact Or.inr ⟨by omega, hj, fun q => by omega⟩
  rcases j with _ | j
  · exact Or.inr ⟨by omega, hj, fun q => by omega⟩
  rcases j with _ | j
  · exact Or.inr ⟨by omega, hj, fun q => by
      have hj : a4 = some w := Option.some.inj hj
      rw [hj] at hc
      simp [aa_c1, q.2] at hc⟩
  rcases j with _ | j
  · exact Or.inl ⟨rfl, (Option.some.inj (Option.some.inj hj)).symm⟩
  · exact Or.inr ⟨by omega, hj, fun q => by omega⟩
theorem aa_s1_6 {a0 a1 a2 a3 a4 a5 : Option Value} {x0 : Option Value} {v : Value} {tl : aa_L} (hc : aa_c1 a5 = true) : ∀ j w, ((a0 :: a1 :: a2 :: a3 :: a4 :: a5 :: some v :: tl) : aa_L)[j]? = some (some w) → (j = 6 ∧ w = v) ∨ (j ≠ 6 ∧ ((a0 :: a1 :: a2 :: a3 :: a4 :: a5 :: x0 :: tl) : aa_L)[j]? = some (some w) ∧ ¬ (j + 1 = 6 ∧ w.category = 2)) := by
  intro j w hj
  rcases j with _ | j
  · exact Or.inr ⟨by omega, hj, fun q => by omega⟩
  rcases j with _ | j
  · exact Or.inr ⟨by omega, hj, fun q => by omega⟩
  rcases j with _ | j
  · exact Or.inr ⟨by omega, hj, fun q => by omega⟩
  rcases j with _ | j
  · exact Or.inr ⟨by omega, hj, fun q => by omega⟩
  rcases j with _ | j
  · exact Or.inr ⟨by omega, hj, fun q => by omega⟩
  rcases j with _ | j
  · exact Or.inr ⟨by omega, hj, fun q => by
      have hj : a5 = some w := Option.some.inj hj
      rw [hj] at hc
      simp [aa_c1, q.2] at hc⟩
  rcases j with _ | j
  · exact Or.inl ⟨rfl, (Option.some.inj (Option.some.inj hj)).symm⟩
  · exact Or.inr ⟨by omega, hj, fun q => by omega⟩
theorem aa_s1_7 {a0 a1 a2 a3 a4 a5 a6 : Option Value} {x0 : Option Value} {v : Value} {tl : aa_L} (hc : aa_c1 a6 = true) : ∀ j w, ((a0 :: a1 :: a2 :: a3 :: a4 :: a5 :: a6 :: some v :: tl) : aa_L)[j]? = some (some w) → (j = 7 ∧ w = v) ∨ (j ≠ 7 ∧ ((a0 :: a1 :: a2 :: a3 :: a4 :: a5 :: a6 :: x0 :: tl) : aa_L)[j]? = some (some w) ∧ ¬ (j + 1 = 7 ∧ w.category = 2)) := by
  intro j w hj
  rcases j with _ | j
  · exact Or.inr ⟨by omega, hj, fun q => by omega⟩
  rcases j with _ | j
  · exact Or.inr ⟨by omega, hj, fun q => by omega⟩
  rcases j with _ | j
  · exact Or.inr ⟨by omega, hj, fun q => by omega⟩
  rcases j with _ | j
  · exact Or.inr ⟨by omega, hj, fun q => by omega⟩
  rcases j with _ | j
  · exact Or.inr ⟨by omega, hj, fun q => by omega⟩
  rcases j with _ | j
  · exact Or.inr ⟨by omega, hj, fun q => by omega⟩
  rcases j with _ | j
  · exact Or.inr ⟨by omega, hj, fun q => by
      have hj : a6 = some w := Option.some.inj hj
      rw [hj] at hc
      simp [aa_c1, q.2] at hc⟩
  rcases j with _ | j
  · exact Or.inl ⟨rfl, (Option.some.inj (Option.some.inj hj)).symm⟩
  · exact Or.inr ⟨by omega, hj, fun q => by omega⟩
theorem aa_s1_8 {a0 a1 a2 a3 a4 a5 a6 a7 : Option Value} {x0 : Option Value} {v : Value} {tl : aa_L} (hc : aa_c1 a7 = true) : ∀ j w, ((a0 :: a1 :: a2 :: a3 :: a4 :: a5 :: a6 :: a7 :: some v :: tl) : aa_L)[j]? = some (some w) → (j = 8 ∧ w = v) ∨ (j ≠ 8 ∧ ((a0 :: a1 :: a2 :: a3 :: a4 :: a5 :: a6 :: a7 :: x0 :: tl) : aa_L)[j]? = some (some w) ∧ ¬ (j + 1 = 8 ∧ w.category = 2)) := by
  intro j w hj
  rcases j with _ | j
  · exact Or.inr ⟨by omega, hj, fun q => by omega⟩
  rcases j with _ | j
  · exact Or.inr ⟨by omega, hj, fun q => by omega⟩
  rcases j with _ | j
  · exact Or.inr ⟨by omega, hj, fun q => by omega⟩
  rcases j with _ | j
  · exact Or.inr ⟨by omega, hj, fun q => by omega⟩
  rcases j with _ | j
  · exact Or.inr ⟨by omega, hj, fun q => by omega⟩
  rcases j with _ | j
  · exact Or.inr ⟨by omega, hj, fun q => by omega⟩
  rcases j with _ | j
  · exact Or.inr ⟨by omega, hj, fun q => by omega⟩
  rcases j with _ | j
  · exact Or.inr ⟨by omega, hj, fun q => by
      have hj : a7 = some w := Option.some.inj hj
      rw [hj] at hc
      simp [aa_c1, q.2] at hc⟩
  rcases j with _ | j
  · exact Or.inl ⟨rfl, (Option.some.inj (Option.some.inj hj)).symm⟩
  · exact Or.inr ⟨by omega, hj, fun q => by omega⟩
theorem aa_s1_9 {a0 a1 a2 a3 a4 a5 a6 a7 a8 : Option Value} {x0 : Option Value} {v : Value} {tl : aa_L} (hc : aa_c1 a8 = true) : ∀ j w, ((a0 :: a1 :: a2 :: a3 :: a4 :: a5 :: a6 :: a7 :: a8 :: some v :: tl) : aa_L)[j]? = some (some w) → (j = 9 ∧ w = v) ∨ (j ≠ 9 ∧ ((a0 :: a1 :: a2 :: a3 :: a4 :: a5 :: a6 :: a7 :: a8 :: x0 :: tl) : aa_L)[j]? = some (some w) ∧ ¬ (j + 1 = 9 ∧ w.category = 2)) := by
  intro j w hj
  rcases j with _ | j
  · exact Or.inr ⟨by omega, hj, fun q => by omega⟩
  rcases j with _ | j
  · exact Or.inr ⟨by omega, hj, fun q => by omega⟩
  rcases j with _ | j
  · exact Or.inr ⟨by omega, hj, fun q => by omega⟩
  rcases j with _ | j
  · exact Or.inr ⟨by omega, hj, fun q => by omega⟩
  rcases j with _ | j
  · exact Or.inr ⟨by omega, hj, fun q => by omega⟩
  rcases j with _ | j
  · exact Or.inr ⟨by omega, hj, fun q => by omega⟩
  rcases j with _ | j
  · exact Or.inr ⟨by omega, hj, fun q => by omega⟩
  rcases j with _ | j
  · exact Or.inr ⟨by omega, hj, fun q => by omega⟩
  rcases j with _ | j
  · exact Or.inr ⟨by omega, hj, fun q => by
      have hj : a8 = some w := Option.some.inj hj
      rw [hj] at hc
      simp [aa_c1, q.2] at hc⟩
  rcases j with _ | j
  · exact Or.inl ⟨rfl, (Option.some.inj (Option.some.inj hj)).symm⟩
  · exact Or.inr ⟨by omega, hj, fun q => by omega⟩
theorem aa_s1_10 {a0 a1 a2 a3 a4 a5 a6 a7 a8 a9 : Option Value} {x0 : Option Value} {v : Value} {tl : aa_L} (hc : aa_c1 a9 = true) : ∀ j w, ((a0 :: a1 :: a2 :: a3 :: a4 :: a5 :: a6 :: a7 :: a8 :: a9 :: some v :: tl) : aa_L)[j]? = some (some w) → (j = 10 ∧ w = v) ∨ (j ≠ 10 ∧ ((a0 :: a1 :: a2 :: a3 :: a4 :: a5 :: a6 :: a7 :: a8 :: a9 :: x0 :: tl) : aa_L)[j]? = some (some w) ∧ ¬ (j + 1 = 10 ∧ w.category = 2)) := by
  intro j w hj
  rcases j with _ | j
  · exact Or.inr ⟨by omega, hj, fun q => by omega⟩
  rcases j with _ | j
  · exact Or.inr ⟨by omega, hj, fun q => by omega⟩
  rcases j with _ | j
  · exact Or.inr ⟨by omega, hj, fun q => by omega⟩
  rcases j with _ | j
  · exact Or.inr ⟨by omega, hj, fun q => by omega⟩
  rcases j with _ | j
  · exact Or.inr ⟨by omega, hj, fun q => by omega⟩
  rcases j with _ | j
  · exact Or.inr ⟨by omega, hj, fun q => by omega⟩
  rcases j with _ | j
  · exact Or.inr ⟨by omega, hj, fun q => by omega⟩
  rcases j with _ | j
  · exact Or.inr ⟨by omega, hj, fun q => by omega⟩
  rcases j with _ | j
  · exact Or.inr ⟨by omega, hj, fun q => by omega⟩
  rcases j with _ | j
  · exact Or.inr ⟨by omega, hj, fun q => by
      have hj : a9 = some w := Option.some.inj hj
      rw [hj] at hc
      simp [aa_c1, q.2] at hc⟩
  rcases j with _ | j
  · exact Or.inl ⟨rfl, (Option.some.inj (Option.some.inj hj)).symm⟩
  · exact Or.inr ⟨by omega, hj, fun q => by omega⟩
theorem aa_s1_11 {a0 a1 a2 a3 a4 a5 a6 a7 a8 a9 a10 : Option Value} {x0 : Option Value} {v : Value} {tl : aa_L} (hc : aa_c1 a10 = true) : ∀ j w, ((a0 :: a1 :: a2 :: a3 :: a4 :: a5 :: a6 :: a7 :: a8 :: a9 :: a10 :: some v :: tl) : aa_L)[j]? = some (some w) → (j = 11 ∧ w = v) ∨ (j ≠ 11 ∧ ((a0 :: a1 :: a2 :: a3 :: a4 :: a5 :: a6 :: a7 :: a8 :: a9 :: a10 :: x0 :: tl) : aa_L)[j]? = some (some w) ∧ ¬ (j + 1 = 11 ∧ w.category = 2)) := by
  intro j w hj
  rcases j with _ | j
  · exact Or.inr ⟨by omega, hj, fun q => by omega⟩
  rcases j with _ | j
  · exact Or.inr ⟨by omega, hj, fun q => by omega⟩
  rcases j with _ | j
  · exact Or.inr ⟨by omega, hj, fun q => by omega⟩
  rcases j with _ | j
  · exact Or.inr ⟨by omega, hj, fun q => by omega⟩
  rcases j with _ | j
  · exact Or.inr ⟨by omega, hj, fun q => by omega⟩
  rcases j with _ | j
  · exact Or.inr ⟨by omega, hj, fun q => by omega⟩
  rcases j with _ | j
  · exact Or.inr ⟨by omega, hj, fun q => by omega⟩
  rcases j with _ | j
  · exact Or.inr ⟨by omega, hj, fun q => by omega⟩
  rcases j with _ | j
  · exact Or.inr ⟨by omega, hj, fun q => by omega⟩
  rcases j with _ | j
  · exact Or.inr ⟨by omega, hj, fun q => by omega⟩
  rcases j with _ | j
  · exact Or.inr ⟨by omega, hj, fun q => by
      have hj : a10 = some w := Option.some.inj hj
      rw [hj] at hc
      simp [aa_c1, q.2] at hc⟩
  rcases j with _ | j
  · exact Or.inl ⟨rfl, (Option.some.inj (Option.some.inj hj)).symm⟩
  · exact Or.inr ⟨by omega, hj, fun q => by omega⟩
theorem aa_s1_12 {a0 a1 a2 a3 a4 a5 a6 a7 a8 a9 a10 a11 : Option Value} {x0 : Option Value} {v : Value} {tl : aa_L} (hc : aa_c1 a11 = true) : ∀ j w, ((a0 :: a1 :: a2 :: a3 :: a4 :: a5 :: a6 :: a7 :: a8 :: a9 :: a10 :: a11 :: some v :: tl) : aa_L)[j]? = some (some w) → (j = 12 ∧ w = v) ∨ (j ≠ 12 ∧ ((a0 :: a1 :: a2 :: a3 :: a4 :: a5 :: a6 :: a7 :: a8 :: a9 :: a10 :: a11 :: x0 :: tl) : aa_L)[j]? = some (some w) ∧ ¬ (j + 1 = 12 ∧ w.category = 2)) := by
  intro j w hj
  rcases j with _ | j
  · exact Or.inr ⟨by omega, hj, fun q => by omega⟩
  rcases j with _ | j
  · exact Or.inr ⟨by omega, hj, fun q => by omega⟩
  rcases j with _ | j
  · exact Or.inr ⟨by omega, hj, fun q => by omega⟩
  rcases j with _ | j
  · exact Or.inr ⟨by omega, hj, fun q => by omega⟩
  rcases j with _ | j
  · exact Or.inr ⟨by omega, hj, fun q => by omega⟩
  rcases j with _ | j
  · exact Or.inr ⟨by omega, hj, fun q => by omega⟩
  rcases j with _ | j
  · exact Or.inr ⟨by omega, hj, fun q => by omega⟩
  rcases j with _ | j
  · exact Or.inr ⟨by omega, hj, fun q => by omega⟩
  rcases j with _ | j
  · exact Or.inr ⟨by omega, hj, fun q => by omega⟩
  rcases j with _ | j
  · exact Or.inr ⟨by omega, hj, fun q => by omega⟩
  rcases j with _ | j
  · exact Or.inr ⟨by omega, hj, fun q => by omega⟩
  rcases j with _ | j
  · exact Or.inr ⟨by omega, hj, fun q => by
      have hj : a11 = some w := Option.some.inj hj
      rw [hj] at hc
      simp [aa_c1, q.2] at hc⟩
  rcases j with _ | j
  · exact Or.inl ⟨rfl, (Option.some.inj (Option.some.inj hj)).symm⟩
  · exact Or.inr ⟨by omega, hj, fun q => by omega⟩
theorem aa_s1_13 {a0 a1 a2 a3 a4 a5 a6 a7 a8 a9 a10 a11 a12 : Option Value} {x0 : Option Value} {v : Value} {tl : aa_L} (hc : aa_c1 a12 = true) : ∀ j w, ((a0 :: a1 :: a2 :: a3 :: a4 :: a5 :: a6 :: a7 :: a8 :: a9 :: a10 :: a11 :: a12 :: some v :: tl) : aa_L)[j]? = some (some w) → (j = 13 ∧ w = v) ∨ (j ≠ 13 ∧ ((a0 :: a1 :: a2 :: a3 :: a4 :: a5 :: a6 :: a7 :: a8 :: a9 :: a10 :: a11 :: a12 :: x0 :: tl) : aa_L)[j]? = some (some w) ∧ ¬ (j + 1 = 13 ∧ w.category = 2)) := by
  intro j w hj
  rcases j with _ | j
  · exact Or.inr ⟨by omega, hj, fun q => by omega⟩
  rcases j with _ | j
  · exact Or.inr ⟨by omega, hj, fun q => by omega⟩
  rcases j with _ | j
  · exact Or.inr ⟨by omega, hj, fun q => by omega⟩
  rcases j with _ | j
  · exact Or.inr ⟨by omega, hj, fun q => by omega⟩
  rcases j with _ | j
  · exact Or.inr ⟨by omega, hj, fun q => by omega⟩
  rcases j with _ | j
  · exact Or.inr ⟨by omega, hj, fun q => by omega⟩
  rcases j with _ | j
  · exact Or.inr ⟨by omega, hj, fun q => by omega⟩
  rcases j with _ | j
  · exact Or.inr ⟨by omega, hj, fun q => by omega⟩
  rcases j with _ | j
  · exact Or.inr ⟨by omega, hj, fun q => by omega⟩
  rcases j with _ | j
  · exact Or.inr ⟨by omega, hj, fun q => by omega⟩
  rcases j with _ | j
  · exact Or.inr ⟨by omega, hj, fun q => by omega⟩
  rcases j with _ | j
  · exact Or.inr ⟨by omega, hj, fun q => by omega⟩
  rcases j with _ | j
  · exact Or.inr ⟨by omega, hj, fun q => by
      have hj : a12 = some w := Option.some.inj hj
      rw [hj] at hc
      simp [aa_c1, q.2] at hc⟩
  rcases j with _ | j
  · exact Or.inl ⟨rfl, (Option.some.inj (Option.some.inj hj)).symm⟩
  · exact Or.inr ⟨by omega, hj, fun q => by omega⟩
theorem aa_s1_14 {a0 a1 a2 a3 a4 a5 a6 a7 a8 a9 a10 a11 a12 a13 : Option Value} {x0 : Option Value} {v : Value} {tl : aa_L} (hc : aa_c1 a13 = true) : ∀ j w, ((a0 :: a1 :: a2 :: a3 :: a4 :: a5 :: a6 :: a7 :: a8 :: a9 :: a10 :: a11 :: a12 :: a13 :: some v :: tl) : aa_L)[j]? = some (some w) → (j = 14 ∧ w = v) ∨ (j ≠ 14 ∧ ((a0 :: a1 :: a2 :: a3 :: a4 :: a5 :: a6 :: a7 :: a8 :: a9 :: a10 :: a11 :: a12 :: a13 :: x0 :: tl) : aa_L)[j]? = some (some w) ∧ ¬ (j + 1 = 14 ∧ w.category = 2)) := by
  intro j w hj
  rcases j with _ | j
  · exact Or.inr ⟨by omega, hj, fun q => by omega⟩
  rcases j with _ | j
  · exact Or.inr ⟨by omega, hj, fun q => by omega⟩
  rcases j with _ | j
  · exact Or.inr ⟨by omega, hj, fun q => by omega⟩
  rcases j with _ | j
  · exact Or.inr ⟨by omega, hj, fun q => by omega⟩
  rcases j with _ | j
  · exact Or.inr ⟨by omega, hj, fun q => by omega⟩
  rcases j with _ | j
  · exact Or.inr ⟨by omega, hj, fun q => by omega⟩
  rcases j with _ | j
  · exact Or.inr ⟨by omega, hj, fun q => by omega⟩
  rcases j with _ | j
  · exact Or.inr ⟨by omega, hj, fun q => by omega⟩
  rcases j with _ | j
  · exact Or.inr ⟨by omega, hj, fun q => by omega⟩
  rcases j with _ | j
  · exact Or.inr ⟨by omega, hj, fun q => by omega⟩
  rcases j with _ | j
  · exact Or.inr ⟨by omega, hj, fun q => by omega⟩
  rcases j with _ | j
  · exact Or.inr ⟨by omega, hj, fun q => by omega⟩
  rcases j with _ | j
  · exact Or.inr ⟨by omega, hj, fun q => by omega⟩
  rcases j with _ | j
  · exact Or.inr ⟨by omega, hj, fun q => by
      have hj : a13 = some w := Option.some.inj hj
      rw [hj] at hc
      simp [aa_c1, q.2] at hc⟩
  rcases j with _ | j
  · exact Or.inl ⟨rfl, (Option.some.inj (Option.some.inj hj)).symm⟩
  · exact Or.inr ⟨by omega, hj, fun q => by omega⟩
theorem aa_s1_15 {a0 a1 a2 a3 a4 a5 a6 a7 a8 a9 a10 a11 a12 a13 a14 : Option Value} {x0 : Option Value} {v : Value} {tl : aa_L} (hc : aa_c1 a14 = true) : ∀ j w, ((a0 :: a1 :: a2 :: a3 :: a4 :: a5 :: a6 :: a7 :: a8 :: a9 :: a10 :: a11 :: a12 :: a13 :: a14 :: some v :: tl) : aa_L)[j]? = some (some w) → (j = 15 ∧ w = v) ∨ (j ≠ 15 ∧ ((a0 :: a1 :: a2 :: a3 :: a4 :: a5 :: a6 :: a7 :: a8 :: a9 :: a10 :: a11 :: a12 :: a13 :: a14 :: x0 :: tl) : aa_L)[j]? = some (some w) ∧ ¬ (j + 1 = 15 ∧ w.category = 2)) := by
  intro j w hj
  rcases j with _ | j
  · exact Or.inr ⟨by omega, hj, fun q => by omega⟩
  rcases j with _ | j
  · exact Or.inr ⟨by omega, hj, fun q => by omega⟩
  rcases j with _ | j
  · exact Or.inr ⟨by omega, hj, fun q => by omega⟩
  rcases j with _ | j
  · exact Or.inr ⟨by omega, hj, fun q => by omega⟩
  rcases j with _ | j
  · exact Or.inr ⟨by omega, hj, fun q => by omega⟩
  rcases j with _ | j
  · exact Or.inr ⟨by omega, hj, fun q => by omega⟩
  rcases j with _ | j
  · exact Or.inr ⟨by omega, hj, fun q => by omega⟩
  rcases j with _ | j
  · exact Or.inr ⟨by omega, hj, fun q => by omega⟩
  rcases j with _ | j
  · exact Or.inr ⟨by omega, hj, fun q => by omega⟩
  rcases j with _ | j
  · exact Or.inr ⟨by omega, hj, fun q => by omega⟩
  rcases j with _ | j
  · exact Or.inr ⟨by omega, hj, fun q => by omega⟩
  rcases j with _ | j
  · exact Or.inr ⟨by omega, hj, fun q => by omega⟩
  rcases j with _ | j
  · exact Or.inr ⟨by omega, hj, fun q => by omega⟩
  rcases j with _ | j
  · exact Or.inr ⟨by omega, hj, fun q => by omega⟩
  rcases j with _ | j
  · exact Or.inr ⟨by omega, hj, fun q => by
      have hj : a14 = some w := Option.some.inj hj
      rw [hj] at hc
      simp [aa_c1, q.2] at hc⟩
  rcases j with _ | j
  · exact Or.inl ⟨rfl, (Option.some.inj (Option.some.inj hj)).symm⟩
  · exact Or.inr ⟨by omega, hj, fun q => by omega⟩
theorem aa_s1_16 {a0 a1 a2 a3 a4 a5 a6 a7 a8 a9 a10 a11 a12 a13 a14 a15 : Option Value} {x0 : Option Value} {v : Value} {tl : aa_L} (hc : aa_c1 a15 = true) : ∀ j w, ((a0 :: a1 :: a2 :: a3 :: a4 :: a5 :: a6 :: a7 :: a8 :: a9 :: a10 :: a11 :: a12 :: a13 :: a14 :: a15 :: some v :: tl) : aa_L)[j]? = some (some w) → (j = 16 ∧ w = v) ∨ (j ≠ 16 ∧ ((a0 :: a1 :: a2 :: a3 :: a4 :: a5 :: a6 :: a7 :: a8 :: a9 :: a10 :: a11 :: a12 :: a13 :: a14 :: a15 :: x0 :: tl) : aa_L)[j]? = some (some w) ∧ ¬ (j + 1 = 16 ∧ w.category = 2)) := by
  intro j w hj
  rcases j with _ | j
  · exact Or.inr ⟨by omega, hj, fun q => by omega⟩
  rcases j with _ | j
  · exact Or.inr ⟨by omega, hj, fun q => by omega⟩
  rcases j with _ | j
  · exact Or.inr ⟨by omega, hj, fun q => by omega⟩
  rcases j with _ | j
  · exact Or.inr ⟨by omega, hj, fun q => by omega⟩
  rcases j with _ | j
  · exact Or.inr ⟨by omega, hj, fun q => by omega⟩
  rcases j with _ | j
  · exact Or.inr ⟨by omega, hj, fun q => by omega⟩
  rcases j with _ | j
  · exact Or.inr ⟨by omega, hj, fun q => by omega⟩
  rcases j with _ | j
  · exact Or.inr ⟨by omega, hj, fun q => by omega⟩
  rcases j with _ | j
  · exact Or.inr ⟨by omega, hj, fun q => by omega⟩
  rcases j with _ | j
  · exact Or.inr ⟨by omega, hj, fun q => by omega⟩
  rcases j with _ | j
  · exact Or.inr ⟨by omega, hj, fun q => by omega⟩
  rcases j with _ | j
  · exact Or.inr ⟨by omega, hj, fun q => by omega⟩
  rcases j with _ | j
  · exact Or.inr ⟨by omega, hj, fun q => by omega⟩
  rcases j with _ | j
  · exact Or.inr ⟨by omega, hj, fun q => by omega⟩
  rcases j with _ | j
  · exact Or.inr ⟨by omega, hj, fun q => by omega⟩
  rcases j with _ | j
  · exact Or.inr ⟨by omega, hj, fun q => by
      have hj : a15 = some w := Option.some.inj hj
      rw [hj] at hc
      simp [aa_c1, q.2] at hc⟩
  rcases j with _ | j
  · exact Or.inl ⟨rfl, (Option.some.inj (Option.some.inj hj)).symm⟩
  · exact Or.inr ⟨by omega, hj, fun q => by omega⟩
theorem aa_s1_17 {a0 a1 a2 a3 a4 a5 a6 a7 a8 a9 a10 a11 a12 a13 a14 a15 a16 : Option Value} {x0 : Option Value} {v : Value} {tl : aa_L} (hc : aa_c1 a16 = true) : ∀ j w, ((a0 :: a1 :: a2 :: a3 :: a4 :: a5 :: a6 :: a7 :: a8 :: a9 :: a10 :: a11 :: a12 :: a13 :: a14 :: a15 :: a16 :: some v :: tl) : aa_L)[j]? = some (some w) → (j = 17 ∧ w = v) ∨ (j ≠ 17 ∧ ((a0 :: a1 :: a2 :: a3 :: a4 :: a5 :: a6 :: a7 :: a8 :: a9 :: a10 :: a11 :: a12 :: a13 :: a14 :: a15 :: a16 :: x0 :: tl) : aa_L)[j]? = some (some w) ∧ ¬ (j + 1 = 17 ∧ w.category = 2)) := by
  intro j w hj
  rcases j with _ | j
  · exact Or.inr ⟨by omega, hj, fun q => by omega⟩
  rcases j with _ | j
  · exact Or.inr ⟨by omega, hj, fun q => by omega⟩
  rcases j with _ | j
  · exact Or.inr ⟨by omega, hj, fun q => by omega⟩
  rcases j with _ | j
  · exact Or.inr ⟨by omega, hj, fun q => by omega⟩
  rcases j with _ | j
  · exact Or.inr ⟨by omega, hj, fun q => by omega⟩
  rcases j with _ | j
  · exact Or.inr ⟨by omega, hj, fun q => by omega⟩
  rcases j with _ | j
  · exact Or.inr ⟨by omega, hj, fun q => by omega⟩
  rcases j with _ | j
  · exact Or.inr ⟨by omega, hj, fun q => by omega⟩
  rcases j with _ | j
  · exact Or.inr ⟨by omega, hj, fun q => by omega⟩
  rcases j with _ | j
  · exact Or.inr ⟨by omega, hj, fun q => by omega⟩
  rcases j with _ | j
  · exact Or.inr ⟨by omega, hj, fun q => by omega⟩
  rcases j with _ | j
  · exact Or.inr ⟨by omega, hj, fun q => by omega⟩
  rcases j with _ | j
  · exact Or.inr ⟨by omega, hj, fun q => by omega⟩
  rcases j with _ | j
  · exact Or.inr ⟨by omega, hj, fun q => by omega⟩
  rcases j with _ | j
  · exact Or.inr ⟨by omega, hj, fun q => by omega⟩
  rcases j with _ | j
  · exact Or.inr ⟨by omega, hj, fun q => by omega⟩
  rcases j with _ | j
  · exact Or.inr ⟨by omega, hj, fun q => by
      have hj : a16 = some w := Option.some.inj hj
      rw [hj] at hc
      simp [aa_c1, q.2] at hc⟩
  rcases j with _ | j
  · exact Or.inl ⟨rfl, (Option.some.inj (Option.some.inj hj)).symm⟩
  · exact Or.inr ⟨by omega, hj, fun q => by omega⟩
theorem aa_s1_18 {a0 a1 a2 a3 a4 a5 a6 a7 a8 a9 a10 a11 a12 a13 a14 a15 a16 a17 : Option Value} {x0 : Option Value} {v : Value} {tl : aa_L} (hc : aa_c1 a17 = true) : ∀ j w, ((a0 :: a1 :: a2 :: a3 :: a4 :: a5 :: a6 :: a7 :: a8 :: a9 :: a10 :: a11 :: a12 :: a13 :: a14 :: a15 :: a16 :: a17 :: some v :: tl) : aa_L)[j]? = some (some w) → (j = 18 ∧ w = v) ∨ (j ≠ 18 ∧ ((a0 :: a1 :: a2 :: a3 :: a4 :: a5 :: a6 :: a7 :: a8 :: a9 :: a10 :: a11 :: a12 :: a13 :: a14 :: a15 :: a16 :: a17 :: x0 :: tl) : aa_L)[j]? = some (some w) ∧ ¬ (j + 1 = 18 ∧ w.category = 2)) := by
  intro j w hj
  rcases j with _ | j
  · exact Or.inr ⟨by omega, hj, fun q => by omega⟩
  rcases j with _ | j
  · exact Or.inr ⟨by omega, hj, fun q => by omega⟩
  rcases j with _ | j
  · exact Or.inr ⟨by omega, hj, fun q => by omega⟩
  rcases j with _ | j
  · exact Or.inr ⟨by omega, hj, fun q => by omega⟩
  rcases j with _ | j
  · exact Or.inr ⟨by omega, hj, fun q => by omega⟩
  rcases j with _ | j
  · exact Or.inr ⟨by omega, hj, fun q => by omega⟩
  rcases j with _ | j
  · exact Or.inr ⟨by omega, hj, fun q => by omega⟩
  rcases j with _ | j
  · exact Or.inr ⟨by omega, hj, fun q => by omega⟩
  rcases j with _ | j
  · exact Or.inr ⟨by omega, hj, fun q => by omega⟩
  rcases j with _ | j
  · exact Or.inr ⟨by omega, hj, fun q => by omega⟩
  rcases j with _ | j
  · exact Or.inr ⟨by omega, hj, fun q => by omega⟩
  rcases j with _ | j
  · exact Or.inr ⟨by omega, hj, fun q => by omega⟩
  rcases j with _ | j
  · exact Or.inr ⟨by omega, hj, fun q => by omega⟩
  rcases j with _ | j
  · exact Or.inr ⟨by omega, hj, fun q => by omega⟩
  rcases j with _ | j
  · exact Or.inr ⟨by omega, hj, fun q => by omega⟩
  rcases j with _ | j
  · exact Or.inr ⟨by omega, hj, fun q => by omega⟩
  rcases j with _ | j
  · exact Or.inr ⟨by omega, hj, fun q => by omega⟩
  rcases j with _ | j
  · exact Or.inr ⟨by omega, hj, fun q => by
      have hj : a17 = some w := Option.some.inj hj
      rw [hj] at hc
      simp [aa_c1, q.2] at hc⟩
  rcases j with _ | j
  · exact Or.inl ⟨rfl, (Option.some.inj (Option.some.inj hj)).symm⟩
  · exact Or.inr ⟨by omega, hj, fun q => by omega⟩
theorem aa_s1_19 {a0 a1 a2 a3 a4 a5 a6 a7 a8 a9 a10 a11 a12 a13 a14 a15 a16 a17 a18 : Option Value} {x0 : Option Value} {v : Value} {tl : aa_L} (hc : aa_c1 a18 = true) : ∀ j w, ((a0 :: a1 :: a2 :: a3 :: a4 :: a5 :: a6 :: a7 :: a8 :: a9 :: a10 :: a11 :: a12 :: a13 :: a14 :: a15 :: a16 :: a17 :: a18 :: some v :: tl) : aa_L)[j]? = some (some w) → (j = 19 ∧ w = v) ∨ (j ≠ 19 ∧ ((a0 :: a1 :: a2 :: a3 :: a4 :: a5 :: a6 :: a7 :: a8 :: a9 :: a10 :: a11 :: a12 :: a13 :: a14 :: a15 :: a16 :: a17 :: a18 :: x0 :: tl) : aa_L)[j]? = some (some w) ∧ ¬ (j + 1 = 19 ∧ w.category = 2)) := by
  intro j w hj
  rcases j with _ | j
  · exact Or.inr ⟨by omega, hj, fun q => by omega⟩
  rcases j with _ | j
  · exact Or.inr ⟨by omega, hj, fun q => by omega⟩
  rcases j with _ | j
  · exact Or.inr ⟨by omega, hj, fun q => by omega⟩
  rcases j with _ | j
  · exact Or.inr ⟨by omega, hj, fun q => by omega⟩
  rcases j with _ | j
  · exact Or.inr ⟨by omega, hj, fun q => by omega⟩
  rcases j with _ | j
  · exact Or.inr ⟨by omega, hj, fun q => by omega⟩
  rcases j with _ | j
  · exact Or.inr ⟨by omega, hj, fun q => by omega⟩
  rcases j with _ | j
  · exact Or.inr ⟨by omega, hj, fun q => by omega⟩
  rcases j with _ | j
  · exact Or.inr ⟨by omega, hj, fun q => by omega⟩
  rcases j with _ | j
  · exact Or.inr ⟨by omega, hj, fun q => by omega⟩
  rcases j with _ | j
  · exact Or.inr ⟨by omega, hj, fun q => by omega⟩
  rcases j with _ | j
  · exact Or.inr ⟨by omega, hj, fun q => by omega⟩
  rcases j with _ | j
  · exact Or.inr ⟨by omega, hj, fun q => by omega⟩
  rcases j with _ | j
  · exact Or.inr ⟨by omega, hj, fun q => by omega⟩
  rcases j with _ | j
  · exact Or.inr ⟨by omega, hj, fun q => by omega⟩
  rcases j with _ | j
  · exact Or.inr ⟨by omega, hj, fun q => by omega⟩
  rcases j with _ | j
  · exact Or.inr ⟨by omega, hj, fun q => by omega⟩
  rcases j with _ | j
  · exact Or.inr ⟨by omega, hj, fun q => by omega⟩
  rcases j with _ | j
  · exact Or.inr ⟨by omega, hj, fun q => by
      have hj : a18 = some w := Option.some.inj hj
      rw [hj] at hc
      simp [aa_c1, q.2] at hc⟩
  rcases j with _ | j
  · exact Or.inl ⟨rfl, (Option.some.inj (Option.some.inj hj)).symm⟩
  · exact Or.inr ⟨by omega, hj, fun q => by omega⟩
theorem aa_s1_20 {a0 a1 a2 a3 a4 a5 a6 a7 a8 a9 a10 a11 a12 a13 a14 a15 a16 a17 a18 a19 : Option Value} {x0 : Option Value} {v : Value} {tl : aa_L} (hc : aa_c1 a19 = true) : ∀ j w, ((a0 :: a1 :: a2 :: a3 :: a4 :: a5 :: a6 :: a7 :: a8 :: a9 :: a10 :: a11 :: a12 :: a13 :: a14 :: a15 :: a16 :: a17 :: a18 :: a19 :: some v :: tl) : aa_L)[j]? = some (some w) → (j = 20 ∧ w = v) ∨ (j ≠ 20 ∧ ((a0 :: a1 :: a2 :: a3 :: a4 :: a5 :: a6 :: a7 :: a8 :: a9 :: a10 :: a11 :: a12 :: a13 :: a14 :: a15 :: a16 :: a17 :: a18 :: a19 :: x0 :: tl) : aa_L)[j]? = some (some w) ∧ ¬ (j + 1 = 20 ∧ w.category = 2)) := by
  intro j w hj
  rcases j with _ | j
  · exact Or.inr ⟨by omega, hj, fun q => by omega⟩
  rcases j with _ | j
  · exact Or.inr ⟨by omega, hj, fun q => by omega⟩
  rcases j with _ | j
  · exact Or.inr ⟨by omega, hj, fun q => by omega⟩
  rcases j with _ | j
  · exact Or.inr ⟨by omega, hj, fun q => by omega⟩
  rcases j with _ | j
  · exact Or.inr ⟨by omega, hj, fun q => by omega⟩
  rcases j with _ | j
  · exact Or.inr ⟨by omega, hj, fun q => by omega⟩
  rcases j with _ | j
  · exact Or.inr ⟨by omega, hj, fun q => by omega⟩
  rcases j with _ | j
  · exact Or.inr ⟨by omega, hj, fun q => by omega⟩
  rcases j with _ | j
  · exact Or.inr ⟨by omega, hj, fun q => by omega⟩
  rcases j with _ | j
  · exact Or.inr ⟨by omega, hj, fun q => by omega⟩
  rcases j with _ | j
  · exact Or.inr ⟨by omega, hj, fun q => by omega⟩
  rcases j with _ | j
  · exact Or.inr ⟨by omega, hj, fun q => by omega⟩
  rcases j with _ | j
  · exact Or.inr ⟨by omega, hj, fun q => by omega⟩
  rcases j with _ | j
  · exact Or.inr ⟨by omega, hj, fun q => by omega⟩
  rcases j with _ | j
  · exact Or.inr ⟨by omega, hj, fun q => by omega⟩
  rcases j with _ | j
  · exact Or.inr ⟨by omega, hj, fun q => by omega⟩
  rcases j with _ | j
  · exact Or.inr ⟨by omega, hj, fun q => by omega⟩
  rcases j with _ | j
  · exact Or.inr ⟨by omega, hj, fun q => by omega⟩
  rcases j with _ | j
  · exact Or.inr ⟨by omega, hj, fun q => by omega⟩
  rcases j with _ | j
  · exact Or.inr ⟨by omega, hj, fun q => by
      have hj : a19 = some w := Option.some.inj hj
      rw [hj] at hc
      simp [aa_c1, q.2] at hc⟩
  rcases j with _ | j
  · exact Or.inl ⟨rfl, (Option.some.inj (Option.some.inj hj)).symm⟩
  · exact Or.inr ⟨by omega, hj, fun q => by omega⟩
theorem aa_s2_0 {x0 x1 : Option Value} {v : Value} {tl : aa_L} : ∀ j w, ((some v :: none :: tl) : aa_L)[j]? = some (some w) → (j = 0 ∧ w = v) ∨ (j ≠ 0 ∧ j ≠ 0 + 1 ∧ ((x0 :: x1 :: tl) : aa_L)[j]? = some (some w) ∧ ¬ (j + 1 = 0 ∧ w.category = 2)) := by
  intro j w hj
  rcases j with _ | _ | j
  · exact Or.inl ⟨rfl, (Option.some.inj (Option.some.inj hj)).symm⟩
  · cases hj
  · exact Or.inr ⟨by omega, by omega, hj, fun q => by omega⟩
theorem aa_s2_1 {a0 : Option Value} {x0 x1 : Option Value} {v : Value} {tl : aa_L} (hc : aa_c1 a0 = true) : ∀ j w, ((a0 :: some v :: none :: tl) : aa_L)[j]? = some (some w) → (j = 1 ∧ w = v) ∨ (j ≠ 1 ∧ j ≠ 1 + 1 ∧ ((a0 :: x0 :: x1 :: tl) : aa_L)[j]? = some (some w) ∧ ¬ (j + 1 = 1 ∧ w.category = 2)) := by
  intro j w hj
  rcases j with _ | j
  · exact Or.inr ⟨by omega, by omega, hj, fun q => by
      have hj : a0 = some w := Option.some.inj hj
      rw [hj] at hc
      simp [aa_c1, q.2] at hc⟩
  rcases j with _ | _ | j
  · exact Or.inl ⟨rfl, (Option.some.inj (Option.some.inj hj)).symm⟩
  · cases hj
  · exact Or.inr ⟨by omega, by omega, hj, fun q => by omega⟩
theorem aa_s2_2 {a0 a1 : Option Value} {x0 x1 : Option Value} {v : Value} {tl : aa_L} (hc : aa_c1 a1 = true) : ∀ j w, ((a0 :: a1 :: some v :: none :: tl) : aa_L)[j]? = some (some w) → (j = 2 ∧ w = v) ∨ (j ≠ 2 ∧ j ≠ 2 + 1 ∧ ((a0 :: a1 :: x0 :: x1 :: tl) : aa_L)[j]? = some (some w) ∧ ¬ (j + 1 = 2 ∧ w.category = 2)) := by
  intro j w hj
  rcases j with _ | j
  · exact Or.inr ⟨by omega, by omega, hj, fun q => by omega⟩
  rcases j with _ | j
  · exact Or.inr ⟨by omega, by omega, hj, fun q => by
      have hj : a1 = some w := Option.some.inj hj
      rw [hj] at hc
      simp [aa_c1, q.2] at hc⟩
  rcases j with _ | _ | j
  · exact Or.inl ⟨rfl, (Option.some.inj (Option.some.inj hj)).symm⟩
  · cases hj
  · exact Or.inr ⟨by omega, by omega, hj, fun q => by omega⟩
theorem aa_s2_3 {a0 a1 a2 : Option Value} {x0 x1 : Option Value} {v : Value} {tl : aa_L} (hc : aa_c1 a2 = true) : ∀ j w, ((a0 :: a1 :: a2 :: some v :: none :: tl) : aa_L)[j]? = some (some w) → (j = 3 ∧ w = v) ∨ (j ≠ 3 ∧ j ≠ 3 + 1 ∧ ((a0 :: a1 :: a2 :: x0 :: x1 :: tl) : aa_L)[j]? = some (some w) ∧ ¬ (j + 1 = 3 ∧ w.category = 2)) := by
  intro j w hj
  rcases j with _ | j
  · exact Or.inr ⟨by omega, by omega, hj, fun q => by omega⟩
  rcases j with _ | j
  · exact Or.inr ⟨by omega, by omega, hj, fun q => by omega⟩
  rcases j with _ | j
  · exact Or.inr ⟨by omega, by omega, hj, fun q => by
      have hj : a2 = some w := Option.some.inj hj
      rw [hj] at hc
      simp [aa_c1, q.2] at hc⟩
  rcases j with _ | _ | j
  · exact Or.inl ⟨rfl, (Option.some.inj (Option.some.inj hj)).symm⟩
  · cases hj
  · exact Or.inr ⟨by omega, by omega, hj, fun q => by omega⟩
theorem aa_s2_4 {a0 a1 a2 a3 : Option Value} {x0 x1 : Option Value} {v : Value} {tl : aa_L} (hc : aa_c1 a3 = true) : ∀ j w, ((a0 :: a1 :: a2 :: a3 :: some v :: none :: tl) : aa_L)[j]? = some (some w) → (j = 4 ∧ w = v) ∨ (j ≠ 4 ∧ j ≠ 4 + 1 ∧ ((a0 :: a1 :: a2 :: a3 :: x0 :: x1 :: tl) : aa_L)[j]? = some (some w) ∧ ¬ (j + 1 = 4 ∧ w.category = 2)) := by
  intro j w hj
  rcases j with _ | j
  · exact Or.inr ⟨by omega, by omega, hj, fun q => by omega⟩
  rcases j with _ | j
  · exact Or.inr ⟨by omega, by omega, hj, fun q => by omega⟩
  rcases j with _ | j
  · exact Or.inr ⟨by omega, by omega, hj, fun q => by omega⟩
  rcases j with _ | j
  · exact Or.inr ⟨by omega, by omega, hj, fun q => by
      have hj : a3 = some w := Option.some.inj hj
      rw [hj] at hc
      simp [aa_c1, q.2] at hc⟩
  rcases j with _ | _ | j
  · exact Or.inl ⟨rfl, (Option.some.inj (Option.some.inj hj)).symm⟩
  · cases hj
  · exact Or.inr ⟨by omega, by omega, hj, fun q => by omega⟩
theorem aa_s2_5 {a0 a1 a2 a3 a4 : Option Value} {x0 x1 : Option Value} {v : Value} {tl : aa_L} (hc : aa_c1 a4 = true) : ∀ j w, ((a0 :: a1 :: a2 :: a3 :: a4 :: some v :: none :: tl) : aa_L)[j]? = some (some w) → (j = 5 ∧ w = v) ∨ (j ≠ 5 ∧ j ≠ 5 + 1 ∧ ((a0 :: a1 :: a2 :: a3 :: a4 :: x0 :: x1 :: tl) : aa_L)[j]? = some (some w) ∧ ¬ (j + 1 = 5 ∧ w.category = 2)) := by
  intro j w hj
  rcases j with _ | j
  · exact Or.inr ⟨by omega, by omega, hj, fun q => by omega⟩
  rcases j with _ | j
  · exact Or.inr ⟨by omega, by omega, hj, fun q => by omega⟩
  rcases j with _ | j
  · exact Or.inr ⟨by omega, by omega, hj, fun q => by omega⟩
  rcases j with _ | j
  · exact Or.inr ⟨by omega, by omega, hj, fun q => by omega⟩
  rcases j with _ | j
  · exact Or.inr ⟨by omega, by omega, hj, fun q => by
      have hj : a4 = some w := Option.some.inj hj
      rw [hj] at hc
      simp [aa_c1, q.2] at hc⟩
  rcases j with _ | _ | j
  · exact Or.inl ⟨rfl, (Option.some.inj (Option.some.inj hj)).symm⟩
  · cases hj
  · exact Or.inr ⟨by omega, by omega, hj, fun q => by omega⟩
theorem aa_s2_6 {a0 a1 a2 a3 a4 a5 : Option Value} {x0 x1 : Option Value} {v : Value} {tl : aa_L} (hc : aa_c1 a5 = true) : ∀ j w, ((a0 :: a1 :: a2 :: a3 :: a4 :: a5 :: some v :: none :: tl) : aa_L)[j]? = some (some w) → (j = 6 ∧ w = v) ∨ (j ≠ 6 ∧ j ≠ 6 + 1 ∧ ((a0 :: a1 :: a2 :: a3 :: a4 :: a5 :: x0 :: x1 :: tl) : aa_L)[j]? = some (some w) ∧ ¬ (j + 1 = 6 ∧ w.category = 2)) := by
  intro j w hj
  rcases j with _ | j
  · exact Or.inr ⟨by omega, by omega, hj, fun q => by omega⟩
  rcases j with _ | j
  · exact Or.inr ⟨by omega, by omega, hj, fun q => by omega⟩
  rcases j with _ | j
  · exact Or.inr ⟨by omega, by omega, hj, fun q => by omega⟩
  rcases j with _ | j
  · exact Or.inr ⟨by omega, by omega, hj, fun q => by omega⟩
  rcases j with _ | j
  · exact Or.inr ⟨by omega, by omega, hj, fun q => by omega⟩
  rcases j with _ | j
  · exact Or.inr ⟨by omega, by omega, hj, fun q => by
      have hj : a5 = some w := Option.some.inj hj
      rw [hj] at hc
      simp [aa_c1, q.2] at hc⟩
  rcases j with _ | _ | j
  · exact Or.inl ⟨rfl, (Option.some.inj (Option.some.inj hj)).symm⟩
  · cases hj
  · exact Or.inr ⟨by omega, by omega, hj, fun q => by omega⟩
theorem aa_s2_7 {a0 a1 a2 a3 a4 a5 a6 : Option Value} {x0 x1 : Option Value} {v : Value} {tl : aa_L} (hc : aa_c1 a6 = true) : ∀ j w, ((a0 :: a1 :: a2 :: a3 :: a4 :: a5 :: a6 :: some v :: none :: tl) : aa_L)[j]? = some (some w) → (j = 7 ∧ w = v) ∨ (j ≠ 7 ∧ j ≠ 7 + 1 ∧ ((a0 :: a1 :: a2 :: a3 :: a4 :: a5 :: a6 :: x0 :: x1 :: tl) : aa_L)[j]? = some (some w) ∧ ¬ (j + 1 = 7 ∧ w.category = 2)) := by
  intro j w hj
  rcases j with _ | j
  · exact Or.inr ⟨by omega, by omega, hj, fun q => by omega⟩
  rcases j with _ | j
  · exact Or.inr ⟨by omega, by omega, hj, fun q => by omega⟩
  rcases j with _ | j
  · exact Or.inr ⟨by omega, by omega, hj, fun q => by omega⟩
  rcases j with _ | j
  · exact Or.inr ⟨by omega, by omega, hj, fun q => by omega⟩
  rcases j with _ | j
  · exact Or.inr ⟨by omega, by omega, hj, fun q => by omega⟩
  rcases j with _ | j
  · exact Or.inr ⟨by omega, by omega, hj, fun q => by omega⟩
  rcases j with _ | j
  · exact Or.inr ⟨by omega, by omega, hj, fun q => by
      have hj : a6 = some w := Option.some.inj hj
      rw [hj] at hc
      simp [aa_c1, q.2] at hc⟩
  rcases j with _ | _ | j
  · exact Or.inl ⟨rfl, (Option.some.inj (Option.some.inj hj)).symm⟩
  · cases hj
  · exact Or.inr ⟨by omega, by omega, hj, fun q => by omega⟩
theorem aa_s2_8 {a0 a1 a2 a3 a4 a5 a6 a7 : Option Value} {x0 x1 : Option Value} {v : Value} {tl : aa_L} (hc : aa_c1 a7 = true) : ∀ j w, ((a0 :: a1 :: a2 :: a3 :: a4 :: a5 :: a6 :: a7 :: some v :: none :: tl) : aa_L)[j]? = some (some w) → (j = 8 ∧ w = v) ∨ (j ≠ 8 ∧ j ≠ 8 + 1 ∧ ((a0 :: a1 :: a2 :: a3 :: a4 :: a5 :: a6 :: a7 :: x0 :: x1 :: tl) : aa_L)[j]? = some (some w) ∧ ¬ (j + 1 = 8 ∧ w.category = 2)) := by
  intro j w hj
  rcases j with _ | j
  · exact Or.inr ⟨by omega, by omega, hj, fun q => by omega⟩
  rcases j with _ | j
  · exact Or.inr ⟨by omega, by omega, hj, fun q => by omega⟩
  rcases j with _ | j
  · exact Or.inr ⟨by omega, by omega, hj, fun q => by omega⟩
  rcases j with _ | j
  · exact Or.inr ⟨by omega, by omega, hj, fun q => by omega⟩
  rcases j with _ | j
  · exact Or.inr ⟨by omega, by omega, hj, fun q => by omega⟩
  rcases j with _ | j
  · exact Or.inr ⟨by omega, by omega, hj, fun q => by omega⟩
  rcases j with _ | j
  · exact Or.inr ⟨by omega, by omega, hj, fun q => by omega⟩
  rcases j with _ | j
  · exact Or.inr ⟨by omega, by omega, hj, fun q => by
      have hj : a7 = some w := Option.some.inj hj
      rw [hj] at hc
      simp [aa_c1, q.2] at hc⟩
  rcases j with _ | _ | j
  · exact Or.inl ⟨rfl, (Option.some.inj (Option.some.inj hj)).symm⟩
  · cases hj
  · exact Or.inr ⟨by omega, by omega, hj, fun q => by omega⟩
theorem aa_s2_9 {a0 a1 a2 a3 a4 a5 a6 a7 a8 : Option Value} {x0 x1 : Option Value} {v : Value} {tl : aa_L} (hc : aa_c1 a8 = true) : ∀ j w, ((a0 :: a1 :: a2 :: a3 :: a4 :: a5 :: a6 :: a7 :: a8 :: some v :: none :: tl) : aa_L)[j]? = some (some w) → (j = 9 ∧ w = v) ∨ (j ≠ 9 ∧ j ≠ 9 + 1 ∧ ((a0 :: a1 :: a2 :: a3 :: a4 :: a5 :: a6 :: a7 :: a8 :: x0 :: x1 :: tl) : aa_L)[j]? = some (some w) ∧ ¬ (j + 1 = 9 ∧ w.category = 2)) := by
  intro j w hj
  rcases j with _ | j
  · exact Or.inr ⟨by omega, by omega, hj, fun q => by omega⟩
  rcases j with _ | j
  · exact Or.inr ⟨by omega, by omega, hj, fun q => by omega⟩
  rcases j with _ | j
  · exact Or.inr ⟨by omega, by omega, hj, fun q => by omega⟩
  rcases j with _ | j
  · exact Or.inr ⟨by omega, by omega, hj, fun q => by omega⟩
  rcases j with _ | j
  · exact Or.inr ⟨by omega, by omega, hj, fun q => by omega⟩
  rcases j with _ | j
  · exact Or.inr ⟨by omega, by omega, hj, fun q => by omega⟩
  rcases j with _ | j
  · exact Or.inr ⟨by omega, by omega, hj, fun q => by omega⟩
  rcases j with _ | j
  · exact Or.inr ⟨by omega, by omega, hj, fun q => by omega⟩
  rcases j with _ | j
  · exact Or.inr ⟨by omega, by omega, hj, fun q => by
      have hj : a8 = some w := Option.some.inj hj
      rw [hj] at hc
      simp [aa_c1, q.2] at hc⟩
  rcases j with _ | _ | j
  · exact Or.inl ⟨rfl, (Option.some.inj (Option.some.inj hj)).symm⟩
  · cases hj
  · exact Or.inr ⟨by omega, by omega, hj, fun q => by omega⟩
theorem aa_s2_10 {a0 a1 a2 a3 a4 a5 a6 a7 a8 a9 : Option Value} {x0 x1 : Option Value} {v : Value} {tl : aa_L} (hc : aa_c1 a9 = true) : ∀ j w, ((a0 :: a1 :: a2 :: a3 :: a4 :: a5 :: a6 :: a7 :: a8 :: a9 :: some v :: none :: tl) : aa_L)[j]? = some (some w) → (j = 10 ∧ w = v) ∨ (j ≠ 10 ∧ j ≠ 10 + 1 ∧ ((a0 :: a1 :: a2 :: a3 :: a4 :: a5 :: a6 :: a7 :: a8 :: a9 :: x0 :: x1 :: tl) : aa_L)[j]? = some (some w) ∧ ¬ (j + 1 = 10 ∧ w.category = 2)) := by
  intro j w hj
  rcases j with _ | j
  · exact Or.inr ⟨by omega, by omega, hj, fun q => by omega⟩
  rcases j with _ | j
  · exact Or.inr ⟨by omega, by omega, hj, fun q => by omega⟩
  rcases j with _ | j
  · exact Or.inr ⟨by omega, by omega, hj, fun q => by omega⟩
  rcases j with _ | j
  · exact Or.inr ⟨by omega, by omega, hj, fun q => by omega⟩
  rcases j with _ | j
  · exact Or.inr ⟨by omega, by omega, hj, fun q => by omega⟩
  rcases j with _ | j
  · exact Or.inr ⟨by omega, by omega, hj, fun q => by omega⟩
  rcases j with _ | j
  · exact Or.inr ⟨by omega, by omega, hj, fun q => by omega⟩
  rcases j with _ | j
  · exact Or.inr ⟨by omega, by omega, hj, fun q => by omega⟩
  rcases j with _ | j
  · exact Or.inr ⟨by omega, by omega, hj, fun q => by omega⟩
  rcases j with _ | j
  · exact Or.inr ⟨by omega, by omega, hj, fun q => by
      have hj : a9 = some w := Option.some.inj hj
      rw [hj] at hc
      simp [aa_c1, q.2] at hc⟩
  rcases j with _ | _ | j
  · exact Or.inl ⟨rfl, (Option.some.inj (Option.some.inj hj)).symm⟩
  · cases hj
  · exact Or.inr ⟨by omega, by omega, hj, fun q => by omega⟩
theorem aa_s2_11 {a0 a1 a2 a3 a4 a5 a6 a7 a8 a9 a10 : Option Value} {x0 x1 : Option Value} {v : Value} {tl : aa_L} (hc : aa_c1 a10 = true) : ∀ j w, ((a0 :: a1 :: a2 :: a3 :: a4 :: a5 :: a6 :: a7 :: a8 :: a9 :: a10 :: some v :: none :: tl) : aa_L)[j]? = some (some w) → (j = 11 ∧ w = v) ∨ (j ≠ 11 ∧ j ≠ 11 + 1 ∧ ((a0 :: a1 :: a2 :: a3 :: a4 :: a5 :: a6 :: a7 :: a8 :: a9 :: a10 :: x0 :: x1 :: tl) : aa_L)[j]? = some (some w) ∧ ¬ (j + 1 = 11 ∧ w.category = 2)) := by
  intro j w hj
  rcases j with _ | j
  · exact Or.inr ⟨by omega, by omega, hj, fun q => by omega⟩
  rcases j with _ | j
  · exact Or.inr ⟨by omega, by omega, hj, fun q => by omega⟩
  rcases j with _ | j
  · exact Or.inr ⟨by omega, by omega, hj, fun q => by omega⟩
  rcases j with _ | j
  · exact Or.inr ⟨by omega, by omega, hj, fun q => by omega⟩
  rcases j with _ | j
  · exact Or.inr ⟨by omega, by omega, hj, fun q => by omega⟩
  rcases j with _ | j
  · exact Or.inr ⟨by omega, by omega, hj, fun q => by omega⟩
  rcases j with _ | j
  · exact Or.inr ⟨by omega, by omega, hj, fun q => by omega⟩
  rcases j with _ | j
  · exact Or.inr ⟨by omega, by omega, hj, fun q => by omega⟩
  rcases j with _ | j
  · exact Or.inr ⟨by omega, by omega, hj, fun q => by omega⟩
  rcases j with _ | j
  · exact Or.inr ⟨by omega, by omega, hj, fun q => by omega⟩
  rcases j with _ | j
  · exact Or.inr ⟨by omega, by omega, hj, fun q => by
      have hj : a10 = some w := Option.some.inj hj
      rw [hj] at hc
      simp [aa_c1, q.2] at hc⟩
  rcases j with _ | _ | j
  · exact Or.inl ⟨rfl, (Option.some.inj (Option.some.inj hj)).symm⟩
  · cases hj
  · exact Or.inr ⟨by omega, by omega, hj, fun q => by omega⟩
theorem aa_s2_12 {a0 a1 a2 a3 a4 a5 a6 a7 a8 a9 a10 a11 : Option Value} {x0 x1 : Option Value} {v : Value} {tl : aa_L} (hc : aa_c1 a11 = true) : ∀ j w, ((a0 :: a1 :: a2 :: a3 :: a4 :: a5 :: a6 :: a7 :: a8 :: a9 :: a10 :: a11 :: some v :: none :: tl) : aa_L)[j]? = some (some w) → (j = 12 ∧ w = v) ∨ (j ≠ 12 ∧ j ≠ 12 + 1 ∧ ((a0 :: a1 :: a2 :: a3 :: a4 :: a5 :: a6 :: a7 :: a8 :: a9 :: a10 :: a11 :: x0 :: x1 :: tl) : aa_L)[j]? = some (some w) ∧ ¬ (j + 1 = 12 ∧ w.category = 2)) := by
  intro j w hj
  rcases j with _ | j
  · exact Or.inr ⟨by omega, by omega, hj, fun q => by omega⟩
  rcases j with _ | j
  · exact Or.inr ⟨by omega, by omega, hj, fun q => by omega⟩
  rcases j with _ | j
  · exact Or.inr ⟨by omega, by omega, hj, fun q => by omega⟩
  rcases j with _ | j
  · exact Or.inr ⟨by omega, by omega, hj, fun q => by omega⟩
  rcases j with _ | j
  · exact Or.inr ⟨by omega, by omega, hj, fun q => by omega⟩
  rcases j with _ | j
  · exact Or.inr ⟨by omega, by omega, hj, fun q => by omega⟩
  rcases j with _ | j
  · exact Or.inr ⟨by omega, by omega, hj, fun q => by omega⟩
  rcases j with _ | j
  · exact Or.inr ⟨by omega, by omega, hj, fun q => by omega⟩
  rcases j with _ | j
  · exact Or.inr ⟨by omega, by omega, hj, fun q => by omega⟩
  rcases j with _ | j
  · exact Or.inr ⟨by omega, by omega, hj, fun q => by omega⟩
  rcases j with _ | j
  · exact Or.inr ⟨by omega, by omega, hj, fun q => by omega⟩
  rcases j with _ | j
  · exact Or.inr ⟨by omega, by omega, hj, fun q => by
      have hj : a11 = some w := Option.some.inj hj
      rw [hj] at hc
      simp [aa_c1, q.2] at hc⟩
  rcases j with _ | _ | j
  · exact Or.inl ⟨rfl, (Option.some.inj (Option.some.inj hj)).symm⟩
  · cases hj
  · exact Or.inr ⟨by omega, by omega, hj, fun q => by omega⟩
theorem aa_s2_13 {a0 a1 a2 a3 a4 a5 a6 a7 a8 a9 a10 a11 a12 : Option Value} {x0 x1 : Option Value} {v : Value} {tl : aa_L} (hc : aa_c1 a12 = true) : ∀ j w, ((a0 :: a1 :: a2 :: a3 :: a4 :: a5 :: a6 :: a7 :: a8 :: a9 :: a10 :: a11 :: a12 :: some v :: none :: tl) : aa_L)[j]? = some (some w) → (j = 13 ∧ w = v) ∨ (j ≠ 13 ∧ j ≠ 13 + 1 ∧ ((a0 :: a1 :: a2 :: a3 :: a4 :: a5 :: a6 :: a7 :: a8 :: a9 :: a10 :: a11 :: a12 :: x0 :: x1 :: tl) : aa_L)[j]? = some (some w) ∧ ¬ (j + 1 = 13 ∧ w.category = 2)) := by
  intro j w hj
  rcases j with _ | j
  · exact Or.inr ⟨by omega, by omega, hj, fun q => by omega⟩
  rcases j with _ | j
  · exact Or.inr ⟨by omega, by omega, hj, fun q => by omega⟩
  rcases j with _ | j
  · exact Or.inr ⟨by omega, by omega, hj, fun q => by omega⟩
  rcases j with _ | j
  · exact Or.inr ⟨by omega, by omega, hj, fun q => by omega⟩
  rcases j with _ | j
  · exact Or.inr ⟨by omega, by omega, hj, fun q => by omega⟩
  rcases j with _ | j
  · exact Or.inr ⟨by omega, by omega, hj, fun q => by omega⟩
  rcases j with _ | j
  · exact Or.inr ⟨by omega, by omega, hj, fun q => by omega⟩
  rcases j with _ | j
  · exact Or.inr ⟨by omega, by omega, hj, fun q => by omega⟩
  rcases j with _ | j
  · exact Or.inr ⟨by omega, by omega, hj, fun q => by omega⟩
  rcases j with _ | j
  · exact Or.inr ⟨by omega, by omega, hj, fun q => by omega⟩
  rcases j with _ | j
  · exact Or.inr ⟨by omega, by omega, hj, fun q => by omega⟩
  rcases j with _ | j
  · exact Or.inr ⟨by omega, by omega, hj, fun q => by omega⟩
  rcases j with _ | j
  · exact Or.inr ⟨by omega, by omega, hj, fun q => by
      have hj : a12 = some w := Option.some.inj hj
      rw [hj] at hc
      simp [aa_c1, q.2] at hc⟩
  rcases j with _ | _ | j
  · exact Or.inl ⟨rfl, (Option.some.inj (Option.some.inj hj)).symm⟩
  · cases hj
  · exact Or.inr ⟨by omega, by omega, hj, fun q => by omega⟩
theorem aa_s2_14 {a0 a1 a2 a3 a4 a5 a6 a7 a8 a9 a10 a11 a12 a13 : Option Value} {x0 x1 : Option Value} {v : Value} {tl : aa_L} (hc : aa_c1 a13 = true) : ∀ j w, ((a0 :: a1 :: a2 :: a3 :: a4 :: a5 :: a6 :: a7 :: a8 :: a9 :: a10 :: a11 :: a12 :: a13 :: some v :: none :: tl) : aa_L)[j]? = some (some w) → (j = 14 ∧ w = v) ∨ (j ≠ 14 ∧ j ≠ 14 + 1 ∧ ((a0 :: a1 :: a2 :: a3 :: a4 :: a5 :: a6 :: a7 :: a8 :: a9 :: a10 :: a11 :: a12 :: a13 :: x0 :: x1 :: tl) : aa_L)[j]? = some (some w) ∧ ¬ (j + 1 = 14 ∧ w.category = 2)) := by
  intro j w hj
  rcases j with _ | j
  · exact Or.inr ⟨by omega, by omega, hj, fun q => by omega⟩
  rcases j with _ | j
  · exact Or.inr ⟨by omega, by omega, hj, fun q => by omega⟩
  rcases j with _ | j
  · exact Or.inr ⟨by omega, by omega, hj, fun q => by omega⟩
  rcases j with _ | j
  · exact Or.inr ⟨by omega, by omega, hj, fun q => by omega⟩
  rcases j with _ | j
  · exact Or.inr ⟨by omega, by omega, hj, fun q => by omega⟩
  rcases j with _ | j
  · exact Or.inr ⟨by omega, by omega, hj, fun q => by omega⟩
  rcases j with _ | j
  · exact Or.inr ⟨by omega, by omega, hj, fun q => by omega⟩
  rcases j with _ | j
  · exact Or.inr ⟨by omega, by omega, hj, fun q => by omega⟩
  rcases j with _ | j
  · exact Or.inr ⟨by omega, by omega, hj, fun q => by omega⟩
  rcases j with _ | j
  · exact Or.inr ⟨by omega, by omega, hj, fun q => by omega⟩
  rcases j with _ | j
  · exact Or.inr ⟨by omega, by omega, hj, fun q => by omega⟩
  rcases j with _ | j
  · exact Or.inr ⟨by omega, by omega, hj, fun q => by omega⟩
  rcases j with _ | j
  · exact Or.inr ⟨by omega, by omega, hj, fun q => by omega⟩
  rcases j with _ | j
  · exact Or.inr ⟨by omega, by omega, hj, fun q => by
      have hj : a13 = some w := Option.some.inj hj
      rw [hj] at hc
      simp [aa_c1, q.2] at hc⟩
  rcases j with _ | _ | j
  · exact Or.inl ⟨rfl, (Option.some.inj (Option.some.inj hj)).symm⟩
  · cases hj
  · exact Or.inr ⟨by omega, by omega, hj, fun q => by omega⟩
theorem aa_s2_15 {a0 a1 a2 a3 a4 a5 a6 a7 a8 a9 a10 a11 a12 a13 a14 : Option Value} {x0 x1 : Option Value} {v : Value} {tl : aa_L} (hc : aa_c1 a14 = true) : ∀ j w, ((a0 :: a1 :: a2 :: a3 :: a4 :: a5 :: a6 :: a7 :: a8 :: a9 :: a10 :: a11 :: a12 :: a13 :: a14 :: some v :: none :: tl) : aa_L)[j]? = some (some w) → (j = 15 ∧ w = v) ∨ (j ≠ 15 ∧ j ≠ 15 + 1 ∧ ((a0 :: a1 :: a2 :: a3 :: a4 :: a5 :: a6 :: a7 :: a8 :: a9 :: a10 :: a11 :: a12 :: a13 :: a14 :: x0 :: x1 :: tl) : aa_L)[j]? = some (some w) ∧ ¬ (j + 1 = 15 ∧ w.category = 2)) := by
  intro j w hj
  rcases j with _ | j
  · exact Or.inr ⟨by omega, by omega, hj, fun q => by omega⟩
  rcases j with _ | j
  · exact Or.inr ⟨by omega, by omega, hj, fun q => by omega⟩
  rcases j with _ | j
  · exact Or.inr ⟨by omega, by omega, hj, fun q => by omega⟩
  rcases j with _ | j
  · exact Or.inr ⟨by omega, by omega, hj, fun q => by omega⟩
  rcases j with _ | j
  · exact Or.inr ⟨by omega, by omega, hj, fun q => by omega⟩
  rcases j with _ | j
  · exact Or.inr ⟨by omega, by omega, hj, fun q => by omega⟩
  rcases j with _ | j
  · exact Or.inr ⟨by omega, by omega, hj, fun q => by omega⟩
  rcases j with _ | j
  · exact Or.inr ⟨by omega, by omega, hj, fun q => by omega⟩
  rcases j with _ | j
  · exact Or.inr ⟨by omega, by omega, hj, fun q => by omega⟩
  rcases j with _ | j
  · exact Or.inr ⟨by omega, by omega, hj, fun q => by omega⟩
  rcases j with _ | j
  · exact Or.inr ⟨by omega, by omega, hj, fun q => by omega⟩
  rcases j with _ | j
  · exact Or.inr ⟨by omega, by omega, hj, fun q => by omega⟩
  rcases j with _ | j
  · exact Or.inr ⟨by omega, by omega, hj, fun q => by omega⟩
  rcases j with _ | j
  · exact Or.inr ⟨by omega, by omega, hj, fun q => by omega⟩
  rcases j with _ | j
  · exact Or.inr ⟨by omega, by omega, hj, fun q => by
      have hj : a14 = some w := Option.some.inj hj
      rw [hj] at hc
      simp [aa_c1, q.2] at hc⟩
  rcases j with _ | _ | j
  · exact Or.inl ⟨rfl, (Option.some.inj (Option.some.inj hj)).symm⟩
  · cases hj
  · exact Or.inr ⟨by omega, by omega, hj, fun q => by omega⟩
theorem aa_s2_16 {a0 a1 a2 a3 a4 a5 a6 a7 a8 a9 a10 a11 a12 a13 a14 a15 : Option Value} {x0 x1 : Option Value} {v : Value} {tl : aa_L} (hc : aa_c1 a15 = true) : ∀ j w, ((a0 :: a1 :: a2 :: a3 :: a4 :: a5 :: a6 :: a7 :: a8 :: a9 :: a10 :: a11 :: a12 :: a13 :: a14 :: a15 :: some v :: none :: tl) : aa_L)[j]? = some (some w) → (j = 16 ∧ w = v) ∨ (j ≠ 16 ∧ j ≠ 16 + 1 ∧ ((a0 :: a1 :: a2 :: a3 :: a4 :: a5 :: a6 :: a7 :: a8 :: a9 :: a10 :: a11 :: a12 :: a13 :: a14 :: a15 :: x0 :: x1 :: tl) : aa_L)[j]? = some (some w) ∧ ¬ (j + 1 = 16 ∧ w.category = 2)) := by
  intro j w hj
  rcases j with _ | j
  · exact Or.inr ⟨by omega, by omega, hj, fun q => by omega⟩
  rcases j with _ | j
  · exact Or.inr ⟨by omega, by omega, hj, fun q => by omega⟩
  rcases j with _ | j
  · exact Or.inr ⟨by omega, by omega, hj, fun q => by omega⟩
  rcases j with _ | j
  · exact Or.inr ⟨by omega, by omega, hj, fun q => by omega⟩
  rcases j with _ | j
  · exact Or.inr ⟨by omega, by omega, hj, fun q => by omega⟩
  rcases j with _ | j
  · exact Or.inr ⟨by omega, by omega, hj, fun q => by omega⟩
  rcases j with _ | j
  · exact Or.inr ⟨by omega, by omega, hj, fun q => by omega⟩
  rcases j with _ | j
  · exact Or.inr ⟨by omega, by omega, hj, fun q => by omega⟩
  rcases j with _ | j
  · exact Or.inr ⟨by omega, by omega, hj, fun q => by omega⟩
  rcases j with _ | j
  · exact Or.inr ⟨by omega, by omega, hj, fun q => by omega⟩
  rcases j with _ | j
  · exact Or.inr ⟨by omega, by omega, hj, fun q => by omega⟩
  rcases j with _ | j
  · exact Or.inr ⟨by omega, by omega, hj, fun q => by omega⟩
  rcases j with _ | j
  · exact Or.inr ⟨by omega, by omega, hj, fun q => by omega⟩
  rcases j with _ | j
  · exact Or.inr ⟨by omega, by omega, hj, fun q => by omega⟩
  rcases j with _ | j
  · exact Or.inr ⟨by omega, by omega, hj, fun q => by omega⟩
  rcases j with _ | j
  · exact Or.inr ⟨by omega, by omega, hj, fun q => by
      have hj : a15 = some w := Option.some.inj hj
      rw [hj] at hc
      simp [aa_c1, q.2] at hc⟩
  rcases j with _ | _ | j
  · exact Or.inl ⟨rfl, (Option.some.inj (Option.some.inj hj)).symm⟩
  · cases hj
  · exact Or.inr ⟨by omega, by omega, hj, fun q => by omega⟩
theorem aa_s2_17 {a0 a1 a2 a3 a4 a5 a6 a7 a8 a9 a10 a11 a12 a13 a14 a15 a16 : Option Value} {x0 x1 : Option Value} {v : Value} {tl : aa_L} (hc : aa_c1 a16 = true) : ∀ j w, ((a0 :: a1 :: a2 :: a3 :: a4 :: a5 :: a6 :: a7 :: a8 :: a9 :: a10 :: a11 :: a12 :: a13 :: a14 :: a15 :: a16 :: some v :: none :: tl) : aa_L)[j]? = some (some w) → (j = 17 ∧ w = v) ∨ (j ≠ 17 ∧ j ≠ 17 + 1 ∧ ((a0 :: a1 :: a2 :: a3 :: a4 :: a5 :: a6 :: a7 :: a8 :: a9 :: a10 :: a11 :: a12 :: a13 :: a14 :: a15 :: a16 :: x0 :: x1 :: tl) : aa_L)[j]? = some (some w) ∧ ¬ (j + 1 = 17 ∧ w.category = 2)) := by
  intro j w hj
  rcases j with _ | j
  · exact Or.inr ⟨by omega, by omega, hj, fun q => by omega⟩
  rcases j with _ | j
  · exact Or.inr ⟨by omega, by omega, hj, fun q => by omega⟩
  rcases j with _ | j
  · exact Or.inr ⟨by omega, by omega, hj, fun q => by omega⟩
  rcases j with _ | j
  · exact Or.inr ⟨by omega, by omega, hj, fun q => by omega⟩
  rcases j with _ | j
  · exact Or.inr ⟨by omega, by omega, hj, fun q => by omega⟩
  rcases j with _ | j
  · exact Or.inr ⟨by omega, by omega, hj, fun q => by omega⟩
  rcases j with _ | j
  · exact Or.inr ⟨by omega, by omega, hj, fun q => by omega⟩
  rcases j with _ | j
  · exact Or.inr ⟨by omega, by omega, hj, fun q => by omega⟩
  rcases j with _ | j
  · exact Or.inr ⟨by omega, by omega, hj, fun q => by omega⟩
  rcases j with _ | j
  · exact Or.inr ⟨by omega, by omega, hj, fun q => by omega⟩
  rcases j with _ | j
  · exact Or.inr ⟨by omega, by omega, hj, fun q => by omega⟩
  rcases j with _ | j
  · exact Or.inr ⟨by omega, by omega, hj, fun q => by omega⟩
  rcases j with _ | j
  · exact Or.inr ⟨by omega, by omega, hj, fun q => by omega⟩
  rcases j with _ | j
  · exact Or.inr ⟨by omega, by omega, hj, fun q => by omega⟩
  rcases j with _ | j
  · exact Or.inr ⟨by omega, by omega, hj, fun q => by omega⟩
  rcases j with _ | j
  · exact Or.inr ⟨by omega, by omega, hj, fun q => by omega⟩
  rcases j with _ | j
  · exact Or.inr ⟨by omega, by omega, hj, fun q => by
      have hj : a16 = some w := Option.some.inj hj
      rw [hj] at hc
      simp [aa_c1, q.2] at hc⟩
  rcases j with _ | _ | j
  · exact Or.inl ⟨rfl, (Option.some.inj (Option.some.inj hj)).symm⟩
  · cases hj
  · exact Or.inr ⟨by omega, by omega, hj, fun q => by omega⟩
theorem aa_s2_18 {a0 a1 a2 a3 a4 a5 a6 a7 a8 a9 a10 a11 a12 a13 a14 a15 a16 a17 : Option Value} {x0 x1 : Option Value} {v : Value} {tl : aa_L} (hc : aa_c1 a17 = true) : ∀ j w, ((a0 :: a1 :: a2 :: a3 :: a4 :: a5 :: a6 :: a7 :: a8 :: a9 :: a10 :: a11 :: a12 :: a13 :: a14 :: a15 :: a16 :: a17 :: some v :: none :: tl) : aa_L)[j]? = some (some w) → (j = 18 ∧ w = v) ∨ (j ≠ 18 ∧ j ≠ 18 + 1 ∧ ((a0 :: a1 :: a2 :: a3 :: a4 :: a5 :: a6 :: a7 :: a8 :: a9 :: a10 :: a11 :: a12 :: a13 :: a14 :: a15 :: a16 :: a17 :: x0 :: x1 :: tl) : aa_L)[j]? = some (some w) ∧ ¬ (j + 1 = 18 ∧ w.category = 2)) := by
  intro j w hj
  rcases j with _ | j
  · exact Or.inr ⟨by omega, by omega, hj, fun q => by omega⟩
  rcases j with _ | j
  · exact Or.inr ⟨by omega, by omega, hj, fun q => by omega⟩
  rcases j with _ | j
  · exact Or.inr ⟨by omega, by omega, hj, fun q => by omega⟩
  rcases j with _ | j
  · exact Or.inr ⟨by omega, by omega, hj, fun q => by omega⟩
  rcases j with _ | j
  · exact Or.inr ⟨by omega, by omega, hj, fun q => by omega⟩
  rcases j with _ | j
  · exact Or.inr ⟨by omega, by omega, hj, fun q => by omega⟩
  rcases j with _ | j
  · exact Or.inr ⟨by omega, by omega, hj, fun q => by omega⟩
  rcases j with _ | j
  · exact Or.inr ⟨by omega, by omega, hj, fun q => by omega⟩
  rcases j with _ | j
  · exact Or.inr ⟨by omega, by omega, hj, fun q => by omega⟩
  rcases j with _ | j
  · exact Or.inr ⟨by omega, by omega, hj, fun q => by omega⟩
  rcases j with _ | j
  · exact Or.inr ⟨by omega, by omega, hj, fun q => by omega⟩
  rcases j with _ | j
  · exact Or.inr ⟨by omega, by omega, hj, fun q => by omega⟩
  rcases j with _ | j
  · exact Or.inr ⟨by omega, by omega, hj, fun q => by omega⟩
  rcases j with _ | j
  · exact Or.inr ⟨by omega, by omega, hj, fun q => by omega⟩
  rcases j with _ | j
  · exact Or.inr ⟨by omega, by omega, hj, fun q => by omega⟩
  rcases j with _ | j
  · exact Or.inr ⟨by omega, by omega, hj, fun q => by omega⟩
  rcases j with _ | j
  · exact Or.inr ⟨by omega, by omega, hj, fun q => by omega⟩
  rcases j with _ | j
  · exact Or.inr ⟨by omega, by omega, hj, fun q => by
      have hj : a17 = some w := Option.some.inj hj
      rw [hj] at hc
      simp [aa_c1, q.2] at hc⟩
  rcases j with _ | _ | j
  · exact Or.inl ⟨rfl, (Option.some.inj (Option.some.inj hj)).symm⟩
  · cases hj
  · exact Or.inr ⟨by omega, by omega, hj, fun q => by omega⟩
theorem aa_s2_19 {a0 a1 a2 a3 a4 a5 a6 a7 a8 a9 a10 a11 a12 a13 a14 a15 a16 a17 a18 : Option Value} {x0 x1 : Option Value} {v : Value} {tl : aa_L} (hc : aa_c1 a18 = true) : ∀ j w, ((a0 :: a1 :: a2 :: a3 :: a4 :: a5 :: a6 :: a7 :: a8 :: a9 :: a10 :: a11 :: a12 :: a13 :: a14 :: a15 :: a16 :: a17 :: a18 :: some v :: none :: tl) : aa_L)[j]? = some (some w) → (j = 19 ∧ w = v) ∨ (j ≠ 19 ∧ j ≠ 19 + 1 ∧ ((a0 :: a1 :: a2 :: a3 :: a4 :: a5 :: a6 :: a7 :: a8 :: a9 :: a10 :: a11 :: a12 :: a13 :: a14 :: a15 :: a16 :: a17 :: a18 :: x0 :: x1 :: tl) : aa_L)[j]? = some (some w) ∧ ¬ (j + 1 = 19 ∧ w.category = 2)) := by
  intro j w hj
  rcases j with _ | j
  · exact Or.inr ⟨by omega, by omega, hj, fun q => by omega⟩
  rcases j with _ | j
  · exact Or.inr ⟨by omega, by omega, hj, fun q => by omega⟩
  rcases j with _ | j
  · exact Or.inr ⟨by omega, by omega, hj, fun q => by omega⟩
  rcases j with _ | j
  · exact Or.inr ⟨by omega, by omega, hj, fun q => by omega⟩
  rcases j with _ | j
  · exact Or.inr ⟨by omega, by omega, hj, fun q => by omega⟩
  rcases j with _ | j
  · exact Or.inr ⟨by omega, by omega, hj, fun q => by omega⟩
  rcases j with _ | j
  · exact Or.inr ⟨by omega, by omega, hj, fun q => by omega⟩
  rcases j with _ | j
  · exact Or.inr ⟨by omega, by omega, hj, fun q => by omega⟩
  rcases j with _ | j
  · exact Or.inr ⟨by omega, by omega, hj, fun q => by omega⟩
  rcases j with _ | j
  · exact Or.inr ⟨by omega, by omega, hj, fun q => by omega⟩
  rcases j with _ | j
  · exact Or.inr ⟨by omega, by omega, hj, fun q => by omega⟩
  rcases j with _ | j
  · exact Or.inr ⟨by omega, by omega, hj, fun q => by omega⟩
  rcases j with _ | j
  · exact Or.inr ⟨by omega, by omega, hj, fun q => by omega⟩
  rcases j with _ | j
  · exact Or.inr ⟨by omega, by omega, hj, fun q => by omega⟩
  rcases j with _ | j
  · exact Or.inr ⟨by omega, by omega, hj, fun q => by omega⟩
  rcases j with _ | j
  · exact Or.inr ⟨by omega, by omega, hj, fun q => by omega⟩
  rcases j with _ | j
  · exact Or.inr ⟨by omega, by omega, hj, fun q => by omega⟩
  rcases j with _ | j
  · exact Or.inr ⟨by omega, by omega, hj, fun q => by omega⟩
  rcases j with _ | j
  · exact Or.inr ⟨by omega, by omega, hj, fun q => by
      have hj : a18 = some w := Option.some.inj hj
      rw [hj] at hc
      simp [aa_c1, q.2] at hc⟩
  rcases j with _ | _ | j
  · exact Or.inl ⟨rfl, (Option.some.inj (Option.some.inj hj)).symm⟩
  · cases hj
  · exact Or.inr ⟨by omega, by omega, hj, fun q => by omega⟩
theorem aa_istore0 {x0 : Option Value} {x : Int32} (h : aa_At M pc (.istore_n 0) 1 pn) (hn : 0 < M.2.2.1) : aa_Go M d pc (x0 :: tl) (.int x :: st) σ pn (some (.int x) :: tl) st σ := ⟨Nat.le_refl _, Nat.le_refl _, fun p l e R s m args below meth c D cA b z c0 s0 Q ok _ _ _ _ K H locs lsA hP hz hS hl => by
  refine lv_istore_n ok.1 ok.2.1 h.1 rfl hl hn rfl (fun ls1 hl1 => ?_)
  have K1 := K H locs ls1 hP hz hS (aa_lv_set1 (v := .int x) hl1 (aa_s1_0 (x0 := x0) ))
  rw [← h.2] at K1
  exact K1⟩
theorem aa_iinc0 {x v : Int32} {k : Int} (h : aa_At M pc (.iinc 0 k) 3 pn) (hv : x + Int32.ofInt k = v) (hn : 0 < M.2.2.1) : aa_Go M d pc (some (.int x) :: tl) st σ pn (some (.int v) :: tl) st σ := ⟨Nat.le_refl _, Nat.le_refl _, fun p l e R s m args below meth c D cA b z c0 s0 Q ok _ _ _ _ K H locs lsA hP hz hS hl => by
  obtain ⟨k1, hk1⟩ : ∃ k1, (aa_al b z 0 (some (Value.int x) :: tl))[k1]? = some (0, Value.int x) := List.getElem?_of_mem ((aa_al_mem _ 0).mpr ⟨0, Value.int x, rfl, rfl⟩)
  refine lv_iinc ok.1 ok.2.1 h.1 hl hk1 hv hn rfl (fun ls1 hl1 => ?_)
  have K1 := K H locs ls1 hP hz hS (aa_lv_set1 (v := .int v) hl1 (aa_s1_0 (x0 := some (.int x)) ))
  rw [← h.2] at K1
  exact K1⟩
theorem aa_istore1 {a0 : Option Value} {x0 : Option Value} {x : Int32} (h : aa_At M pc (.istore_n 1) 1 pn) (hc : aa_c1 a0 = true) (hn : 1 < M.2.2.1) : aa_Go M d pc (a0 :: x0 :: tl) (.int x :: st) σ pn (a0 :: some (.int x) :: tl) st σ := ⟨Nat.le_refl _, Nat.le_refl _, fun p l e R s m args below meth c D cA b z c0 s0 Q ok _ _ _ _ K H locs lsA hP hz hS hl => by
  refine lv_istore_n ok.1 ok.2.1 h.1 rfl hl hn rfl (fun ls1 hl1 => ?_)
  have K1 := K H locs ls1 hP hz hS (aa_lv_set1 (v := .int x) hl1 (aa_s1_1 (x0 := x0) hc))
  rw [← h.2] at K1
  exact K1⟩
theorem aa_iinc1 {a0 : Option Value} {x v : Int32} {k : Int} (h : aa_At M pc (.iinc 1 k) 3 pn) (hv : x + Int32.ofInt k = v) (hc : aa_c1 a0 = true) (hn : 1 < M.2.2.1) : aa_Go M d pc (a0 :: some (.int x) :: tl) st σ pn (a0 :: some (.int v) :: tl) st σ := ⟨Nat.le_refl _, Nat.le_refl _, fun p l e R s m args below meth c D cA b z c0 s0 Q ok _ _ _ _ K H locs lsA hP hz hS hl => by
  obtain ⟨k1, hk1⟩ : ∃ k1, (aa_al b z 0 (a0 :: some (Value.int x) :: tl))[k1]? = some (1, Value.int x) := List.getElem?_of_mem ((aa_al_mem _ 0).mpr ⟨1, Value.int x, rfl, rfl⟩)
  refine lv_iinc ok.1 ok.2.1 h.1 hl hk1 hv hn rfl (fun ls1 hl1 => ?_)
  have K1 := K H locs ls1 hP hz hS (aa_lv_set1 (v := .int v) hl1 (aa_s1_1 (x0 := some (.int x)) hc))
  rw [← h.2] at K1
  exact K1⟩
theorem aa_istore2 {a0 a1 : Option Value} {x0 : Option Value} {x : Int32} (h : aa_At M pc (.istore_n 2) 1 pn) (hc : aa_c1 a1 = true) (hn : 2 < M.2.2.1) : aa_Go M d pc (a0 :: a1 :: x0 :: tl) (.int x :: st) σ pn (a0 :: a1 :: some (.int x) :: tl) st σ := ⟨Nat.le_refl _, Nat.le_refl _, fun p l e R s m args below meth c D cA b z c0 s0 Q ok _ _ _ _ K H locs lsA hP hz hS hl => by
  refine lv_istore_n ok.1 ok.2.1 h.1 rfl hl hn rfl (fun ls1 hl1 => ?_)
  have K1 := K H locs ls1 hP hz hS (aa_lv_set1 (v := .int x) hl1 (aa_s1_2 (x0 := x0) hc))
  rw [← h.2] at K1
  exact K1⟩
theorem aa_iinc2 {a0 a1 : Option Value} {x v : Int32} {k : Int} (h : aa_At M pc (.iinc 2 k) 3 pn) (hv : x + Int32.ofInt k = v) (hc : aa_c1 a1 = true) (hn : 2 < M.2.2.1) : aa_Go M d pc (a0 :: a1 :: some (.int x) :: tl) st σ pn (a0 :: a1 :: some (.int v) :: tl) st σ := ⟨Nat.le_refl _, Nat.le_refl _, fun p l e R s m args below meth c D cA b z c0 s0 Q ok _ _ _ _ K H locs lsA hP hz hS hl => by
  obtain ⟨k1, hk1⟩ : ∃ k1, (aa_al b z 0 (a0 :: a1 :: some (Value.int x) :: tl))[k1]? = some (2, Value.int x) := List.getElem?_of_mem ((aa_al_mem _ 0).mpr ⟨2, Value.int x, rfl, rfl⟩)
  refine lv_iinc ok.1 ok.2.1 h.1 hl hk1 hv hn rfl (fun ls1 hl1 => ?_)
  have K1 := K H locs ls1 hP hz hS (aa_lv_set1 (v := .int v) hl1 (aa_s1_2 (x0 := some (.int x)) hc))
  rw [← h.2] at K1
  exact K1⟩
theorem aa_istore3 {a0 a1 a2 : Option Value} {x0 : Option Value} {x : Int32} (h : aa_At M pc (.istore_n 3) 1 pn) (hc : aa_c1 a2 = true) (hn : 3 < M.2.2.1) : aa_Go M d pc (a0 :: a1 :: a2 :: x0 :: tl) (.int x :: st) σ pn (a0 :: a1 :: a2 :: some (.int x) :: tl) st σ := ⟨Nat.le_refl _, Nat.le_refl _, fun p l e R s m args below meth c D cA b z c0 s0 Q ok _ _ _ _ K H locs lsA hP hz hS hl => by
  refine lv_istore_n ok.1 ok.2.1 h.1 rfl hl hn rfl (fun ls1 hl1 => ?_)
  have K1 := K H locs ls1 hP hz hS (aa_lv_set1 (v := .int x) hl1 (aa_s1_3 (x0 := x0) hc))
  rw [← h.2] at K1
  exact K1⟩
theorem aa_iinc3 {a0 a1 a2 : Option Value} {x v : Int32} {k : Int} (h : aa_At M pc (.iinc 3 k) 3 pn) (hv : x + Int32.ofInt k = v) (hc : aa_c1 a2 = true) (hn : 3 < M.2.2.1) : aa_Go M d pc (a0 :: a1 :: a2 :: some (.int x) :: tl) st σ pn (a0 :: a1 :: a2 :: some (.int v) :: tl) st σ := ⟨Nat.le_refl _, Nat.le_refl _, fun p l e R s m args below meth c D cA b z c0 s0 Q ok _ _ _ _ K H locs lsA hP hz hS hl => by
  obtain ⟨k1, hk1⟩ : ∃ k1, (aa_al b z 0 (a0 :: a1 :: a2 :: some (Value.int x) :: tl))[k1]? = some (3, Value.int x) := List.getElem?_of_mem ((aa_al_mem _ 0).mpr ⟨3, Value.int x, rfl, rfl⟩)
  refine lv_iinc ok.1 ok.2.1 h.1 hl hk1 hv hn rfl (fun ls1 hl1 => ?_)
  have K1 := K H locs ls1 hP hz hS (aa_lv_set1 (v := .int v) hl1 (aa_s1_3 (x0 := some (.int x)) hc))
  rw [← h.2] at K1
  exact K1⟩
theorem aa_istore4 {a0 a1 a2 a3 : Option Value} {x0 : Option Value} {x : Int32} (h : aa_At M pc (.istore 4) 2 pn) (hc : aa_c1 a3 = true) (hn : 4 < M.2.2.1) : aa_Go M d pc (a0 :: a1 :: a2 :: a3 :: x0 :: tl) (.int x :: st) σ pn (a0 :: a1 :: a2 :: a3 :: some (.int x) :: tl) st σ := ⟨Nat.le_refl _, Nat.le_refl _, fun p l e R s m args below meth c D cA b z c0 s0 Q ok _ _ _ _ K H locs lsA hP hz hS hl => by
  refine lv_istore ok.1 ok.2.1 h.1 hl hn rfl (fun ls1 hl1 => ?_)
  have K1 := K H locs ls1 hP hz hS (aa_lv_set1 (v := .int x) hl1 (aa_s1_4 (x0 := x0) hc))
  rw [← h.2] at K1
  exact K1⟩
theorem aa_iinc4 {a0 a1 a2 a3 : Option Value} {x v : Int32} {k : Int} (h : aa_At M pc (.iinc 4 k) 3 pn) (hv : x + Int32.ofInt k = v) (hc : aa_c1 a3 = true) (hn : 4 < M.2.2.1) : aa_Go M d pc (a0 :: a1 :: a2 :: a3 :: some (.int x) :: tl) st σ pn (a0 :: a1 :: a2 :: a3 :: some (.int v) :: tl) st σ := ⟨Nat.le_refl _, Nat.le_refl _, fun p l e R s m args below meth c D cA b z c0 s0 Q ok _ _ _ _ K H locs lsA hP hz hS hl => by
  obtain ⟨k1, hk1⟩ : ∃ k1, (aa_al b z 0 (a0 :: a1 :: a2 :: a3 :: some (Value.int x) :: tl))[k1]? = some (4, Value.int x) := List.getElem?_of_mem ((aa_al_mem _ 0).mpr ⟨4, Value.int x, rfl, rfl⟩)
  refine lv_iinc ok.1 ok.2.1 h.1 hl hk1 hv hn rfl (fun ls1 hl1 => ?_)
  have K1 := K H locs ls1 hP hz hS (aa_lv_set1 (v := .int v) hl1 (aa_s1_4 (x0 := some (.int x)) hc))
  rw [← h.2] at K1
  exact K1⟩
theorem aa_istore5 {a0 a1 a2 a3 a4 : Option Value} {x0 : Option Value} {x : Int32} (h : aa_At M pc (.istore 5) 2 pn) (hc : aa_c1 a4 = true) (hn : 5 < M.2.2.1) : aa_Go M d pc (a0 :: a1 :: a2 :: a3 :: a4 :: x0 :: tl) (.int x :: st) σ pn (a0 :: a1 :: a2 :: a3 :: a4 :: some (.int x) :: tl) st σ := ⟨Nat.le_refl _, Nat.le_refl _, fun p l e R s m args below meth c D cA b z c0 s0 Q ok _ _ _ _ K H locs lsA hP hz hS hl => by
  refine lv_istore ok.1 ok.2.1 h.1 hl hn rfl (fun ls1 hl1 => ?_)
  have K1 := K H locs ls1 hP hz hS (aa_lv_set1 (v := .int x) hl1 (aa_s1_5 (x0 := x0) hc))
  rw [← h.2] at K1
  exact K1⟩
theorem aa_iinc5 {a0 a1 a2 a3 a4 : Option Value} {x v : Int32} {k : Int} (h : aa_At M pc (.iinc 5 k) 3 pn) (hv : x + Int32.ofInt k = v) (hc : aa_c1 a4 = true) (hn : 5 < M.2.2.1) : aa_Go M d pc (a0 :: a1 :: a2 :: a3 :: a4 :: some (.int x) :: tl) st σ pn (a0 :: a1 :: a2 :: a3 :: a4 :: some (.int v) :: tl) st σ := ⟨Nat.le_refl _, Nat.le_refl _, fun p l e R s m args below meth c D cA b z c0 s0 Q ok _ _ _ _ K H locs lsA hP hz hS hl => by
  obtain ⟨k1, hk1⟩ : ∃ k1, (aa_al b z 0 (a0 :: a1 :: a2 :: a3 :: a4 :: some (Value.int x) :: tl))[k1]? = some (5, Value.int x) := List.getElem?_of_mem ((aa_al_mem _ 0).mpr ⟨5, Value.int x, rfl, rfl⟩)
  refine lv_iinc ok.1 ok.2.1 h.1 hl hk1 hv hn rfl (fun ls1 hl1 => ?_)
  have K1 := K H locs ls1 hP hz hS (aa_lv_set1 (v := .int v) hl1 (aa_s1_5 (x0 := some (.int x)) hc))
  rw [← h.2] at K1
  exact K1⟩
theorem aa_istore6 {a0 a1 a2 a3 a4 a5 : Option Value} {x0 : Option Value} {x : Int32} (h : aa_At M pc (.istore 6) 2 pn) (hc : aa_c1 a5 = true) (hn : 6 < M.2.2.1) : aa_Go M d pc (a0 :: a1 :: a2 :: a3 :: a4 :: a5 :: x0 :: tl) (.int x :: st) σ pn (a0 :: a1 :: a2 :: a3 :: a4 :: a5 :: some (.int x) :: tl) st σ := ⟨Nat.le_refl _, Nat.le_refl _, fun p l e R s m args below meth c D cA b z c0 s0 Q ok _ _ _ _ K H locs lsA hP hz hS hl => by
  refine lv_istore ok.1 ok.2.1 h.1 hl hn rfl (fun ls1 hl1 => ?_)
  have K1 := K H locs ls1 hP hz hS (aa_lv_set1 (v := .int x) hl1 (aa_s1_6 (x0 := x0) hc))
  rw [← h.2] at K1
  exact K1⟩
theorem aa_iinc6 {a0 a1 a2 a3 a4 a5 : Option Value} {x v : Int32} {k : Int} (h : aa_At M pc (.iinc 6 k) 3 pn) (hv : x + Int32.ofInt k = v) (hc : aa_c1 a5 = true) (hn : 6 < M.2.2.1) : aa_Go M d pc (a0 :: a1 :: a2 :: a3 :: a4 :: a5 :: some (.int x) :: tl) st σ pn (a0 :: a1 :: a2 :: a3 :: a4 :: a5 :: some (.int v) :: tl) st σ := ⟨Nat.le_refl _, Nat.le_refl _, fun p l e R s m args below meth c D cA b z c0 s0 Q ok _ _ _ _ K H locs lsA hP hz hS hl => by
  obtain ⟨k1, hk1⟩ : ∃ k1, (aa_al b z 0 (a0 :: a1 :: a2 :: a3 :: a4 :: a5 :: some (Value.int x) :: tl))[k1]? = some (6, Value.int x) := List.getElem?_of_mem ((aa_al_mem _ 0).mpr ⟨6, Value.int x, rfl, rfl⟩)
  refine lv_iinc ok.1 ok.2.1 h.1 hl hk1 hv hn rfl (fun ls1 hl1 => ?_)
  have K1 := K H locs ls1 hP hz hS (aa_lv_set1 (v := .int v) hl1 (aa_s1_6 (x0 := some (.int x)) hc))
  rw [← h.2] at K1
  exact K1⟩
theorem aa_istore7 {a0 a1 a2 a3 a4 a5 a6 : Option Value} {x0 : Option Value} {x : Int32} (h : aa_At M pc (.istore 7) 2 pn) (hc : aa_c1 a6 = true) (hn : 7 < M.2.2.1) : aa_Go M d pc (a0 :: a1 :: a2 :: a3 :: a4 :: a5 :: a6 :: x0 :: tl) (.int x :: st) σ pn (a0 :: a1 :: a2 :: a3 :: a4 :: a5 :: a6 :: some (.int x) :: tl) st σ := ⟨Nat.le_refl _, Nat.le_refl _, fun p l e R s m args below meth c D cA b z c0 s0 Q ok _ _ _ _ K H locs lsA hP hz hS hl => by
  refine lv_istore ok.1 ok.2.1 h.1 hl hn rfl (fun ls1 hl1 => ?_)
  have K1 := K H locs ls1 hP hz hS (aa_lv_set1 (v := .int x) hl1 (aa_s1_7 (x0 := x0) hc))
  rw [← h.2] at K1
  exact K1⟩
theorem aa_iinc7 {a0 a1 a2 a3 a4 a5 a6 : Option Value} {x v : Int32} {k : Int} (h : aa_At M pc (.iinc 7 k) 3 pn) (hv : x + Int32.ofInt k = v) (hc : aa_c1 a6 = true) (hn : 7 < M.2.2.1) : aa_Go M d pc (a0 :: a1 :: a2 :: a3 :: a4 :: a5 :: a6 :: some (.int x) :: tl) st σ pn (a0 :: a1 :: a2 :: a3 :: a4 :: a5 :: a6 :: some (.int v) :: tl) st σ := ⟨Nat.le_refl _, Nat.le_refl _, fun p l e R s m args below meth c D cA b z c0 s0 Q ok _ _ _ _ K H locs lsA hP hz hS hl => by
  obtain ⟨k1, hk1⟩ : ∃ k1, (aa_al b z 0 (a0 :: a1 :: a2 :: a3 :: a4 :: a5 :: a6 :: some (Value.int x) :: tl))[k1]? = some (7, Value.int x) := List.getElem?_of_mem ((aa_al_mem _ 0).mpr ⟨7, Value.int x, rfl, rfl⟩)
  refine lv_iinc ok.1 ok.2.1 h.1 hl hk1 hv hn rfl (fun ls1 hl1 => ?_)
  have K1 := K H locs ls1 hP hz hS (aa_lv_set1 (v := .int v) hl1 (aa_s1_7 (x0 := some (.int x)) hc))
  rw [← h.2] at K1
  exact K1⟩
theorem aa_istore8 {a0 a1 a2 a3 a4 a5 a6 a7 : Option Value} {x0 : Option Value} {x : Int32} (h : aa_At M pc (.istore 8) 2 pn) (hc : aa_c1 a7 = true) (hn : 8 < M.2.2.1) : aa_Go M d pc (a0 :: a1 :: a2 :: a3 :: a4 :: a5 :: a6 :: a7 :: x0 :: tl) (.int x :: st) σ pn (a0 :: a1 :: a2 :: a3 :: a4 :: a5 :: a6 :: a7 :: some (.int x) :: tl) st σ := ⟨Nat.le_refl _, Nat.le_refl _, fun p l e R s m args below meth c D cA b z c0 s0 Q ok _ _ _ _ K H locs lsA hP hz hS hl => by
  refine lv_istore ok.1 ok.2.1 h.1 hl hn rfl (fun ls1 hl1 => ?_)
  have K1 := K H locs ls1 hP hz hS (aa_lv_set1 (v := .int x) hl1 (aa_s1_8 (x0 := x0) hc))
  rw [← h.2] at K1
  exact K1⟩
theorem aa_iinc8 {a0 a1 a2 a3 a4 a5 a6 a7 : Option Value} {x v : Int32} {k : Int} (h : aa_At M pc (.iinc 8 k) 3 pn) (hv : x + Int32.ofInt k = v) (hc : aa_c1 a7 = true) (hn : 8 < M.2.2.1) : aa_Go M d pc (a0 :: a1 :: a2 :: a3 :: a4 :: a5 :: a6 :: a7 :: some (.int x) :: tl) st σ pn (a0 :: a1 :: a2 :: a3 :: a4 :: a5 :: a6 :: a7 :: some (.int v) :: tl) st σ := ⟨Nat.le_refl _, Nat.le_refl _, fun p l e R s m args below meth c D cA b z c0 s0 Q ok _ _ _ _ K H locs lsA hP hz hS hl => by
  obtain ⟨k1, hk1⟩ : ∃ k1, (aa_al b z 0 (a0 :: a1 :: a2 :: a3 :: a4 :: a5 :: a6 :: a7 :: some (Value.int x) :: tl))[k1]? = some (8, Value.int x) := List.getElem?_of_mem ((aa_al_mem _ 0).mpr ⟨8, Value.int x, rfl, rfl⟩)
  refine lv_iinc ok.1 ok.2.1 h.1 hl hk1 hv hn rfl (fun ls1 hl1 => ?_)
  have K1 := K H locs ls1 hP hz hS (aa_lv_set1 (v := .int v) hl1 (aa_s1_8 (x0 := some (.int x)) hc))
  rw [← h.2] at K1
  exact K1⟩
theorem aa_istore9 {a0 a1 a2 a3 a4 a5 a6 a7 a8 : Option Value} {x0 : Option Value} {x : Int32} (h : aa_At M pc (.istore 9) 2 pn) (hc : aa_c1 a8 = true) (hn : 9 < M.2.2.1) : aa_Go M d pc (a0 :: a1 :: a2 :: a3 :: a4 :: a5 :: a6 :: a7 :: a8 :: x0 :: tl) (.int x :: st) σ pn (a0 :: a1 :: a2 :: a3 :: a4 :: a5 :: a6 :: a7 :: a8 :: some (.int x) :: tl) st σ := ⟨Nat.le_refl _, Nat.le_refl _, fun p l e R s m args below meth c D cA b z c0 s0 Q ok _ _ _ _ K H locs lsA hP hz hS hl => by
  refine lv_istore ok.1 ok.2.1 h.1 hl hn rfl (fun ls1 hl1 => ?_)
  have K1 := K H locs ls1 hP hz hS (aa_lv_set1 (v := .int x) hl1 (aa_s1_9 (x0 := x0) hc))
  rw [← h.2] at K1
  exact K1⟩
theorem aa_iinc9 {a0 a1 a2 a3 a4 a5 a6 a7 a8 : Option Value} {x v : Int32} {k : Int} (h : aa_At M pc (.iinc 9 k) 3 pn) (hv : x + Int32.ofInt k = v) (hc : aa_c1 a8 = true) (hn : 9 < M.2.2.1) : aa_Go M d pc (a0 :: a1 :: a2 :: a3 :: a4 :: a5 :: a6 :: a7 :: a8 :: some (.int x) :: tl) st σ pn (a0 :: a1 :: a2 :: a3 :: a4 :: a5 :: a6 :: a7 :: a8 :: some (.int v) :: tl) st σ := ⟨Nat.le_refl _, Nat.le_refl _, fun p l e R s m args below meth c D cA b z c0 s0 Q ok _ _ _ _ K H locs lsA hP hz hS hl => by
  obtain ⟨k1, hk1⟩ : ∃ k1, (aa_al b z 0 (a0 :: a1 :: a2 :: a3 :: a4 :: a5 :: a6 :: a7 :: a8 :: some (Value.int x) :: tl))[k1]? = some (9, Value.int x) := List.getElem?_of_mem ((aa_al_mem _ 0).mpr ⟨9, Value.int x, rfl, rfl⟩)
  refine lv_iinc ok.1 ok.2.1 h.1 hl hk1 hv hn rfl (fun ls1 hl1 => ?_)
  have K1 := K H locs ls1 hP hz hS (aa_lv_set1 (v := .int v) hl1 (aa_s1_9 (x0 := some (.int x)) hc))
  rw [← h.2] at K1
  exact K1⟩
theorem aa_istore10 {a0 a1 a2 a3 a4 a5 a6 a7 a8 a9 : Option Value} {x0 : Option Value} {x : Int32} (h : aa_At M pc (.istore 10) 2 pn) (hc : aa_c1 a9 = true) (hn : 10 < M.2.2.1) : aa_Go M d pc (a0 :: a1 :: a2 :: a3 :: a4 :: a5 :: a6 :: a7 :: a8 :: a9 :: x0 :: tl) (.int x :: st) σ pn (a0 :: a1 :: a2 :: a3 :: a4 :: a5 :: a6 :: a7 :: a8 :: a9 :: some (.int x) :: tl) st σ := ⟨Nat.le_refl _, Nat.le_refl _, fun p l e R s m args below meth c D cA b z c0 s0 Q ok _ _ _ _ K H locs lsA hP hz hS hl => by
  refine lv_istore ok.1 ok.2.1 h.1 hl hn rfl (fun ls1 hl1 => ?_)
  have K1 := K H locs ls1 hP hz hS (aa_lv_set1 (v := .int x) hl1 (aa_s1_10 (x0 := x0) hc))
  rw [← h.2] at K1
  exact K1⟩
theorem aa_iinc10 {a0 a1 a2 a3 a4 a5 a6 a7 a8 a9 : Option Value} {x v : Int32} {k : Int} (h : aa_At M pc (.iinc 10 k) 3 pn) (hv : x + Int32.ofInt k = v) (hc : aa_c1 a9 = true) (hn : 10 < M.2.2.1) : aa_Go M d pc (a0 :: a1 :: a2 :: a3 :: a4 :: a5 :: a6 :: a7 :: a8 :: a9 :: some (.int x) :: tl) st σ pn (a0 :: a1 :: a2 :: a3 :: a4 :: a5 :: a6 :: a7 :: a8 :: a9 :: some (.int v) :: tl) st σ := ⟨Nat.le_refl _, Nat.le_refl _, fun p l e R s m args below meth c D cA b z c0 s0 Q ok _ _ _ _ K H locs lsA hP hz hS hl => by
  obtain ⟨k1, hk1⟩ : ∃ k1, (aa_al b z 0 (a0 :: a1 :: a2 :: a3 :: a4 :: a5 :: a6 :: a7 :: a8 :: a9 :: some (Value.int x) :: tl))[k1]? = some (10, Value.int x) := List.getElem?_of_mem ((aa_al_mem _ 0).mpr ⟨10, Value.int x, rfl, rfl⟩)
  refine lv_iinc ok.1 ok.2.1 h.1 hl hk1 hv hn rfl (fun ls1 hl1 => ?_)
  have K1 := K H locs ls1 hP hz hS (aa_lv_set1 (v := .int v) hl1 (aa_s1_10 (x0 := some (.int x)) hc))
  rw [← h.2] at K1
  exact K1⟩
theorem aa_istore11 {a0 a1 a2 a3 a4 a5 a6 a7 a8 a9 a10 : Option Value} {x0 : Option Value} {x : Int32} (h : aa_At M pc (.istore 11) 2 pn) (hc : aa_c1 a10 = true) (hn : 11 < M.2.2.1) : aa_Go M d pc (a0 :: a1 :: a2 :: a3 :: a4 :: a5 :: a6 :: a7 :: a8 :: a9 :: a10 :: x0 :: tl) (.int x :: st) σ pn (a0 :: a1 :: a2 :: a3 :: a4 :: a5 :: a6 :: a7 :: a8 :: a9 :: a10 :: some (.int x) :: tl) st σ := ⟨Nat.le_refl _, Nat.le_refl _, fun p l e R s m args below meth c D cA b z c0 s0 Q ok _ _ _ _ K H locs lsA hP hz hS hl => by
  refine lv_istore ok.1 ok.2.1 h.1 hl hn rfl (fun ls1 hl1 => ?_)
  have K1 := K H locs ls1 hP hz hS (aa_lv_set1 (v := .int x) hl1 (aa_s1_11 (x0 := x0) hc))
  rw [← h.2] at K1
  exact K1⟩
theorem aa_iinc11 {a0 a1 a2 a3 a4 a5 a6 a7 a8 a9 a10 : Option Value} {x v : Int32} {k : Int} (h : aa_At M pc (.iinc 11 k) 3 pn) (hv : x + Int32.ofInt k = v) (hc : aa_c1 a10 = true) (hn : 11 < M.2.2.1) : aa_Go M d pc (a0 :: a1 :: a2 :: a3 :: a4 :: a5 :: a6 :: a7 :: a8 :: a9 :: a10 :: some (.int x) :: tl) st σ pn (a0 :: a1 :: a2 :: a3 :: a4 :: a5 :: a6 :: a7 :: a8 :: a9 :: a10 :: some (.int v) :: tl) st σ := ⟨Nat.le_refl _, Nat.le_refl _, fun p l e R s m args below meth c D cA b z c0 s0 Q ok _ _ _ _ K H locs lsA hP hz hS hl => by
  obtain ⟨k1, hk1⟩ : ∃ k1, (aa_al b z 0 (a0 :: a1 :: a2 :: a3 :: a4 :: a5 :: a6 :: a7 :: a8 :: a9 :: a10 :: some (Value.int x) :: tl))[k1]? = some (11, Value.int x) := List.getElem?_of_mem ((aa_al_mem _ 0).mpr ⟨11, Value.int x, rfl, rfl⟩)
  refine lv_iinc ok.1 ok.2.1 h.1 hl hk1 hv hn rfl (fun ls1 hl1 => ?_)
  have K1 := K H locs ls1 hP hz hS (aa_lv_set1 (v := .int v) hl1 (aa_s1_11 (x0 := some (.int x)) hc))
  rw [← h.2] at K1
  exact K1⟩
theorem aa_istore12 {a0 a1 a2 a3 a4 a5 a6 a7 a8 a9 a10 a11 : Option Value} {x0 : Option Value} {x : Int32} (h : aa_At M pc (.istore 12) 2 pn) (hc : aa_c1 a11 = true) (hn : 12 < M.2.2.1) : aa_Go M d pc (a0 :: a1 :: a2 :: a3 :: a4 :: a5 :: a6 :: a7 :: a8 :: a9 :: a10 :: a11 :: x0 :: tl) (.int x :: st) σ pn (a0 :: a1 :: a2 :: a3 :: a4 :: a5 :: a6 :: a7 :: a8 :: a9 :: a10 :: a11 :: some (.int x) :: tl) st σ := ⟨Nat.le_refl _, Nat.le_refl _, fun p l e R s m args below meth c D cA b z c0 s0 Q ok _ _ _ _ K H locs lsA hP hz hS hl => by
  refine lv_istore ok.1 ok.2.1 h.1 hl hn rfl (fun ls1 hl1 => ?_)
  have K1 := K H locs ls1 hP hz hS (aa_lv_set1 (v := .int x) hl1 (aa_s1_12 (x0 := x0) hc))
  rw [← h.2] at K1
  exact K1⟩
theorem aa_iinc12 {a0 a1 a2 a3 a4 a5 a6 a7 a8 a9 a10 a11 : Option Value} {x v : Int32} {k : Int} (h : aa_At M pc (.iinc 12 k) 3 pn) (hv : x + Int32.ofInt k = v) (hc : aa_c1 a11 = true) (hn : 12 < M.2.2.1) : aa_Go M d pc (a0 :: a1 :: a2 :: a3 :: a4 :: a5 :: a6 :: a7 :: a8 :: a9 :: a10 :: a11 :: some (.int x) :: tl) st σ pn (a0 :: a1 :: a2 :: a3 :: a4 :: a5 :: a6 :: a7 :: a8 :: a9 :: a10 :: a11 :: some (.int v) :: tl) st σ := ⟨Nat.le_refl _, Nat.le_refl _, fun p l e R s m args below meth c D cA b z c0 s0 Q ok _ _ _ _ K H locs lsA hP hz hS hl => by
  obtain ⟨k1, hk1⟩ : ∃ k1, (aa_al b z 0 (a0 :: a1 :: a2 :: a3 :: a4 :: a5 :: a6 :: a7 :: a8 :: a9 :: a10 :: a11 :: some (Value.int x) :: tl))[k1]? = some (12, Value.int x) := List.getElem?_of_mem ((aa_al_mem _ 0).mpr ⟨12, Value.int x, rfl, rfl⟩)
  refine lv_iinc ok.1 ok.2.1 h.1 hl hk1 hv hn rfl (fun ls1 hl1 => ?_)
  have K1 := K H locs ls1 hP hz hS (aa_lv_set1 (v := .int v) hl1 (aa_s1_12 (x0 := some (.int x)) hc))
  rw [← h.2] at K1
  exact K1⟩
theorem aa_istore13 {a0 a1 a2 a3 a4 a5 a6 a7 a8 a9 a10 a11 a12 : Option Value} {x0 : Option Value} {x : Int32} (h : aa_At M pc (.istore 13) 2 pn) (hc : aa_c1 a12 = true) (hn : 13 < M.2.2.1) : aa_Go M d pc (a0 :: a1 :: a2 :: a3 :: a4 :: a5 :: a6 :: a7 :: a8 :: a9 :: a10 :: a11 :: a12 :: x0 :: tl) (.int x :: st) σ pn (a0 :: a1 :: a2 :: a3 :: a4 :: a5 :: a6 :: a7 :: a8 :: a9 :: a10 :: a11 :: a12 :: some (.int x) :: tl) st σ := ⟨Nat.le_refl _, Nat.le_refl _, fun p l e R s m args below meth c D cA b z c0 s0 Q ok _ _ _ _ K H locs lsA hP hz hS hl => by
  refine lv_istore ok.1 ok.2.1 h.1 hl hn rfl (fun ls1 hl1 => ?_)
  have K1 := K H locs ls1 hP hz hS (aa_lv_set1 (v := .int x) hl1 (aa_s1_13 (x0 := x0) hc))
  rw [← h.2] at K1
  exact K1⟩
theorem aa_iinc13 {a0 a1 a2 a3 a4 a5 a6 a7 a8 a9 a10 a11 a12 : Option Value} {x v : Int32} {k : Int} (h : aa_At M pc (.iinc 13 k) 3 pn) (hv : x + Int32.ofInt k = v) (hc : aa_c1 a12 = true) (hn : 13 < M.2.2.1) : aa_Go M d pc (a0 :: a1 :: a2 :: a3 :: a4 :: a5 :: a6 :: a7 :: a8 :: a9 :: a10 :: a11 :: a12 :: some (.int x) :: tl) st σ pn (a0 :: a1 :: a2 :: a3 :: a4 :: a5 :: a6 :: a7 :: a8 :: a9 :: a10 :: a11 :: a12 :: some (.int v) :: tl) st σ := ⟨Nat.le_refl _, Nat.le_refl _, fun p l e R s m args below meth c D cA b z c0 s0 Q ok _ _ _ _ K H locs lsA hP hz hS hl => by
  obtain ⟨k1, hk1⟩ : ∃ k1, (aa_al b z 0 (a0 :: a1 :: a2 :: a3 :: a4 :: a5 :: a6 :: a7 :: a8 :: a9 :: a10 :: a11 :: a12 :: some (Value.int x) :: tl))[k1]? = some (13, Value.int x) := List.getElem?_of_mem ((aa_al_mem _ 0).mpr ⟨13, Value.int x, rfl, rfl⟩)
  refine lv_iinc ok.1 ok.2.1 h.1 hl hk1 hv hn rfl (fun ls1 hl1 => ?_)
  have K1 := K H locs ls1 hP hz hS (aa_lv_set1 (v := .int v) hl1 (aa_s1_13 (x0 := some (.int x)) hc))
  rw [← h.2] at K1
  exact K1⟩
theorem aa_istore14 {a0 a1 a2 a3 a4 a5 a6 a7 a8 a9 a10 a11 a12 a13 : Option Value} {x0 : Option Value} {x : Int32} (h : aa_At M pc (.istore 14) 2 pn) (hc : aa_c1 a13 = true) (hn : 14 < M.2.2.1) : aa_Go M d pc (a0 :: a1 :: a2 :: a3 :: a4 :: a5 :: a6 :: a7 :: a8 :: a9 :: a10 :: a11 :: a12 :: a13 :: x0 :: tl) (.int x :: st) σ pn (a0 :: a1 :: a2 :: a3 :: a4 :: a5 :: a6 :: a7 :: a8 :: a9 :: a10 :: a11 :: a12 :: a13 :: some (.int x) :: tl) st σ := ⟨Nat.le_refl _, Nat.le_refl _, fun p l e R s m args below meth c D cA b z c0 s0 Q ok _ _ _ _ K H locs lsA hP hz hS hl => by
  refine lv_istore ok.1 ok.2.1 h.1 hl hn rfl (fun ls1 hl1 => ?_)
  have K1 := K H locs ls1 hP hz hS (aa_lv_set1 (v := .int x) hl1 (aa_s1_14 (x0 := x0) hc))
  rw [← h.2] at K1
  exact K1⟩
theorem aa_iinc14 {a0 a1 a2 a3 a4 a5 a6 a7 a8 a9 a10 a11 a12 a13 : Option Value} {x v : Int32} {k : Int} (h : aa_At M pc (.iinc 14 k) 3 pn) (hv : x + Int32.ofInt k = v) (hc : aa_c1 a13 = true) (hn : 14 < M.2.2.1) : aa_Go M d pc (a0 :: a1 :: a2 :: a3 :: a4 :: a5 :: a6 :: a7 :: a8 :: a9 :: a10 :: a11 :: a12 :: a13 :: some (.int x) :: tl) st σ pn (a0 :: a1 :: a2 :: a3 :: a4 :: a5 :: a6 :: a7 :: a8 :: a9 :: a10 :: a11 :: a12 :: a13 :: some (.int v) :: tl) st σ := ⟨Nat.le_refl _, Nat.le_refl _, fun p l e R s m args below meth c D cA b z c0 s0 Q ok _ _ _ _ K H locs lsA hP hz hS hl => by
  obtain ⟨k1, hk1⟩ : ∃ k1, (aa_al b z 0 (a0 :: a1 :: a2 :: a3 :: a4 :: a5 :: a6 :: a7 :: a8 :: a9 :: a10 :: a11 :: a12 :: a13 :: some (Value.int x) :: tl))[k1]? = some (14, Value.int x) := List.getElem?_of_mem ((aa_al_mem _ 0).mpr ⟨14, Value.int x, rfl, rfl⟩)
  refine lv_iinc ok.1 ok.2.1 h.1 hl hk1 hv hn rfl (fun ls1 hl1 => ?_)
  have K1 := K H locs ls1 hP hz hS (aa_lv_set1 (v := .int v) hl1 (aa_s1_14 (x0 := some (.int x)) hc))
  rw [← h.2] at K1
  exact K1⟩
theorem aa_istore15 {a0 a1 a2 a3 a4 a5 a6 a7 a8 a9 a10 a11 a12 a13 a14 : Option Value} {x0 : Option Value} {x : Int32} (h : aa_At M pc (.istore 15) 2 pn) (hc : aa_c1 a14 = true) (hn : 15 < M.2.2.1) : aa_Go M d pc (a0 :: a1 :: a2 :: a3 :: a4 :: a5 :: a6 :: a7 :: a8 :: a9 :: a10 :: a11 :: a12 :: a13 :: a14 :: x0 :: tl) (.int x :: st) σ pn (a0 :: a1 :: a2 :: a3 :: a4 :: a5 :: a6 :: a7 :: a8 :: a9 :: a10 :: a11 :: a12 :: a13 :: a14 :: some (.int x) :: tl) st σ := ⟨Nat.le_refl _, Nat.le_refl _, fun p l e R s m args below meth c D cA b z c0 s0 Q ok _ _ _ _ K H locs lsA hP hz hS hl => by
  refine lv_istore ok.1 ok.2.1 h.1 hl hn rfl (fun ls1 hl1 => ?_)
  have K1 := K H locs ls1 hP hz hS (aa_lv_set1 (v := .int x) hl1 (aa_s1_15 (x0 := x0) hc))
  rw [← h.2] at K1
  exact K1⟩
theorem aa_iinc15 {a0 a1 a2 a3 a4 a5 a6 a7 a8 a9 a10 a11 a12 a13 a14 : Option Value} {x v : Int32} {k : Int} (h : aa_At M pc (.iinc 15 k) 3 pn) (hv : x + Int32.ofInt k = v) (hc : aa_c1 a14 = true) (hn : 15 < M.2.2.1) : aa_Go M d pc (a0 :: a1 :: a2 :: a3 :: a4 :: a5 :: a6 :: a7 :: a8 :: a9 :: a10 :: a11 :: a12 :: a13 :: a14 :: some (.int x) :: tl) st σ pn (a0 :: a1 :: a2 :: a3 :: a4 :: a5 :: a6 :: a7 :: a8 :: a9 :: a10 :: a11 :: a12 :: a13 :: a14 :: some (.int v) :: tl) st σ := ⟨Nat.le_refl _, Nat.le_refl _, fun p l e R s m args below meth c D cA b z c0 s0 Q ok _ _ _ _ K H locs lsA hP hz hS hl => by
  obtain ⟨k1, hk1⟩ : ∃ k1, (aa_al b z 0 (a0 :: a1 :: a2 :: a3 :: a4 :: a5 :: a6 :: a7 :: a8 :: a9 :: a10 :: a11 :: a12 :: a13 :: a14 :: some (Value.int x) :: tl))[k1]? = some (15, Value.int x) := List.getElem?_of_mem ((aa_al_mem _ 0).mpr ⟨15, Value.int x, rfl, rfl⟩)
  refine lv_iinc ok.1 ok.2.1 h.1 hl hk1 hv hn rfl (fun ls1 hl1 => ?_)
  have K1 := K H locs ls1 hP hz hS (aa_lv_set1 (v := .int v) hl1 (aa_s1_15 (x0 := some (.int x)) hc))
  rw [← h.2] at K1
  exact K1⟩
theorem aa_istore16 {a0 a1 a2 a3 a4 a5 a6 a7 a8 a9 a10 a11 a12 a13 a14 a15 : Option Value} {x0 : Option Value} {x : Int32} (h : aa_At M pc (.istore 16) 2 pn) (hc : aa_c1 a15 = true) (hn : 16 < M.2.2.1) : aa_Go M d pc (a0 :: a1 :: a2 :: a3 :: a4 :: a5 :: a6 :: a7 :: a8 :: a9 :: a10 :: a11 :: a12 :: a13 :: a14 :: a15 :: x0 :: tl) (.int x :: st) σ pn (a0 :: a1 :: a2 :: a3 :: a4 :: a5 :: a6 :: a7 :: a8 :: a9 :: a10 :: a11 :: a12 :: a13 :: a14 :: a15 :: some (.int x) :: tl) st σ := ⟨Nat.le_refl _, Nat.le_refl _, fun p l e R s m args below meth c D cA b z c0 s0 Q ok _ _ _ _ K H locs lsA hP hz hS hl => by
  refine lv_istore ok.1 ok.2.1 h.1 hl hn rfl (fun ls1 hl1 => ?_)
  have K1 := K H locs ls1 hP hz hS (aa_lv_set1 (v := .int x) hl1 (aa_s1_16 (x0 := x0) hc))
  rw [← h.2] at K1
  exact K1⟩
theorem aa_iinc16 {a0 a1 a2 a3 a4 a5 a6 a7 a8 a9 a10 a11 a12 a13 a14 a15 : Option Value} {x v : Int32} {k : Int} (h : aa_At M pc (.iinc 16 k) 3 pn) (hv : x + Int32.ofInt k = v) (hc : aa_c1 a15 = true) (hn : 16 < M.2.2.1) : aa_Go M d pc (a0 :: a1 :: a2 :: a3 :: a4 :: a5 :: a6 :: a7 :: a8 :: a9 :: a10 :: a11 :: a12 :: a13 :: a14 :: a15 :: some (.int x) :: tl) st σ pn (a0 :: a1 :: a2 :: a3 :: a4 :: a5 :: a6 :: a7 :: a8 :: a9 :: a10 :: a11 :: a12 :: a13 :: a14 :: a15 :: some (.int v) :: tl) st σ := ⟨Nat.le_refl _, Nat.le_refl _, fun p l e R s m args below meth c D cA b z c0 s0 Q ok _ _ _ _ K H locs lsA hP hz hS hl => by
  obtain ⟨k1, hk1⟩ : ∃ k1, (aa_al b z 0 (a0 :: a1 :: a2 :: a3 :: a4 :: a5 :: a6 :: a7 :: a8 :: a9 :: a10 :: a11 :: a12 :: a13 :: a14 :: a15 :: some (Value.int x) :: tl))[k1]? = some (16, Value.int x) := List.getElem?_of_mem ((aa_al_mem _ 0).mpr ⟨16, Value.int x, rfl, rfl⟩)
  refine lv_iinc ok.1 ok.2.1 h.1 hl hk1 hv hn rfl (fun ls1 hl1 => ?_)
  have K1 := K H locs ls1 hP hz hS (aa_lv_set1 (v := .int v) hl1 (aa_s1_16 (x0 := some (.int x)) hc))
  rw [← h.2] at K1
  exact K1⟩
theorem aa_istore17 {a0 a1 a2 a3 a4 a5 a6 a7 a8 a9 a10 a11 a12 a13 a14 a15 a16 : Option Value} {x0 : Option Value} {x : Int32} (h : aa_At M pc (.istore 17) 2 pn) (hc : aa_c1 a16 = true) (hn : 17 < M.2.2.1) : aa_Go M d pc (a0 :: a1 :: a2 :: a3 :: a4 :: a5 :: a6 :: a7 :: a8 :: a9 :: a10 :: a11 :: a12 :: a13 :: a14 :: a15 :: a16 :: x0 :: tl) (.int x :: st) σ pn (a0 :: a1 :: a2 :: a3 :: a4 :: a5 :: a6 :: a7 :: a8 :: a9 :: a10 :: a11 :: a12 :: a13 :: a14 :: a15 :: a16 :: some (.int x) :: tl) st σ := ⟨Nat.le_refl _, Nat.le_refl _, fun p l e R s m args below meth c D cA b z c0 s0 Q ok _ _ _ _ K H locs lsA hP hz hS hl => by
  refine lv_istore ok.1 ok.2.1 h.1 hl hn rfl (fun ls1 hl1 => ?_)
  have K1 := K H locs ls1 hP hz hS (aa_lv_set1 (v := .int x) hl1 (aa_s1_17 (x0 := x0) hc))
  rw [← h.2] at K1
  exact K1⟩
theorem aa_iinc17 {a0 a1 a2 a3 a4 a5 a6 a7 a8 a9 a10 a11 a12 a13 a14 a15 a16 : Option Value} {x v : Int32} {k : Int} (h : aa_At M pc (.iinc 17 k) 3 pn) (hv : x + Int32.ofInt k = v) (hc : aa_c1 a16 = true) (hn : 17 < M.2.2.1) : aa_Go M d pc (a0 :: a1 :: a2 :: a3 :: a4 :: a5 :: a6 :: a7 :: a8 :: a9 :: a10 :: a11 :: a12 :: a13 :: a14 :: a15 :: a16 :: some (.int x) :: tl) st σ pn (a0 :: a1 :: a2 :: a3 :: a4 :: a5 :: a6 :: a7 :: a8 :: a9 :: a10 :: a11 :: a12 :: a13 :: a14 :: a15 :: a16 :: some (.int v) :: tl) st σ := ⟨Nat.le_refl _, Nat.le_refl _, fun p l e R s m args below meth c D cA b z c0 s0 Q ok _ _ _ _ K H locs lsA hP hz hS hl => by
  obtain ⟨k1, hk1⟩ : ∃ k1, (aa_al b z 0 (a0 :: a1 :: a2 :: a3 :: a4 :: a5 :: a6 :: a7 :: a8 :: a9 :: a10 :: a11 :: a12 :: a13 :: a14 :: a15 :: a16 :: some (Value.int x) :: tl))[k1]? = some (17, Value.int x) := List.getElem?_of_mem ((aa_al_mem _ 0).mpr ⟨17, Value.int x, rfl, rfl⟩)
  refine lv_iinc ok.1 ok.2.1 h.1 hl hk1 hv hn rfl (fun ls1 hl1 => ?_)
  have K1 := K H locs ls1 hP hz hS (aa_lv_set1 (v := .int v) hl1 (aa_s1_17 (x0 := some (.int x)) hc))
  rw [← h.2] at K1
  exact K1⟩
theorem aa_istore18 {a0 a1 a2 a3 a4 a5 a6 a7 a8 a9 a10 a11 a12 a13 a14 a15 a16 a17 : Option Value} {x0 : Option Value} {x : Int32} (h : aa_At M pc (.istore 18) 2 pn) (hc : aa_c1 a17 = true) (hn : 18 < M.2.2.1) : aa_Go M d pc (a0 :: a1 :: a2 :: a3 :: a4 :: a5 :: a6 :: a7 :: a8 :: a9 :: a10 :: a11 :: a12 :: a13 :: a14 :: a15 :: a16 :: a17 :: x0 :: tl) (.int x :: st) σ pn (a0 :: a1 :: a2 :: a3 :: a4 :: a5 :: a6 :: a7 :: a8 :: a9 :: a10 :: a11 :: a12 :: a13 :: a14 :: a15 :: a16 :: a17 :: some (.int x) :: tl) st σ := ⟨Nat.le_refl _, Nat.le_refl _, fun p l e R s m args below meth c D cA b z c0 s0 Q ok _ _ _ _ K H locs lsA hP hz hS hl => by
  refine lv_istore ok.1 ok.2.1 h.1 hl hn rfl (fun ls1 hl1 => ?_)
  have K1 := K H locs ls1 hP hz hS (aa_lv_set1 (v := .int x) hl1 (aa_s1_18 (x0 := x0) hc))
  rw [← h.2] at K1
  exact K1⟩
theorem aa_iinc18 {a0 a1 a2 a3 a4 a5 a6 a7 a8 a9 a10 a11 a12 a13 a14 a15 a16 a17 : Option Value} {x v : Int32} {k : Int} (h : aa_At M pc (.iinc 18 k) 3 pn) (hv : x + Int32.ofInt k = v) (hc : aa_c1 a17 = true) (hn : 18 < M.2.2.1) : aa_Go M d pc (a0 :: a1 :: a2 :: a3 :: a4 :: a5 :: a6 :: a7 :: a8 :: a9 :: a10 :: a11 :: a12 :: a13 :: a14 :: a15 :: a16 :: a17 :: some (.int x) :: tl) st σ pn (a0 :: a1 :: a2 :: a3 :: a4 :: a5 :: a6 :: a7 :: a8 :: a9 :: a10 :: a11 :: a12 :: a13 :: a14 :: a15 :: a16 :: a17 :: some (.int v) :: tl) st σ := ⟨Nat.le_refl _, Nat.le_refl _, fun p l e R s m args below meth c D cA b z c0 s0 Q ok _ _ _ _ K H locs lsA hP hz hS hl => by
  obtain ⟨k1, hk1⟩ : ∃ k1, (aa_al b z 0 (a0 :: a1 :: a2 :: a3 :: a4 :: a5 :: a6 :: a7 :: a8 :: a9 :: a10 :: a11 :: a12 :: a13 :: a14 :: a15 :: a16 :: a17 :: some (Value.int x) :: tl))[k1]? = some (18, Value.int x) := List.getElem?_of_mem ((aa_al_mem _ 0).mpr ⟨18, Value.int x, rfl, rfl⟩)
  refine lv_iinc ok.1 ok.2.1 h.1 hl hk1 hv hn rfl (fun ls1 hl1 => ?_)
  have K1 := K H locs ls1 hP hz hS (aa_lv_set1 (v := .int v) hl1 (aa_s1_18 (x0 := some (.int x)) hc))
  rw [← h.2] at K1
  exact K1⟩
theorem aa_istore19 {a0 a1 a2 a3 a4 a5 a6 a7 a8 a9 a10 a11 a12 a13 a14 a15 a16 a17 a18 : Option Value} {x0 : Option Value} {x : Int32} (h : aa_At M pc (.istore 19) 2 pn) (hc : aa_c1 a18 = true) (hn : 19 < M.2.2.1) : aa_Go M d pc (a0 :: a1 :: a2 :: a3 :: a4 :: a5 :: a6 :: a7 :: a8 :: a9 :: a10 :: a11 :: a12 :: a13 :: a14 :: a15 :: a16 :: a17 :: a18 :: x0 :: tl) (.int x :: st) σ pn (a0 :: a1 :: a2 :: a3 :: a4 :: a5 :: a6 :: a7 :: a8 :: a9 :: a10 :: a11 :: a12 :: a13 :: a14 :: a15 :: a16 :: a17 :: a18 :: some (.int x) :: tl) st σ := ⟨Nat.le_refl _, Nat.le_refl _, fun p l e R s m args below meth c D cA b z c0 s0 Q ok _ _ _ _ K H locs lsA hP hz hS hl => by
  refine lv_istore ok.1 ok.2.1 h.1 hl hn rfl (fun ls1 hl1 => ?_)
  have K1 := K H locs ls1 hP hz hS (aa_lv_set1 (v := .int x) hl1 (aa_s1_19 (x0 := x0) hc))
  rw [← h.2] at K1
  exact K1⟩
theorem aa_iinc19 {a0 a1 a2 a3 a4 a5 a6 a7 a8 a9 a10 a11 a12 a13 a14 a15 a16 a17 a18 : Option Value} {x v : Int32} {k : Int} (h : aa_At M pc (.iinc 19 k) 3 pn) (hv : x + Int32.ofInt k = v) (hc : aa_c1 a18 = true) (hn : 19 < M.2.2.1) : aa_Go M d pc (a0 :: a1 :: a2 :: a3 :: a4 :: a5 :: a6 :: a7 :: a8 :: a9 :: a10 :: a11 :: a12 :: a13 :: a14 :: a15 :: a16 :: a17 :: a18 :: some (.int x) :: tl) st σ pn (a0 :: a1 :: a2 :: a3 :: a4 :: a5 :: a6 :: a7 :: a8 :: a9 :: a10 :: a11 :: a12 :: a13 :: a14 :: a15 :: a16 :: a17 :: a18 :: some (.int v) :: tl) st σ := ⟨Nat.le_refl _, Nat.le_refl _, fun p l e R s m args below meth c D cA b z c0 s0 Q ok _ _ _ _ K H locs lsA hP hz hS hl => by
  obtain ⟨k1, hk1⟩ : ∃ k1, (aa_al b z 0 (a0 :: a1 :: a2 :: a3 :: a4 :: a5 :: a6 :: a7 :: a8 :: a9 :: a10 :: a11 :: a12 :: a13 :: a14 :: a15 :: a16 :: a17 :: a18 :: some (Value.int x) :: tl))[k1]? = some (19, Value.int x) := List.getElem?_of_mem ((aa_al_mem _ 0).mpr ⟨19, Value.int x, rfl, rfl⟩)
  refine lv_iinc ok.1 ok.2.1 h.1 hl hk1 hv hn rfl (fun ls1 hl1 => ?_)
  have K1 := K H locs ls1 hP hz hS (aa_lv_set1 (v := .int v) hl1 (aa_s1_19 (x0 := some (.int x)) hc))
  rw [← h.2] at K1
  exact K1⟩
theorem aa_istore20 {a0 a1 a2 a3 a4 a5 a6 a7 a8 a9 a10 a11 a12 a13 a14 a15 a16 a17 a18 a19 : Option Value} {x0 : Option Value} {x : Int32} (h : aa_At M pc (.istore 20) 2 pn) (hc : aa_c1 a19 = true) (hn : 20 < M.2.2.1) : aa_Go M d pc (a0 :: a1 :: a2 :: a3 :: a4 :: a5 :: a6 :: a7 :: a8 :: a9 :: a10 :: a11 :: a12 :: a13 :: a14 :: a15 :: a16 :: a17 :: a18 :: a19 :: x0 :: tl) (.int x :: st) σ pn (a0 :: a1 :: a2 :: a3 :: a4 :: a5 :: a6 :: a7 :: a8 :: a9 :: a10 :: a11 :: a12 :: a13 :: a14 :: a15 :: a16 :: a17 :: a18 :: a19 :: some (.int x) :: tl) st σ := ⟨Nat.le_refl _, Nat.le_refl _, fun p l e R s m args below meth c D cA b z c0 s0 Q ok _ _ _ _ K H locs lsA hP hz hS hl => by
  refine lv_istore ok.1 ok.2.1 h.1 hl hn rfl (fun ls1 hl1 => ?_)
  have K1 := K H locs ls1 hP hz hS (aa_lv_set1 (v := .int x) hl1 (aa_s1_20 (x0 := x0) hc))
  rw [← h.2] at K1
  exact K1⟩
theorem aa_iinc20 {a0 a1 a2 a3 a4 a5 a6 a7 a8 a9 a10 a11 a12 a13 a14 a15 a16 a17 a18 a19 : Option Value} {x v : Int32} {k : Int} (h : aa_At M pc (.iinc 20 k) 3 pn) (hv : x + Int32.ofInt k = v) (hc : aa_c1 a19 = true) (hn : 20 < M.2.2.1) : aa_Go M d pc (a0 :: a1 :: a2 :: a3 :: a4 :: a5 :: a6 :: a7 :: a8 :: a9 :: a10 :: a11 :: a12 :: a13 :: a14 :: a15 :: a16 :: a17 :: a18 :: a19 :: some (.int x) :: tl) st σ pn (a0 :: a1 :: a2 :: a3 :: a4 :: a5 :: a6 :: a7 :: a8 :: a9 :: a10 :: a11 :: a12 :: a13 :: a14 :: a15 :: a16 :: a17 :: a18 :: a19 :: some (.int v) :: tl) st σ := ⟨Nat.le_refl _, Nat.le_refl _, fun p l e R s m args below meth c D cA b z c0 s0 Q ok _ _ _ _ K H locs lsA hP hz hS hl => by
  obtain ⟨k1, hk1⟩ : ∃ k1, (aa_al b z 0 (a0 :: a1 :: a2 :: a3 :: a4 :: a5 :: a6 :: a7 :: a8 :: a9 :: a10 :: a11 :: a12 :: a13 :: a14 :: a15 :: a16 :: a17 :: a18 :: a19 :: some (Value.int x) :: tl))[k1]? = some (20, Value.int x) := List.getElem?_of_mem ((aa_al_mem _ 0).mpr ⟨20, Value.int x, rfl, rfl⟩)
  refine lv_iinc ok.1 ok.2.1 h.1 hl hk1 hv hn rfl (fun ls1 hl1 => ?_)
  have K1 := K H locs ls1 hP hz hS (aa_lv_set1 (v := .int v) hl1 (aa_s1_20 (x0 := some (.int x)) hc))
  rw [← h.2] at K1
  exact K1⟩
theorem aa_astore0 {x0 : Option Value} {x : Nat} (h : aa_At M pc (.astore_n 0) 1 pn) (hn : 0 < M.2.2.1) : aa_Go M d pc (x0 :: tl) (.ref x :: st) σ pn (some (.ref x) :: tl) st σ := ⟨Nat.le_refl _, Nat.le_refl _, fun p l e R s m args below meth c D cA b z c0 s0 Q ok _ _ _ _ K H locs lsA hP hz hS hl => by
  refine lv_astore_n ok.1 ok.2.1 h.1 rfl hl hn rfl (fun ls1 hl1 => ?_)
  have K1 := K H locs ls1 hP hz hS (aa_lv_set1 (v := .ref x) hl1 (aa_s1_0 (x0 := x0) ))
  rw [← h.2] at K1
  exact K1⟩
theorem aa_astore1 {a0 : Option Value} {x0 : Option Value} {x : Nat} (h : aa_At M pc (.astore_n 1) 1 pn) (hc : aa_c1 a0 = true) (hn : 1 < M.2.2.1) : aa_Go M d pc (a0 :: x0 :: tl) (.ref x :: st) σ pn (a0 :: some (.ref x) :: tl) st σ := ⟨Nat.le_refl _, Nat.le_refl _, fun p l e R s m args below meth c D cA b z c0 s0 Q ok _ _ _ _ K H locs lsA hP hz hS hl => by
  refine lv_astore_n ok.1 ok.2.1 h.1 rfl hl hn rfl (fun ls1 hl1 => ?_)
  have K1 := K H locs ls1 hP hz hS (aa_lv_set1 (v := .ref x) hl1 (aa_s1_1 (x0 := x0) hc))
  rw [← h.2] at K1
  exact K1⟩
theorem aa_astore2 {a0 a1 : Option Value} {x0 : Option Value} {x : Nat} (h : aa_At M pc (.astore_n 2) 1 pn) (hc : aa_c1 a1 = true) (hn : 2 < M.2.2.1) : aa_Go M d pc (a0 :: a1 :: x0 :: tl) (.ref x :: st) σ pn (a0 :: a1 :: some (.ref x) :: tl) st σ := ⟨Nat.le_refl _, Nat.le_refl _, fun p l e R s m args below meth c D cA b z c0 s0 Q ok _ _ _ _ K H locs lsA hP hz hS hl => by
  refine lv_astore_n ok.1 ok.2.1 h.1 rfl hl hn rfl (fun ls1 hl1 => ?_)
  have K1 := K H locs ls1 hP hz hS (aa_lv_set1 (v := .ref x) hl1 (aa_s1_2 (x0 := x0) hc))
  rw [← h.2] at K1
  exact K1⟩
theorem aa_astore3 {a0 a1 a2 : Option Value} {x0 : Option Value} {x : Nat} (h : aa_At M pc (.astore_n 3) 1 pn) (hc : aa_c1 a2 = true) (hn : 3 < M.2.2.1) : aa_Go M d pc (a0 :: a1 :: a2 :: x0 :: tl) (.ref x :: st) σ pn (a0 :: a1 :: a2 :: some (.ref x) :: tl) st σ := ⟨Nat.le_refl _, Nat.le_refl _, fun p l e R s m args below meth c D cA b z c0 s0 Q ok _ _ _ _ K H locs lsA hP hz hS hl => by
  refine lv_astore_n ok.1 ok.2.1 h.1 rfl hl hn rfl (fun ls1 hl1 => ?_)
  have K1 := K H locs ls1 hP hz hS (aa_lv_set1 (v := .ref x) hl1 (aa_s1_3 (x0 := x0) hc))
  rw [← h.2] at K1
  exact K1⟩
theorem aa_astore4 {a0 a1 a2 a3 : Option Value} {x0 : Option Value} {x : Nat} (h : aa_At M pc (.astore 4) 2 pn) (hc : aa_c1 a3 = true) (hn : 4 < M.2.2.1) : aa_Go M d pc (a0 :: a1 :: a2 :: a3 :: x0 :: tl) (.ref x :: st) σ pn (a0 :: a1 :: a2 :: a3 :: some (.ref x) :: tl) st σ := ⟨Nat.le_refl _, Nat.le_refl _, fun p l e R s m args below meth c D cA b z c0 s0 Q ok _ _ _ _ K H locs lsA hP hz hS hl => by
  refine lv_astore ok.1 ok.2.1 h.1 hl hn rfl (fun ls1 hl1 => ?_)
  have K1 := K H locs ls1 hP hz hS (aa_lv_set1 (v := .ref x) hl1 (aa_s1_4 (x0 := x0) hc))
  rw [← h.2] at K1
  exact K1⟩
theorem aa_astore5 {a0 a1 a2 a3 a4 : Option Value} {x0 : Option Value} {x : Nat} (h : aa_At M pc (.astore 5) 2 pn) (hc : aa_c1 a4 = true) (hn : 5 < M.2.2.1) : aa_Go M d pc (a0 :: a1 :: a2 :: a3 :: a4 :: x0 :: tl) (.ref x :: st) σ pn (a0 :: a1 :: a2 :: a3 :: a4 :: some (.ref x) :: tl) st σ := ⟨Nat.le_refl _, Nat.le_refl _, fun p l e R s m args below meth c D cA b z c0 s0 Q ok _ _ _ _ K H locs lsA hP hz hS hl => by
  refine lv_astore ok.1 ok.2.1 h.1 hl hn rfl (fun ls1 hl1 => ?_)
  have K1 := K H locs ls1 hP hz hS (aa_lv_set1 (v := .ref x) hl1 (aa_s1_5 (x0 := x0) hc))
  rw [← h.2] at K1
  exact K1⟩
theorem aa_astore6 {a0 a1 a2 a3 a4 a5 : Option Value} {x0 : Option Value} {x : Nat} (h : aa_At M pc (.astore 6) 2 pn) (hc : aa_c1 a5 = true) (hn : 6 < M.2.2.1) : aa_Go M d pc (a0 :: a1 :: a2 :: a3 :: a4 :: a5 :: x0 :: tl) (.ref x :: st) σ pn (a0 :: a1 :: a2 :: a3 :: a4 :: a5 :: some (.ref x) :: tl) st σ := ⟨Nat.le_refl _, Nat.le_refl _, fun p l e R s m args below meth c D cA b z c0 s0 Q ok _ _ _ _ K H locs lsA hP hz hS hl => by
  refine lv_astore ok.1 ok.2.1 h.1 hl hn rfl (fun ls1 hl1 => ?_)
  have K1 := K H locs ls1 hP hz hS (aa_lv_set1 (v := .ref x) hl1 (aa_s1_6 (x0 := x0) hc))
  rw [← h.2] at K1
  exact K1⟩
theorem aa_astore7 {a0 a1 a2 a3 a4 a5 a6 : Option Value} {x0 : Option Value} {x : Nat} (h : aa_At M pc (.astore 7) 2 pn) (hc : aa_c1 a6 = true) (hn : 7 < M.2.2.1) : aa_Go M d pc (a0 :: a1 :: a2 :: a3 :: a4 :: a5 :: a6 :: x0 :: tl) (.ref x :: st) σ pn (a0 :: a1 :: a2 :: a3 :: a4 :: a5 :: a6 :: some (.ref x) :: tl) st σ := ⟨Nat.le_refl _, Nat.le_refl _, fun p l e R s m args below meth c D cA b z c0 s0 Q ok _ _ _ _ K H locs lsA hP hz hS hl => by
  refine lv_astore ok.1 ok.2.1 h.1 hl hn rfl (fun ls1 hl1 => ?_)
  have K1 := K H locs ls1 hP hz hS (aa_lv_set1 (v := .ref x) hl1 (aa_s1_7 (x0 := x0) hc))
  rw [← h.2] at K1
  exact K1⟩
theorem aa_lstore0 {x0 x1 : Option Value} {x : Int64} (h : aa_At M pc (.lstore_n 0) 1 pn) (hn : 0 + 1 < M.2.2.1) : aa_Go M d pc (x0 :: x1 :: tl) (.long x :: st) σ pn (some (.long x) :: none :: tl) st σ := ⟨Nat.le_refl _, Nat.le_refl _, fun p l e R s m args below meth c D cA b z c0 s0 Q ok _ _ _ _ K H locs lsA hP hz hS hl => by
  refine lv_lstore_n ok.1 ok.2.1 h.1 rfl hl hn rfl (fun ls1 hl1 => ?_)
  have K1 := K H locs ls1 hP hz hS (aa_lv_set2 (v := .long x) hl1 (aa_s2_0 (x0 := x0) (x1 := x1) ))
  rw [← h.2] at K1
  exact K1⟩
theorem aa_lstore1 {a0 : Option Value} {x0 x1 : Option Value} {x : Int64} (h : aa_At M pc (.lstore_n 1) 1 pn) (hc : aa_c1 a0 = true) (hn : 1 + 1 < M.2.2.1) : aa_Go M d pc (a0 :: x0 :: x1 :: tl) (.long x :: st) σ pn (a0 :: some (.long x) :: none :: tl) st σ := ⟨Nat.le_refl _, Nat.le_refl _, fun p l e R s m args below meth c D cA b z c0 s0 Q ok _ _ _ _ K H locs lsA hP hz hS hl => by
  refine lv_lstore_n ok.1 ok.2.1 h.1 rfl hl hn rfl (fun ls1 hl1 => ?_)
  have K1 := K H locs ls1 hP hz hS (aa_lv_set2 (v := .long x) hl1 (aa_s2_1 (x0 := x0) (x1 := x1) hc))
  rw [← h.2] at K1
  exact K1⟩
theorem aa_lstore2 {a0 a1 : Option Value} {x0 x1 : Option Value} {x : Int64} (h : aa_At M pc (.lstore_n 2) 1 pn) (hc : aa_c1 a1 = true) (hn : 2 + 1 < M.2.2.1) : aa_Go M d pc (a0 :: a1 :: x0 :: x1 :: tl) (.long x :: st) σ pn (a0 :: a1 :: some (.long x) :: none :: tl) st σ := ⟨Nat.le_refl _, Nat.le_refl _, fun p l e R s m args below meth c D cA b z c0 s0 Q ok _ _ _ _ K H locs lsA hP hz hS hl => by
  refine lv_lstore_n ok.1 ok.2.1 h.1 rfl hl hn rfl (fun ls1 hl1 => ?_)
  have K1 := K H locs ls1 hP hz hS (aa_lv_set2 (v := .long x) hl1 (aa_s2_2 (x0 := x0) (x1 := x1) hc))
  rw [← h.2] at K1
  exact K1⟩
theorem aa_lstore3 {a0 a1 a2 : Option Value} {x0 x1 : Option Value} {x : Int64} (h : aa_At M pc (.lstore_n 3) 1 pn) (hc : aa_c1 a2 = true) (hn : 3 + 1 < M.2.2.1) : aa_Go M d pc (a0 :: a1 :: a2 :: x0 :: x1 :: tl) (.long x :: st) σ pn (a0 :: a1 :: a2 :: some (.long x) :: none :: tl) st σ := ⟨Nat.le_refl _, Nat.le_refl _, fun p l e R s m args below meth c D cA b z c0 s0 Q ok _ _ _ _ K H locs lsA hP hz hS hl => by
  refine lv_lstore_n ok.1 ok.2.1 h.1 rfl hl hn rfl (fun ls1 hl1 => ?_)
  have K1 := K H locs ls1 hP hz hS (aa_lv_set2 (v := .long x) hl1 (aa_s2_3 (x0 := x0) (x1 := x1) hc))
  rw [← h.2] at K1
  exact K1⟩
theorem aa_lstore4 {a0 a1 a2 a3 : Option Value} {x0 x1 : Option Value} {x : Int64} (h : aa_At M pc (.lstore 4) 2 pn) (hc : aa_c1 a3 = true) (hn : 4 + 1 < M.2.2.1) : aa_Go M d pc (a0 :: a1 :: a2 :: a3 :: x0 :: x1 :: tl) (.long x :: st) σ pn (a0 :: a1 :: a2 :: a3 :: some (.long x) :: none :: tl) st σ := ⟨Nat.le_refl _, Nat.le_refl _, fun p l e R s m args below meth c D cA b z c0 s0 Q ok _ _ _ _ K H locs lsA hP hz hS hl => by
  refine lv_lstore ok.1 ok.2.1 h.1 hl hn rfl (fun ls1 hl1 => ?_)
  have K1 := K H locs ls1 hP hz hS (aa_lv_set2 (v := .long x) hl1 (aa_s2_4 (x0 := x0) (x1 := x1) hc))
  rw [← h.2] at K1
  exact K1⟩
theorem aa_lstore5 {a0 a1 a2 a3 a4 : Option Value} {x0 x1 : Option Value} {x : Int64} (h : aa_At M pc (.lstore 5) 2 pn) (hc : aa_c1 a4 = true) (hn : 5 + 1 < M.2.2.1) : aa_Go M d pc (a0 :: a1 :: a2 :: a3 :: a4 :: x0 :: x1 :: tl) (.long x :: st) σ pn (a0 :: a1 :: a2 :: a3 :: a4 :: some (.long x) :: none :: tl) st σ := ⟨Nat.le_refl _, Nat.le_refl _, fun p l e R s m args below meth c D cA b z c0 s0 Q ok _ _ _ _ K H locs lsA hP hz hS hl => by
  refine lv_lstore ok.1 ok.2.1 h.1 hl hn rfl (fun ls1 hl1 => ?_)
  have K1 := K H locs ls1 hP hz hS (aa_lv_set2 (v := .long x) hl1 (aa_s2_5 (x0 := x0) (x1 := x1) hc))
  rw [← h.2] at K1
  exact K1⟩
theorem aa_lstore6 {a0 a1 a2 a3 a4 a5 : Option Value} {x0 x1 : Option Value} {x : Int64} (h : aa_At M pc (.lstore 6) 2 pn) (hc : aa_c1 a5 = true) (hn : 6 + 1 < M.2.2.1) : aa_Go M d pc (a0 :: a1 :: a2 :: a3 :: a4 :: a5 :: x0 :: x1 :: tl) (.long x :: st) σ pn (a0 :: a1 :: a2 :: a3 :: a4 :: a5 :: some (.long x) :: none :: tl) st σ := ⟨Nat.le_refl _, Nat.le_refl _, fun p l e R s m args below meth c D cA b z c0 s0 Q ok _ _ _ _ K H locs lsA hP hz hS hl => by
  refine lv_lstore ok.1 ok.2.1 h.1 hl hn rfl (fun ls1 hl1 => ?_)
  have K1 := K H locs ls1 hP hz hS (aa_lv_set2 (v := .long x) hl1 (aa_s2_6 (x0 := x0) (x1 := x1) hc))
  rw [← h.2] at K1
  exact K1⟩
theorem aa_lstore7 {a0 a1 a2 a3 a4 a5 a6 : Option Value} {x0 x1 : Option Value} {x : Int64} (h : aa_At M pc (.lstore 7) 2 pn) (hc : aa_c1 a6 = true) (hn : 7 + 1 < M.2.2.1) : aa_Go M d pc (a0 :: a1 :: a2 :: a3 :: a4 :: a5 :: a6 :: x0 :: x1 :: tl) (.long x :: st) σ pn (a0 :: a1 :: a2 :: a3 :: a4 :: a5 :: a6 :: some (.long x) :: none :: tl) st σ := ⟨Nat.le_refl _, Nat.le_refl _, fun p l e R s m args below meth c D cA b z c0 s0 Q ok _ _ _ _ K H locs lsA hP hz hS hl => by
  refine lv_lstore ok.1 ok.2.1 h.1 hl hn rfl (fun ls1 hl1 => ?_)
  have K1 := K H locs ls1 hP hz hS (aa_lv_set2 (v := .long x) hl1 (aa_s2_7 (x0 := x0) (x1 := x1) hc))
  rw [← h.2] at K1
  exact K1⟩
theorem aa_lstore8 {a0 a1 a2 a3 a4 a5 a6 a7 : Option Value} {x0 x1 : Option Value} {x : Int64} (h : aa_At M pc (.lstore 8) 2 pn) (hc : aa_c1 a7 = true) (hn : 8 + 1 < M.2.2.1) : aa_Go M d pc (a0 :: a1 :: a2 :: a3 :: a4 :: a5 :: a6 :: a7 :: x0 :: x1 :: tl) (.long x :: st) σ pn (a0 :: a1 :: a2 :: a3 :: a4 :: a5 :: a6 :: a7 :: some (.long x) :: none :: tl) st σ := ⟨Nat.le_refl _, Nat.le_refl _, fun p l e R s m args below meth c D cA b z c0 s0 Q ok _ _ _ _ K H locs lsA hP hz hS hl => by
  refine lv_lstore ok.1 ok.2.1 h.1 hl hn rfl (fun ls1 hl1 => ?_)
  have K1 := K H locs ls1 hP hz hS (aa_lv_set2 (v := .long x) hl1 (aa_s2_8 (x0 := x0) (x1 := x1) hc))
  rw [← h.2] at K1
  exact K1⟩
theorem aa_lstore9 {a0 a1 a2 a3 a4 a5 a6 a7 a8 : Option Value} {x0 x1 : Option Value} {x : Int64} (h : aa_At M pc (.lstore 9) 2 pn) (hc : aa_c1 a8 = true) (hn : 9 + 1 < M.2.2.1) : aa_Go M d pc (a0 :: a1 :: a2 :: a3 :: a4 :: a5 :: a6 :: a7 :: a8 :: x0 :: x1 :: tl) (.long x :: st) σ pn (a0 :: a1 :: a2 :: a3 :: a4 :: a5 :: a6 :: a7 :: a8 :: some (.long x) :: none :: tl) st σ := ⟨Nat.le_refl _, Nat.le_refl _, fun p l e R s m args below meth c D cA b z c0 s0 Q ok _ _ _ _ K H locs lsA hP hz hS hl => by
  refine lv_lstore ok.1 ok.2.1 h.1 hl hn rfl (fun ls1 hl1 => ?_)
  have K1 := K H locs ls1 hP hz hS (aa_lv_set2 (v := .long x) hl1 (aa_s2_9 (x0 := x0) (x1 := x1) hc))
  rw [← h.2] at K1
  exact K1⟩
theorem aa_lstore10 {a0 a1 a2 a3 a4 a5 a6 a7 a8 a9 : Option Value} {x0 x1 : Option Value} {x : Int64} (h : aa_At M pc (.lstore 10) 2 pn) (hc : aa_c1 a9 = true) (hn : 10 + 1 < M.2.2.1) : aa_Go M d pc (a0 :: a1 :: a2 :: a3 :: a4 :: a5 :: a6 :: a7 :: a8 :: a9 :: x0 :: x1 :: tl) (.long x :: st) σ pn (a0 :: a1 :: a2 :: a3 :: a4 :: a5 :: a6 :: a7 :: a8 :: a9 :: some (.long x) :: none :: tl) st σ := ⟨Nat.le_refl _, Nat.le_refl _, fun p l e R s m args below meth c D cA b z c0 s0 Q ok _ _ _ _ K H locs lsA hP hz hS hl => by
  refine lv_lstore ok.1 ok.2.1 h.1 hl hn rfl (fun ls1 hl1 => ?_)
  have K1 := K H locs ls1 hP hz hS (aa_lv_set2 (v := .long x) hl1 (aa_s2_10 (x0 := x0) (x1 := x1) hc))
  rw [← h.2] at K1
  exact K1⟩
theorem aa_lstore11 {a0 a1 a2 a3 a4 a5 a6 a7 a8 a9 a10 : Option Value} {x0 x1 : Option Value} {x : Int64} (h : aa_At M pc (.lstore 11) 2 pn) (hc : aa_c1 a10 = true) (hn : 11 + 1 < M.2.2.1) : aa_Go M d pc (a0 :: a1 :: a2 :: a3 :: a4 :: a5 :: a6 :: a7 :: a8 :: a9 :: a10 :: x0 :: x1 :: tl) (.long x :: st) σ pn (a0 :: a1 :: a2 :: a3 :: a4 :: a5 :: a6 :: a7 :: a8 :: a9 :: a10 :: some (.long x) :: none :: tl) st σ := ⟨Nat.le_refl _, Nat.le_refl _, fun p l e R s m args below meth c D cA b z c0 s0 Q ok _ _ _ _ K H locs lsA hP hz hS hl => by
  refine lv_lstore ok.1 ok.2.1 h.1 hl hn rfl (fun ls1 hl1 => ?_)
  have K1 := K H locs ls1 hP hz hS (aa_lv_set2 (v := .long x) hl1 (aa_s2_11 (x0 := x0) (x1 := x1) hc))
  rw [← h.2] at K1
  exact K1⟩
theorem aa_lstore12 {a0 a1 a2 a3 a4 a5 a6 a7 a8 a9 a10 a11 : Option Value} {x0 x1 : Option Value} {x : Int64} (h : aa_At M pc (.lstore 12) 2 pn) (hc : aa_c1 a11 = true) (hn : 12 + 1 < M.2.2.1) : aa_Go M d pc (a0 :: a1 :: a2 :: a3 :: a4 :: a5 :: a6 :: a7 :: a8 :: a9 :: a10 :: a11 :: x0 :: x1 :: tl) (.long x :: st) σ pn (a0 :: a1 :: a2 :: a3 :: a4 :: a5 :: a6 :: a7 :: a8 :: a9 :: a10 :: a11 :: some (.long x) :: none :: tl) st σ := ⟨Nat.le_refl _, Nat.le_refl _, fun p l e R s m args below meth c D cA b z c0 s0 Q ok _ _ _ _ K H locs lsA hP hz hS hl => by
  refine lv_lstore ok.1 ok.2.1 h.1 hl hn rfl (fun ls1 hl1 => ?_)
  have K1 := K H locs ls1 hP hz hS (aa_lv_set2 (v := .long x) hl1 (aa_s2_12 (x0 := x0) (x1 := x1) hc))
  rw [← h.2] at K1
  exact K1⟩
theorem aa_lstore13 {a0 a1 a2 a3 a4 a5 a6 a7 a8 a9 a10 a11 a12 : Option Value} {x0 x1 : Option Value} {x : Int64} (h : aa_At M pc (.lstore 13) 2 pn) (hc : aa_c1 a12 = true) (hn : 13 + 1 < M.2.2.1) : aa_Go M d pc (a0 :: a1 :: a2 :: a3 :: a4 :: a5 :: a6 :: a7 :: a8 :: a9 :: a10 :: a11 :: a12 :: x0 :: x1 :: tl) (.long x :: st) σ pn (a0 :: a1 :: a2 :: a3 :: a4 :: a5 :: a6 :: a7 :: a8 :: a9 :: a10 :: a11 :: a12 :: some (.long x) :: none :: tl) st σ := ⟨Nat.le_refl _, Nat.le_refl _, fun p l e R s m args below meth c D cA b z c0 s0 Q ok _ _ _ _ K H locs lsA hP hz hS hl => by
  refine lv_lstore ok.1 ok.2.1 h.1 hl hn rfl (fun ls1 hl1 => ?_)
  have K1 := K H locs ls1 hP hz hS (aa_lv_set2 (v := .long x) hl1 (aa_s2_13 (x0 := x0) (x1 := x1) hc))
  rw [← h.2] at K1
  exact K1⟩
theorem aa_lstore14 {a0 a1 a2 a3 a4 a5 a6 a7 a8 a9 a10 a11 a12 a13 : Option Value} {x0 x1 : Option Value} {x : Int64} (h : aa_At M pc (.lstore 14) 2 pn) (hc : aa_c1 a13 = true) (hn : 14 + 1 < M.2.2.1) : aa_Go M d pc (a0 :: a1 :: a2 :: a3 :: a4 :: a5 :: a6 :: a7 :: a8 :: a9 :: a10 :: a11 :: a12 :: a13 :: x0 :: x1 :: tl) (.long x :: st) σ pn (a0 :: a1 :: a2 :: a3 :: a4 :: a5 :: a6 :: a7 :: a8 :: a9 :: a10 :: a11 :: a12 :: a13 :: some (.long x) :: none :: tl) st σ := ⟨Nat.le_refl _, Nat.le_refl _, fun p l e R s m args below meth c D cA b z c0 s0 Q ok _ _ _ _ K H locs lsA hP hz hS hl => by
  refine lv_lstore ok.1 ok.2.1 h.1 hl hn rfl (fun ls1 hl1 => ?_)
  have K1 := K H locs ls1 hP hz hS (aa_lv_set2 (v := .long x) hl1 (aa_s2_14 (x0 := x0) (x1 := x1) hc))
  rw [← h.2] at K1
  exact K1⟩
theorem aa_lstore15 {a0 a1 a2 a3 a4 a5 a6 a7 a8 a9 a10 a11 a12 a13 a14 : Option Value} {x0 x1 : Option Value} {x : Int64} (h : aa_At M pc (.lstore 15) 2 pn) (hc : aa_c1 a14 = true) (hn : 15 + 1 < M.2.2.1) : aa_Go M d pc (a0 :: a1 :: a2 :: a3 :: a4 :: a5 :: a6 :: a7 :: a8 :: a9 :: a10 :: a11 :: a12 :: a13 :: a14 :: x0 :: x1 :: tl) (.long x :: st) σ pn (a0 :: a1 :: a2 :: a3 :: a4 :: a5 :: a6 :: a7 :: a8 :: a9 :: a10 :: a11 :: a12 :: a13 :: a14 :: some (.long x) :: none :: tl) st σ := ⟨Nat.le_refl _, Nat.le_refl _, fun p l e R s m args below meth c D cA b z c0 s0 Q ok _ _ _ _ K H locs lsA hP hz hS hl => by
  refine lv_lstore ok.1 ok.2.1 h.1 hl hn rfl (fun ls1 hl1 => ?_)
  have K1 := K H locs ls1 hP hz hS (aa_lv_set2 (v := .long x) hl1 (aa_s2_15 (x0 := x0) (x1 := x1) hc))
  rw [← h.2] at K1
  exact K1⟩
theorem aa_lstore16 {a0 a1 a2 a3 a4 a5 a6 a7 a8 a9 a10 a11 a12 a13 a14 a15 : Option Value} {x0 x1 : Option Value} {x : Int64} (h : aa_At M pc (.lstore 16) 2 pn) (hc : aa_c1 a15 = true) (hn : 16 + 1 < M.2.2.1) : aa_Go M d pc (a0 :: a1 :: a2 :: a3 :: a4 :: a5 :: a6 :: a7 :: a8 :: a9 :: a10 :: a11 :: a12 :: a13 :: a14 :: a15 :: x0 :: x1 :: tl) (.long x :: st) σ pn (a0 :: a1 :: a2 :: a3 :: a4 :: a5 :: a6 :: a7 :: a8 :: a9 :: a10 :: a11 :: a12 :: a13 :: a14 :: a15 :: some (.long x) :: none :: tl) st σ := ⟨Nat.le_refl _, Nat.le_refl _, fun p l e R s m args below meth c D cA b z c0 s0 Q ok _ _ _ _ K H locs lsA hP hz hS hl => by
  refine lv_lstore ok.1 ok.2.1 h.1 hl hn rfl (fun ls1 hl1 => ?_)
  have K1 := K H locs ls1 hP hz hS (aa_lv_set2 (v := .long x) hl1 (aa_s2_16 (x0 := x0) (x1 := x1) hc))
  rw [← h.2] at K1
  exact K1⟩
theorem aa_lstore17 {a0 a1 a2 a3 a4 a5 a6 a7 a8 a9 a10 a11 a12 a13 a14 a15 a16 : Option Value} {x0 x1 : Option Value} {x : Int64} (h : aa_At M pc (.lstore 17) 2 pn) (hc : aa_c1 a16 = true) (hn : 17 + 1 < M.2.2.1) : aa_Go M d pc (a0 :: a1 :: a2 :: a3 :: a4 :: a5 :: a6 :: a7 :: a8 :: a9 :: a10 :: a11 :: a12 :: a13 :: a14 :: a15 :: a16 :: x0 :: x1 :: tl) (.long x :: st) σ pn (a0 :: a1 :: a2 :: a3 :: a4 :: a5 :: a6 :: a7 :: a8 :: a9 :: a10 :: a11 :: a12 :: a13 :: a14 :: a15 :: a16 :: some (.long x) :: none :: tl) st σ := ⟨Nat.le_refl _, Nat.le_refl _, fun p l e R s m args below meth c D cA b z c0 s0 Q ok _ _ _ _ K H locs lsA hP hz hS hl => by
  refine lv_lstore ok.1 ok.2.1 h.1 hl hn rfl (fun ls1 hl1 => ?_)
  have K1 := K H locs ls1 hP hz hS (aa_lv_set2 (v := .long x) hl1 (aa_s2_17 (x0 := x0) (x1 := x1) hc))
  rw [← h.2] at K1
  exact K1⟩
theorem aa_lstore18 {a0 a1 a2 a3 a4 a5 a6 a7 a8 a9 a10 a11 a12 a13 a14 a15 a16 a17 : Option Value} {x0 x1 : Option Value} {x : Int64} (h : aa_At M pc (.lstore 18) 2 pn) (hc : aa_c1 a17 = true) (hn : 18 + 1 < M.2.2.1) : aa_Go M d pc (a0 :: a1 :: a2 :: a3 :: a4 :: a5 :: a6 :: a7 :: a8 :: a9 :: a10 :: a11 :: a12 :: a13 :: a14 :: a15 :: a16 :: a17 :: x0 :: x1 :: tl) (.long x :: st) σ pn (a0 :: a1 :: a2 :: a3 :: a4 :: a5 :: a6 :: a7 :: a8 :: a9 :: a10 :: a11 :: a12 :: a13 :: a14 :: a15 :: a16 :: a17 :: some (.long x) :: none :: tl) st σ := ⟨Nat.le_refl _, Nat.le_refl _, fun p l e R s m args below meth c D cA b z c0 s0 Q ok _ _ _ _ K H locs lsA hP hz hS hl => by
  refine lv_lstore ok.1 ok.2.1 h.1 hl hn rfl (fun ls1 hl1 => ?_)
  have K1 := K H locs ls1 hP hz hS (aa_lv_set2 (v := .long x) hl1 (aa_s2_18 (x0 := x0) (x1 := x1) hc))
  rw [← h.2] at K1
  exact K1⟩
theorem aa_lstore19 {a0 a1 a2 a3 a4 a5 a6 a7 a8 a9 a10 a11 a12 a13 a14 a15 a16 a17 a18 : Option Value} {x0 x1 : Option Value} {x : Int64} (h : aa_At M pc (.lstore 19) 2 pn) (hc : aa_c1 a18 = true) (hn : 19 + 1 < M.2.2.1) : aa_Go M d pc (a0 :: a1 :: a2 :: a3 :: a4 :: a5 :: a6 :: a7 :: a8 :: a9 :: a10 :: a11 :: a12 :: a13 :: a14 :: a15 :: a16 :: a17 :: a18 :: x0 :: x1 :: tl) (.long x :: st) σ pn (a0 :: a1 :: a2 :: a3 :: a4 :: a5 :: a6 :: a7 :: a8 :: a9 :: a10 :: a11 :: a12 :: a13 :: a14 :: a15 :: a16 :: a17 :: a18 :: some (.long x) :: none :: tl) st σ := ⟨Nat.le_refl _, Nat.le_refl _, fun p l e R s m args below meth c D cA b z c0 s0 Q ok _ _ _ _ K H locs lsA hP hz hS hl => by
  refine lv_lstore ok.1 ok.2.1 h.1 hl hn rfl (fun ls1 hl1 => ?_)
  have K1 := K H locs ls1 hP hz hS (aa_lv_set2 (v := .long x) hl1 (aa_s2_19 (x0 := x0) (x1 := x1) hc))
  rw [← h.2] at K1
  exact K1⟩
theorem aa_if_eqT {x : Int32} {tgt : Nat} (h : aa_J M pc (.ifCond .eq) pn tgt) (hx : x = 0) : aa_Go M d pc ls (.int x :: st) σ tgt ls st σ := ⟨Nat.le_refl _, Nat.le_refl _, fun p l e R s m args below meth c D cA b z c0 s0 Q ok _ _ _ _ K H locs lsA hP hz hS hl => by
  obtain ⟨off, h1, h2, h3⟩ := h
  exact lv_if_eq ok.1 ok.2.1 h1 h3 (fun _ => K H locs lsA hP hz hS hl) (fun q => absurd hx q)⟩
theorem aa_if_eqF {x : Int32} {tgt : Nat} (h : aa_J M pc (.ifCond .eq) pn tgt) (hx : ¬ x = 0) : aa_Go M d pc ls (.int x :: st) σ pn ls st σ := ⟨Nat.le_refl _, Nat.le_refl _, fun p l e R s m args below meth c D cA b z c0 s0 Q ok _ _ _ _ K H locs lsA hP hz hS hl => by
  obtain ⟨off, h1, h2, h3⟩ := h
  exact lv_if_eq ok.1 ok.2.1 h1 h3 (fun q => absurd q hx) (fun _ => by rw [h2]; exact K H locs lsA hP hz hS hl)⟩
theorem aa_if_eq {x : Int32} {tgt : Nat} {Q : Option Value → aa_St → Prop} (h : aa_J M pc (.ifCond .eq) pn tgt) (kt : x = 0 → aa_V M d tgt ls st σ Q) (kf : ¬ x = 0 → aa_V M d pn ls st σ Q) : aa_V M d pc ls (.int x :: st) σ Q := by
  by_cases hx : x = 0
  · exact aa_go (aa_if_eqT h hx) (kt hx)
  · exact aa_go (aa_if_eqF h hx) (kf hx)
theorem aa_if_neT {x : Int32} {tgt : Nat} (h : aa_J M pc (.ifCond .ne) pn tgt) (hx : ¬ x = 0) : aa_Go M d pc ls (.int x :: st) σ tgt ls st σ := ⟨Nat.le_refl _, Nat.le_refl _, fun p l e R s m args below meth c D cA b z c0 s0 Q ok _ _ _ _ K H locs lsA hP hz hS hl => by
  obtain ⟨off, h1, h2, h3⟩ := h
  exact lv_if_ne ok.1 ok.2.1 h1 h3 (fun _ => K H locs lsA hP hz hS hl) (fun q => absurd q hx)⟩
theorem aa_if_neF {x : Int32} {tgt : Nat} (h : aa_J M pc (.ifCond .ne) pn tgt) (hx : x = 0) : aa_Go M d pc ls (.int x :: st) σ pn ls st σ := ⟨Nat.le_refl _, Nat.le_refl _, fun p l e R s m args below meth c D cA b z c0 s0 Q ok _ _ _ _ K H locs lsA hP hz hS hl => by
  obtain ⟨off, h1, h2, h3⟩ := h
  exact lv_if_ne ok.1 ok.2.1 h1 h3 (fun q => absurd hx q) (fun _ => by rw [h2]; exact K H locs lsA hP hz hS hl)⟩
theorem aa_if_ne {x : Int32} {tgt : Nat} {Q : Option Value → aa_St → Prop} (h : aa_J M pc (.ifCond .ne) pn tgt) (kt : ¬ x = 0 → aa_V M d tgt ls st σ Q) (kf : x = 0 → aa_V M d pn ls st σ Q) : aa_V M d pc ls (.int x :: st) σ Q := by
  by_cases hx : ¬ x = 0
  · exact aa_go (aa_if_neT h hx) (kt hx)
  · exact aa_go (aa_if_neF h (Classical.not_not.mp hx)) (kf (Classical.not_not.mp hx))
theorem aa_if_ltT {x : Int32} {tgt : Nat} (h : aa_J M pc (.ifCond .lt) pn tgt) (hx : x < 0) : aa_Go M d pc ls (.int x :: st) σ tgt ls st σ := ⟨Nat.le_refl _, Nat.le_refl _, fun p l e R s m args below meth c D cA b z c0 s0 Q ok _ _ _ _ K H locs lsA hP hz hS hl => by
  obtain ⟨off, h1, h2, h3⟩ := h
  exact lv_if_lt ok.1 ok.2.1 h1 h3 (fun _ => K H locs lsA hP hz hS hl) (fun q => absurd hx q)⟩
theorem aa_if_ltF {x : Int32} {tgt : Nat} (h : aa_J M pc (.ifCond .lt) pn tgt) (hx : ¬ x < 0) : aa_Go M d pc ls (.int x :: st) σ pn ls st σ := ⟨Nat.le_refl _, Nat.le_refl _, fun p l e R s m args below meth c D cA b z c0 s0 Q ok _ _ _ _ K H locs lsA hP hz hS hl => by
  obtain ⟨off, h1, h2, h3⟩ := h
  exact lv_if_lt ok.1 ok.2.1 h1 h3 (fun q => absurd q hx) (fun _ => by rw [h2]; exact K H locs lsA hP hz hS hl)⟩
theorem aa_if_lt {x : Int32} {tgt : Nat} {Q : Option Value → aa_St → Prop} (h : aa_J M pc (.ifCond .lt) pn tgt) (kt : x < 0 → aa_V M d tgt ls st σ Q) (kf : ¬ x < 0 → aa_V M d pn ls st σ Q) : aa_V M d pc ls (.int x :: st) σ Q := by
  by_cases hx : x < 0
  · exact aa_go (aa_if_ltT h hx) (kt hx)
  · exact aa_go (aa_if_ltF h hx) (kf hx)
theorem aa_if_geT {x : Int32} {tgt : Nat} (h : aa_J M pc (.ifCond .ge) pn tgt) (hx : 0 ≤ x) : aa_Go M d pc ls (.int x :: st) σ tgt ls st σ := ⟨Nat.le_refl _, Nat.le_refl _, fun p l e R s m args below meth c D cA b z c0 s0 Q ok _ _ _ _ K H locs lsA hP hz hS hl => by
  obtain ⟨off, h1, h2, h3⟩ := h
  exact lv_if_ge ok.1 ok.2.1 h1 h3 (fun _ => K H locs lsA hP hz hS hl) (fun q => absurd hx q)⟩
theorem aa_if_geF {x : Int32} {tgt : Nat} (h : aa_J M pc (.ifCond .ge) pn tgt) (hx : ¬ 0 ≤ x) : aa_Go M d pc ls (.int x :: st) σ pn ls st σ := ⟨Nat.le_refl _, Nat.le_refl _, fun p l e R s m args below meth c D cA b z c0 s0 Q ok _ _ _ _ K H locs lsA hP hz hS hl => by
  obtain ⟨off, h1, h2, h3⟩ := h
  exact lv_if_ge ok.1 ok.2.1 h1 h3 (fun q => absurd q hx) (fun _ => by rw [h2]; exact K H locs lsA hP hz hS hl)⟩
theorem aa_if_ge {x : Int32} {tgt : Nat} {Q : Option Value → aa_St → Prop} (h : aa_J M pc (.ifCond .ge) pn tgt) (kt : 0 ≤ x → aa_V M d tgt ls st σ Q) (kf : ¬ 0 ≤ x → aa_V M d pn ls st σ Q) : aa_V M d pc ls (.int x :: st) σ Q := by
  by_cases hx : 0 ≤ x
  · exact aa_go (aa_if_geT h hx) (kt hx)
  · exact aa_go (aa_if_geF h hx) (kf hx)
theorem aa_if_gtT {x : Int32} {tgt : Nat} (h : aa_J M pc (.ifCond .gt) pn tgt) (hx : 0 < x) : aa_Go M d pc ls (.int x :: st) σ tgt ls st σ := ⟨Nat.le_refl _, Nat.le_refl _, fun p l e R s m args below meth c D cA b z c0 s0 Q ok _ _ _ _ K H locs lsA hP hz hS hl => by
  obtain ⟨off, h1, h2, h3⟩ := h
  exact lv_if_gt ok.1 ok.2.1 h1 h3 (fun _ => K H locs lsA hP hz hS hl) (fun q => absurd hx q)⟩
theorem aa_if_gtF {x : Int32} {tgt : Nat} (h : aa_J M pc (.ifCond .gt) pn tgt) (hx : ¬ 0 < x) : aa_Go M d pc ls (.int x :: st) σ pn ls st σ := ⟨Nat.le_refl _, Nat.le_refl _, fun p l e R s m args below meth c D cA b z c0 s0 Q ok _ _ _ _ K H locs lsA hP hz hS hl => by
  obtain ⟨off, h1, h2, h3⟩ := h
  exact lv_if_gt ok.1 ok.2.1 h1 h3 (fun q => absurd q hx) (fun _ => by rw [h2]; exact K H locs lsA hP hz hS hl)⟩
theorem aa_if_gt {x : Int32} {tgt : Nat} {Q : Option Value → aa_St → Prop} (h : aa_J M pc (.ifCond .gt) pn tgt) (kt : 0 < x → aa_V M d tgt ls st σ Q) (kf : ¬ 0 < x → aa_V M d pn ls st σ Q) : aa_V M d pc ls (.int x :: st) σ Q := by
  by_cases hx : 0 < x
  · exact aa_go (aa_if_gtT h hx) (kt hx)
  · exact aa_go (aa_if_gtF h hx) (kf hx)
theorem aa_if_leT {x : Int32} {tgt : Nat} (h : aa_J M pc (.ifCond .le) pn tgt) (hx : x ≤ 0) : aa_Go M d pc ls (.int x :: st) σ tgt ls st σ := ⟨Nat.le_refl _, Nat.le_refl _, fun p l e R s m args below meth c D cA b z c0 s0 Q ok _ _ _ _ K H locs lsA hP hz hS hl => by
  obtain ⟨off, h1, h2, h3⟩ := h
  exact lv_if_le ok.1 ok.2.1 h1 h3 (fun _ => K H locs lsA hP hz hS hl) (fun q => absurd hx q)⟩
theorem aa_if_leF {x : Int32} {tgt : Nat} (h : aa_J M pc (.ifCond .le) pn tgt) (hx : ¬ x ≤ 0) : aa_Go M d pc ls (.int x :: st) σ pn ls st σ := ⟨Nat.le_refl _, Nat.le_refl _, fun p l e R s m args below meth c D cA b z c0 s0 Q ok _ _ _ _ K H locs lsA hP hz hS hl => by
  obtain ⟨off, h1, h2, h3⟩ := h
  exact lv_if_le ok.1 ok.2.1 h1 h3 (fun q => absurd q hx) (fun _ => by rw [h2]; exact K H locs lsA hP hz hS hl)⟩
theorem aa_if_le {x : Int32} {tgt : Nat} {Q : Option Value → aa_St → Prop} (h : aa_J M pc (.ifCond .le) pn tgt) (kt : x ≤ 0 → aa_V M d tgt ls st σ Q) (kf : ¬ x ≤ 0 → aa_V M d pn ls st σ Q) : aa_V M d pc ls (.int x :: st) σ Q := by
  by_cases hx : x ≤ 0
  · exact aa_go (aa_if_leT h hx) (kt hx)
  · exact aa_go (aa_if_leF h hx) (kf hx)
theorem aa_ic_eqT {x y : Int32} {tgt : Nat} (h : aa_J M pc (.if_icmp .eq) pn tgt) (hx : x = y) : aa_Go M d pc ls (.int y :: .int x :: st) σ tgt ls st σ := ⟨Nat.le_refl _, Nat.le_refl _, fun p l e R s m args below meth c D cA b z c0 s0 Q ok _ _ _ _ K H locs lsA hP hz hS hl => by
  obtain ⟨off, h1, h2, h3⟩ := h
  exact lv_icmp_eq ok.1 ok.2.1 h1 h3 (fun _ => K H locs lsA hP hz hS hl) (fun q => absurd hx q)⟩
theorem aa_ic_eqF {x y : Int32} {tgt : Nat} (h : aa_J M pc (.if_icmp .eq) pn tgt) (hx : ¬ x = y) : aa_Go M d pc ls (.int y :: .int x :: st) σ pn ls st σ := ⟨Nat.le_refl _, Nat.le_refl _, fun p l e R s m args below meth c D cA b z c0 s0 Q ok _ _ _ _ K H locs lsA hP hz hS hl => by
  obtain ⟨off, h1, h2, h3⟩ := h
  exact lv_icmp_eq ok.1 ok.2.1 h1 h3 (fun q => absurd q hx) (fun _ => by rw [h2]; exact K H locs lsA hP hz hS hl)⟩
theorem aa_ic_eq {x y : Int32} {tgt : Nat} {Q : Option Value → aa_St → Prop} (h : aa_J M pc (.if_icmp .eq) pn tgt) (kt : x = y → aa_V M d tgt ls st σ Q) (kf : ¬ x = y → aa_V M d pn ls st σ Q) : aa_V M d pc ls (.int y :: .int x :: st) σ Q := by
  by_cases hx : x = y
  · exact aa_go (aa_ic_eqT h hx) (kt hx)
  · exact aa_go (aa_ic_eqF h hx) (kf hx)
theorem aa_ic_neT {x y : Int32} {tgt : Nat} (h : aa_J M pc (.if_icmp .ne) pn tgt) (hx : ¬ x = y) : aa_Go M d pc ls (.int y :: .int x :: st) σ tgt ls st σ := ⟨Nat.le_refl _, Nat.le_refl _, fun p l e R s m args below meth c D cA b z c0 s0 Q ok _ _ _ _ K H locs lsA hP hz hS hl => by
  obtain ⟨off, h1, h2, h3⟩ := h
  exact lv_icmp_ne ok.1 ok.2.1 h1 h3 (fun _ => K H locs lsA hP hz hS hl) (fun q => absurd q hx)⟩
theorem aa_ic_neF {x y : Int32} {tgt : Nat} (h : aa_J M pc (.if_icmp .ne) pn tgt) (hx : x = y) : aa_Go M d pc ls (.int y :: .int x :: st) σ pn ls st σ := ⟨Nat.le_refl _, Nat.le_refl _, fun p l e R s m args below meth c D cA b z c0 s0 Q ok _ _ _ _ K H locs lsA hP hz hS hl => by
  obtain ⟨off, h1, h2, h3⟩ := h
  exact lv_icmp_ne ok.1 ok.2.1 h1 h3 (fun q => absurd hx q) (fun _ => by rw [h2]; exact K H locs lsA hP hz hS hl)⟩
theorem aa_ic_ne {x y : Int32} {tgt : Nat} {Q : Option Value → aa_St → Prop} (h : aa_J M pc (.if_icmp .ne) pn tgt) (kt : ¬ x = y → aa_V M d tgt ls st σ Q) (kf : x = y → aa_V M d pn ls st σ Q) : aa_V M d pc ls (.int y :: .int x :: st) σ Q := by
  by_cases hx : ¬ x = y
  · exact aa_go (aa_ic_neT h hx) (kt hx)
  · exact aa_go (aa_ic_neF h (Classical.not_not.mp hx)) (kf (Classical.not_not.mp hx))
theorem aa_ic_ltT {x y : Int32} {tgt : Nat} (h : aa_J M pc (.if_icmp .lt) pn tgt) (hx : x < y) : aa_Go M d pc ls (.int y :: .int x :: st) σ tgt ls st σ := ⟨Nat.le_refl _, Nat.le_refl _, fun p l e R s m args below meth c D cA b z c0 s0 Q ok _ _ _ _ K H locs lsA hP hz hS hl => by
  obtain ⟨off, h1, h2, h3⟩ := h
  exact lv_icmp_lt ok.1 ok.2.1 h1 h3 (fun _ => K H locs lsA hP hz hS hl) (fun q => absurd hx q)⟩
theorem aa_ic_ltF {x y : Int32} {tgt : Nat} (h : aa_J M pc (.if_icmp .lt) pn tgt) (hx : ¬ x < y) : aa_Go M d pc ls (.int y :: .int x :: st) σ pn ls st σ := ⟨Nat.le_refl _, Nat.le_refl _, fun p l e R s m args below meth c D cA b z c0 s0 Q ok _ _ _ _ K H locs lsA hP hz hS hl => by
  obtain ⟨off, h1, h2, h3⟩ := h
  exact lv_icmp_lt ok.1 ok.2.1 h1 h3 (fun q => absurd q hx) (fun _ => by rw [h2]; exact K H locs lsA hP hz hS hl)⟩
theorem aa_ic_lt {x y : Int32} {tgt : Nat} {Q : Option Value → aa_St → Prop} (h : aa_J M pc (.if_icmp .lt) pn tgt) (kt : x < y → aa_V M d tgt ls st σ Q) (kf : ¬ x < y → aa_V M d pn ls st σ Q) : aa_V M d pc ls (.int y :: .int x :: st) σ Q := by
  by_cases hx : x < y
  · exact aa_go (aa_ic_ltT h hx) (kt hx)
  · exact aa_go (aa_ic_ltF h hx) (kf hx)
theorem aa_ic_geT {x y : Int32} {tgt : Nat} (h : aa_J M pc (.if_icmp .ge) pn tgt) (hx : y ≤ x) : aa_Go M d pc ls (.int y :: .int x :: st) σ tgt ls st σ := ⟨Nat.le_refl _, Nat.le_refl _, fun p l e R s m args below meth c D cA b z c0 s0 Q ok _ _ _ _ K H locs lsA hP hz hS hl => by
  obtain ⟨off, h1, h2, h3⟩ := h
  exact lv_icmp_ge ok.1 ok.2.1 h1 h3 (fun _ => K H locs lsA hP hz hS hl) (fun q => absurd hx q)⟩
theorem aa_ic_geF {x y : Int32} {tgt : Nat} (h : aa_J M pc (.if_icmp .ge) pn tgt) (hx : ¬ y ≤ x) : aa_Go M d pc ls (.int y :: .int x :: st) σ pn ls st σ := ⟨Nat.le_refl _, Nat.le_refl _, fun p l e R s m args below meth c D cA b z c0 s0 Q ok _ _ _ _ K H locs lsA hP hz hS hl => by
  obtain ⟨off, h1, h2, h3⟩ := h
  exact lv_icmp_ge ok.1 ok.2.1 h1 h3 (fun q => absurd q hx) (fun _ => by rw [h2]; exact K H locs lsA hP hz hS hl)⟩
theorem aa_ic_ge {x y : Int32} {tgt : Nat} {Q : Option Value → aa_St → Prop} (h : aa_J M pc (.if_icmp .ge) pn tgt) (kt : y ≤ x → aa_V M d tgt ls st σ Q) (kf : ¬ y ≤ x → aa_V M d pn ls st σ Q) : aa_V M d pc ls (.int y :: .int x :: st) σ Q := by
  by_cases hx : y ≤ x
  · exact aa_go (aa_ic_geT h hx) (kt hx)
  · exact aa_go (aa_ic_geF h hx) (kf hx)
theorem aa_ic_gtT {x y : Int32} {tgt : Nat} (h : aa_J M pc (.if_icmp .gt) pn tgt) (hx : y < x) : aa_Go M d pc ls (.int y :: .int x :: st) σ tgt ls st σ := ⟨Nat.le_refl _, Nat.le_refl _, fun p l e R s m args below meth c D cA b z c0 s0 Q ok _ _ _ _ K H locs lsA hP hz hS hl => by
  obtain ⟨off, h1, h2, h3⟩ := h
  exact lv_icmp_gt ok.1 ok.2.1 h1 h3 (fun _ => K H locs lsA hP hz hS hl) (fun q => absurd hx q)⟩
theorem aa_ic_gtF {x y : Int32} {tgt : Nat} (h : aa_J M pc (.if_icmp .gt) pn tgt) (hx : ¬ y < x) : aa_Go M d pc ls (.int y :: .int x :: st) σ pn ls st σ := ⟨Nat.le_refl _, Nat.le_refl _, fun p l e R s m args below meth c D cA b z c0 s0 Q ok _ _ _ _ K H locs lsA hP hz hS hl => by
  obtain ⟨off, h1, h2, h3⟩ := h
  exact lv_icmp_gt ok.1 ok.2.1 h1 h3 (fun q => absurd q hx) (fun _ => by rw [h2]; exact K H locs lsA hP hz hS hl)⟩
theorem aa_ic_gt {x y : Int32} {tgt : Nat} {Q : Option Value → aa_St → Prop} (h : aa_J M pc (.if_icmp .gt) pn tgt) (kt : y < x → aa_V M d tgt ls st σ Q) (kf : ¬ y < x → aa_V M d pn ls st σ Q) : aa_V M d pc ls (.int y :: .int x :: st) σ Q := by
  by_cases hx : y < x
  · exact aa_go (aa_ic_gtT h hx) (kt hx)
  · exact aa_go (aa_ic_gtF h hx) (kf hx)
theorem aa_ic_leT {x y : Int32} {tgt : Nat} (h : aa_J M pc (.if_icmp .le) pn tgt) (hx : x ≤ y) : aa_Go M d pc ls (.int y :: .int x :: st) σ tgt ls st σ := ⟨Nat.le_refl _, Nat.le_refl _, fun p l e R s m args below meth c D cA b z c0 s0 Q ok _ _ _ _ K H locs lsA hP hz hS hl => by
  obtain ⟨off, h1, h2, h3⟩ := h
  exact lv_icmp_le ok.1 ok.2.1 h1 h3 (fun _ => K H locs lsA hP hz hS hl) (fun q => absurd hx q)⟩
theorem aa_ic_leF {x y : Int32} {tgt : Nat} (h : aa_J M pc (.if_icmp .le) pn tgt) (hx : ¬ x ≤ y) : aa_Go M d pc ls (.int y :: .int x :: st) σ pn ls st σ := ⟨Nat.le_refl _, Nat.le_refl _, fun p l e R s m args below meth c D cA b z c0 s0 Q ok _ _ _ _ K H locs lsA hP hz hS hl => by
  obtain ⟨off, h1, h2, h3⟩ := h
  exact lv_icmp_le ok.1 ok.2.1 h1 h3 (fun q => absurd q hx) (fun _ => by rw [h2]; exact K H locs lsA hP hz hS hl)⟩
theorem aa_ic_le {x y : Int32} {tgt : Nat} {Q : Option Value → aa_St → Prop} (h : aa_J M pc (.if_icmp .le) pn tgt) (kt : x ≤ y → aa_V M d tgt ls st σ Q) (kf : ¬ x ≤ y → aa_V M d pn ls st σ Q) : aa_V M d pc ls (.int y :: .int x :: st) σ Q := by
  by_cases hx : x ≤ y
  · exact aa_go (aa_ic_leT h hx) (kt hx)
  · exact aa_go (aa_ic_leF h hx) (kf hx)
theorem aa_goto {tgt : Nat} (h : aa_J M pc .goto pn tgt) : aa_Go M d pc ls st σ tgt ls st σ := ⟨Nat.le_refl _, Nat.le_refl _, fun p l e R s m args below meth c D cA b z c0 s0 Q ok _ _ _ _ K H locs lsA hP hz hS hl => by
  obtain ⟨off, h1, h2, h3⟩ := h
  exact lv_goto ok.1 ok.2.1 h1 h3 (K H locs lsA hP hz hS hl)⟩
end
