section
variable {M : aa_M} {d pc pn : Nat} {ls tl : aa_L} {st : List Value} {σ : aa_St} {Q : Option Value → aa_St → Prop}
/-- the same values under other names -/
theorem aa_top {x y : Int32} (h : x = y) : aa_Go M d pc ls (.int x :: st) σ pc ls (.int y :: st) σ := by subst h; exact aa_Go.rfl
theorem aa_topl {x y : Int64} (h : x = y) : aa_Go M d pc ls (.long x :: st) σ pc ls (.long y :: st) σ := by subst h; exact aa_Go.rfl
theorem aa_sgm {σ' : aa_St} (h : σ = σ') : aa_Go M d pc ls st σ pc ls st σ' := by subst h; exact aa_Go.rfl
theorem aa_getE {a ci k idx : Nat} {fin : Bool} {ty : FieldType} {tp : List Value} {y v : Int32} (h : aa_At M pc (.getfield idx) 3 pn) (hF : aa_FL M.1.cls idx ci k fin ty) (hsh : σ.2.2.1[a]? = some (.inr (.inl (ci, tp)))) (htp : tp[k]? = some (.int y)) (he : σ.1 a k = v) :
    aa_Go M d pc ls (.ref a :: st) σ pn ls (.int v :: st) σ := he ▸ aa_getI h hF hsh htp
theorem aa_vin {k n : Nat} (hk : k < n) (hn : n < 2147483648) : vp_in (nI k) n := vp_in_nI hk hn
theorem aa_ialN {a n k : Nat} (h : aa_At M pc .iaload 1 pn) (hsh : σ.2.2.1[a]? = some (.inl (0, n))) (hn : n < 2147483648) (hk : k < n) : aa_Go M d pc ls (.int (nI k) :: .ref a :: st) σ pn ls (.int (σ.1 a k) :: st) σ := by
  have := aa_iald (d := d) (ls := ls) (st := st) h hsh (aa_vin hk hn)
  rwa [nI_clamp (Nat.lt_trans hk hn)] at this
theorem aa_ialE {a n k : Nat} {v : Int32} (h : aa_At M pc .iaload 1 pn) (hsh : σ.2.2.1[a]? = some (.inl (0, n))) (hn : n < 2147483648) (hk : k < n) (he : σ.1 a k = v) : aa_Go M d pc ls (.int (nI k) :: .ref a :: st) σ pn ls (.int v :: st) σ := he ▸ aa_ialN h hsh hn hk
theorem aa_zalN {a n k : Nat} (h : aa_At M pc .baload 1 pn) (hsh : σ.2.2.1[a]? = some (.inl (2, n))) (hn : n < 2147483648) (hk : k < n) : aa_Go M d pc ls (.int (nI k) :: .ref a :: st) σ pn ls (.int (σ.1 a k) :: st) σ := by
  have := aa_zald (d := d) (ls := ls) (st := st) h hsh (aa_vin hk hn)
  rwa [nI_clamp (Nat.lt_trans hk hn)] at this
theorem aa_zalE {a n k : Nat} {v : Int32} (h : aa_At M pc .baload 1 pn) (hsh : σ.2.2.1[a]? = some (.inl (2, n))) (hn : n < 2147483648) (hk : k < n) (he : σ.1 a k = v) : aa_Go M d pc ls (.int (nI k) :: .ref a :: st) σ pn ls (.int v :: st) σ := he ▸ aa_zalN h hsh hn hk
theorem aa_balN {a n k : Nat} (h : aa_At M pc .baload 1 pn) (hsh : σ.2.2.1[a]? = some (.inl (3, n))) (hn : n < 2147483648) (hk : k < n) : aa_Go M d pc ls (.int (nI k) :: .ref a :: st) σ pn ls (.int (σ.1 a k) :: st) σ := by
  have := aa_bald (d := d) (ls := ls) (st := st) h hsh (aa_vin hk hn)
  rwa [nI_clamp (Nat.lt_trans hk hn)] at this
theorem aa_lalN {a n k : Nat} (h : aa_At M pc .laload 1 pn) (hsh : σ.2.2.1[a]? = some (.inl (1, n))) (hn : n < 2147483648) (hk : k < n) : aa_Go M d pc ls (.int (nI k) :: .ref a :: st) σ pn ls (.long (σ.2.1 a k) :: st) σ := by
  have := aa_lald (d := d) (ls := ls) (st := st) h hsh (aa_vin hk hn)
  rwa [nI_clamp (Nat.lt_trans hk hn)] at this
theorem aa_lalE {a n k : Nat} {v : Int64} (h : aa_At M pc .laload 1 pn) (hsh : σ.2.2.1[a]? = some (.inl (1, n))) (hn : n < 2147483648) (hk : k < n) (he : σ.2.1 a k = v) : aa_Go M d pc ls (.int (nI k) :: .ref a :: st) σ pn ls (.long v :: st) σ := he ▸ aa_lalN h hsh hn hk
theorem aa_salN {k : Nat} (h : aa_At M pc .iaload 1 pn) (hk : k < 7) : aa_Go M d pc ls (.int (nI k) :: .float 0 :: st) σ pn ls (.int (aa_ls7 k) :: st) σ := by
  have := aa_sald (d := d) (ls := ls) (st := st) (σ := σ) h (aa_vin hk (by decide))
  rwa [nI_clamp (by omega)] at this
theorem aa_iasN {a n k : Nat} {x : Int32} (h : aa_At M pc .iastore 1 pn) (hsh : σ.2.2.1[a]? = some (.inl (0, n))) (hn : n < 2147483648) (hk : k < n) : aa_Go M d pc ls (.int x :: .int (nI k) :: .ref a :: st) σ pn ls st (aa_sI σ a k x) := by
  have := aa_iast (d := d) (ls := ls) (st := st) (x := x) h hsh (aa_vin hk hn)
  rwa [nI_clamp (Nat.lt_trans hk hn)] at this
theorem aa_zasN {a n k : Nat} {x : Int32} (h : aa_At M pc .bastore 1 pn) (hsh : σ.2.2.1[a]? = some (.inl (2, n))) (hn : n < 2147483648) (hk : k < n) (hx : narrow .boolean (.int x) = .int x) : aa_Go M d pc ls (.int x :: .int (nI k) :: .ref a :: st) σ pn ls st (aa_sI σ a k x) := by
  have := aa_zast (d := d) (ls := ls) (st := st) (x := x) h hsh (aa_vin hk hn) hx
  rwa [nI_clamp (Nat.lt_trans hk hn)] at this
theorem aa_basN {a n k : Nat} {x : Int32} (h : aa_At M pc .bastore 1 pn) (hsh : σ.2.2.1[a]? = some (.inl (3, n))) (hn : n < 2147483648) (hk : k < n) (hx : narrow .byte (.int x) = .int x) : aa_Go M d pc ls (.int x :: .int (nI k) :: .ref a :: st) σ pn ls st (aa_sI σ a k x) := by
  have := aa_bast (d := d) (ls := ls) (st := st) (x := x) h hsh (aa_vin hk hn) hx
  rwa [nI_clamp (Nat.lt_trans hk hn)] at this
theorem aa_lasN {a n k : Nat} {x : Int64} (h : aa_At M pc .lastore 1 pn) (hsh : σ.2.2.1[a]? = some (.inl (1, n))) (hn : n < 2147483648) (hk : k < n) : aa_Go M d pc ls (.long x :: .int (nI k) :: .ref a :: st) σ pn ls st (aa_sL σ a k x) := by
  have := aa_last (d := d) (ls := ls) (st := st) (x := x) h hsh (aa_vin hk hn)
  rwa [nI_clamp (Nat.lt_trans hk hn)] at this
theorem aa_cVi {M2 : aa_M} {d2 idx a ci : Nat} {As : List Value} {tp : List Value} {σ1 : aa_St} {r : Int32} {st0 : List Value} {T : u_T} {N : Nat} (h : aa_At M pc (.invokevirtual idx) 3 pn) (hS2 : aa_SX M2 d2 (.ref a :: As) σ (some (.int r)) σ1) (hd : d2 < d) (hC : aa_LC M2 As.length) (hL : aa_LV M.1.cls idx M2) (hsh : σ.2.2.1[a]? = some (.inr (.inl (ci, tp)))) (hci : vwCl[ci]? = some (M2.1.cls, T, N)) (hst : As.reverse ++ .ref a :: st = st0) (hrm : (st.map fun v => v.category).sum ≤ 8) :
    aa_Go M d pc ls st0 σ pn ls (.int r :: st) σ1 := aa_callV (v1 := [.int r]) h hS2 hd hC hL hsh hci hst rfl (fun _ _ => rfl) hrm
theorem aa_cVl {M2 : aa_M} {d2 idx a ci : Nat} {As : List Value} {tp : List Value} {σ1 : aa_St} {r : Int64} {st0 : List Value} {T : u_T} {N : Nat} (h : aa_At M pc (.invokevirtual idx) 3 pn) (hS2 : aa_SX M2 d2 (.ref a :: As) σ (some (.long r)) σ1) (hd : d2 < d) (hC : aa_LC M2 As.length) (hL : aa_LV M.1.cls idx M2) (hsh : σ.2.2.1[a]? = some (.inr (.inl (ci, tp)))) (hci : vwCl[ci]? = some (M2.1.cls, T, N)) (hst : As.reverse ++ .ref a :: st = st0) (hrm : (st.map fun v => v.category).sum ≤ 8) :
    aa_Go M d pc ls st0 σ pn ls (.long r :: st) σ1 := aa_callV (v1 := [.long r]) h hS2 hd hC hL hsh hci hst rfl (fun _ _ => rfl) hrm
theorem aa_cVv {M2 : aa_M} {d2 idx a ci : Nat} {As : List Value} {tp : List Value} {σ1 : aa_St} {st0 : List Value} {T : u_T} {N : Nat} (h : aa_At M pc (.invokevirtual idx) 3 pn) (hS2 : aa_SX M2 d2 (.ref a :: As) σ none σ1) (hd : d2 < d) (hC : aa_LC M2 As.length) (hL : aa_LV M.1.cls idx M2) (hsh : σ.2.2.1[a]? = some (.inr (.inl (ci, tp)))) (hci : vwCl[ci]? = some (M2.1.cls, T, N)) (hst : As.reverse ++ .ref a :: st = st0) (hrm : (st.map fun v => v.category).sum ≤ 8) :
    aa_Go M d pc ls st0 σ pn ls st σ1 := aa_callV (v1 := []) h hS2 hd hC hL hsh hci hst rfl (fun _ _ => rfl) hrm
theorem aa_cSi {M2 : aa_M} {d2 idx : Nat} {As : List Value} {σ1 : aa_St} {r : Int32} {st0 : List Value} (h : aa_At M pc (.invokestatic idx) 3 pn) (hS2 : aa_SX M2 d2 As σ (some (.int r)) σ1) (hd : d2 < d) (hC : aa_LC M2 As.length) (hL : aa_LS M.1.cls idx M2) (hst : As.reverse ++ st = st0) (hrm : (st.map fun v => v.category).sum ≤ 8) :
    aa_Go M d pc ls st0 σ pn ls (.int r :: st) σ1 := aa_callS (v1 := [.int r]) h hS2 hd hC hL hst rfl (fun _ _ => rfl) hrm
theorem aa_cSl {M2 : aa_M} {d2 idx : Nat} {As : List Value} {σ1 : aa_St} {r : Int64} {st0 : List Value} (h : aa_At M pc (.invokestatic idx) 3 pn) (hS2 : aa_SX M2 d2 As σ (some (.long r)) σ1) (hd : d2 < d) (hC : aa_LC M2 As.length) (hL : aa_LS M.1.cls idx M2) (hst : As.reverse ++ st = st0) (hrm : (st.map fun v => v.category).sum ≤ 8) :
    aa_Go M d pc ls st0 σ pn ls (.long r :: st) σ1 := aa_callS (v1 := [.long r]) h hS2 hd hC hL hst rfl (fun _ _ => rfl) hrm
theorem aa_cSv {M2 : aa_M} {d2 idx : Nat} {As : List Value} {σ1 : aa_St} {st0 : List Value} (h : aa_At M pc (.invokestatic idx) 3 pn) (hS2 : aa_SX M2 d2 As σ none σ1) (hd : d2 < d) (hC : aa_LC M2 As.length) (hL : aa_LS M.1.cls idx M2) (hst : As.reverse ++ st = st0) (hrm : (st.map fun v => v.category).sum ≤ 8) :
    aa_Go M d pc ls st0 σ pn ls st σ1 := aa_callS (v1 := []) h hS2 hd hC hL hst rfl (fun _ _ => rfl) hrm
end
