/-! bits of a long number -/
theorem pc_cut {e w : Nat} (h : pcB e (w + 1)) : ∃ b x, e = b + 256 * x ∧ b ≤ 12 ∧ pcB x w ∧ pcS8 e (w + 1) = b + pcS8 x w := by
  refine ⟨e % 256, e / 256, by omega, ?_, ?_, ?_⟩
  · simp only [pcB] at h; exact h.1
  · simp only [pcB] at h; exact h.2
  · simp only [pcS8]
theorem dm {m x y z : Nat} (hm : 0 < m) (hy : y < m) (hz : z = m * x + y) : z / m = x := by
  rw [hz, Nat.mul_add_div hm, Nat.div_eq_of_lt hy, Nat.add_zero]
theorem lt_cut {e b x : Nat} (N : Nat) (h : e = b + 256 * x) (hl : e < 256 * N) : x < N := by omega
theorem pa1 {e x1 x2 x3 b0 b1 b2 : Nat} (e0 : e = b0 + 256 * x1) (e1 : x1 = b1 + 256 * x2) (e2 : x2 = b2 + 256 * x3) : e + x1 = 65536 * (x2 + x3) + ((b0 + b1) + 256 * (b1 + b2)) := by omega
theorem pa2 {y x1 x2 x3 x4 b0 b1 b2 b3 x0 : Nat} (e0 : x0 = b0 + 256 * x1) (e1 : x1 = b1 + 256 * x2) (e2 : x2 = b2 + 256 * x3) (e3 : x3 = b3 + 256 * x4) (hy : y = x0 + x1 + x2 + x3) : y = 256 * (x1 + x2 + x3 + x4) + (b0 + b1 + b2 + b3) := by omega
theorem pa3 {X y1 y2 y3 c0 c1 c2 c3 z : Nat} (h0 : X = 256 * y1 + c0) (h1 : y1 = 256 * y2 + c1) (h2 : y2 = 256 * y3 + c2) (h3 : y3 = 256 * z + c3) : X = 4294967296 * z + (c0 + 256 * (c1 + 256 * (c2 + 256 * c3))) := by omega
theorem pa4 {X Y y z c0 d0 : Nat} (h0 : X = 256 * y + c0) (h1 : Y = 256 * z + d0) (h : c0 + d0 < 128) : (X + Y) % 128 = c0 + d0 := by omega
theorem pa5 {c0 c1 c2 c3 : Nat} (h0 : c0 ≤ 48) (h1 : c1 ≤ 48) (h2 : c2 ≤ 48) (h3 : c3 ≤ 48) : c0 + 256 * (c1 + 256 * (c2 + 256 * c3)) < 4294967296 := by omega
theorem pa6 {a b c d : Nat} (h0 : a ≤ 12) (h1 : b ≤ 12) (h2 : c ≤ 12) (h3 : d ≤ 12) : a + b + c + d ≤ 48 := by omega
theorem pa7 {e b x N : Nat} (h : e = b + 256 * x) (hb : b ≤ 12) (hx : x ≤ 12 * N) : e ≤ 12 * (1 + 256 * N) := by omega
theorem pc_fin8 {e : Nat} (h : pcB e 8) (hl : e < 256 * (256 * (256 * (256 * (256 * (256 * (256 * (256 * 1)))))))) : ((e + e / 256) + (e + e / 256) / 65536 + ((e + e / 256) + (e + e / 256) / 65536) / 4294967296) % 128 = pcS8 e 8 ∧ e ≤ 12 * (1 + 256 * (1 + 256 * (1 + 256 * (1 + 256 * (1 + 256 * (1 + 256 * (1 + 256 * 1))))))) := by
  obtain ⟨b0, x1, e0, h0, h, s0⟩ := pc_cut h
  obtain ⟨b1, x2, e1, h1, h, s1⟩ := pc_cut h
  obtain ⟨b2, x3, e2, h2, h, s2⟩ := pc_cut h
  obtain ⟨b3, x4, e3, h3, h, s3⟩ := pc_cut h
  obtain ⟨b4, x5, e4, h4, h, s4⟩ := pc_cut h
  obtain ⟨b5, x6, e5, h5, h, s5⟩ := pc_cut h
  obtain ⟨b6, x7, e6, h6, h, s6⟩ := pc_cut h
  obtain ⟨b7, x8, e7, h7, h, s7⟩ := pc_cut h
  have z : x8 < 1 := lt_cut _ e7 (lt_cut _ e6 (lt_cut _ e5 (lt_cut _ e4 (lt_cut _ e3 (lt_cut _ e2 (lt_cut _ e1 (lt_cut _ e0 hl)))))))
  have z0 : x8 = 0 := Nat.lt_one_iff.mp z
  have q1 : e / 256 = x1 := dm (by decide) (Nat.lt_of_le_of_lt h0 (by decide)) (by rw [e0, Nat.add_comm])
  rw [q1]
  have q2 : (e + x1) / 65536 = x2 + x3 := dm (by decide) (by clear s0 s1 s2 s3 s4 s5 s6 s7 hl z z0 q1 e0 e1 e2 e3 e4 e5 e6 e7; omega) (pa1 e0 e1 e2)
  rw [q2]
  have g0 := pa2 (y := e + x1 + (x2 + x3)) e0 e1 e2 e3 (by rw [Nat.add_assoc, Nat.add_assoc, Nat.add_assoc])
  have g1 := pa2 (y := x1 + x2 + x3 + x4) e1 e2 e3 e4 rfl
  have g2 := pa2 (y := x2 + x3 + x4 + x5) e2 e3 e4 e5 rfl
  have g3 := pa2 (y := x3 + x4 + x5 + x6) e3 e4 e5 e6 rfl
  have g4 := pa2 (y := x4 + x5 + x6 + x7) e4 e5 e6 e7 rfl
  have q3 : (e + x1 + (x2 + x3)) / 4294967296 = x4 + x5 + x6 + x7 := dm (by decide) (pa5 (pa6 h0 h1 h2 h3) (pa6 h1 h2 h3 h4) (pa6 h2 h3 h4 h5) (pa6 h3 h4 h5 h6)) (pa3 g0 g1 g2 g3)
  rw [q3]
  have st : pcS8 e 8 = (b0 + b1 + b2 + b3) + (b4 + b5 + b6 + b7) := by
    rw [s0, s1, s2, s3, s4, s5, s6, s7, show pcS8 x8 0 = 0 from rfl]
    clear s0 s1 s2 s3 s4 s5 s6 s7 hl z z0 q1 q2 q3 g0 g1 g2 g3 g4 e0 e1 e2 e3 e4 e5 e6 e7
    omega
  rw [st]
  refine ⟨pa4 g0 g4 (by have := pa6 h0 h1 h2 h3; have := pa6 h4 h5 h6 h7; omega), ?_⟩
  have y7 : x7 ≤ 12 * 1 := by rw [e7, z0]; exact h7
  exact pa7 e0 h0 (pa7 e1 h1 (pa7 e2 h2 (pa7 e3 h3 (pa7 e4 h4 (pa7 e5 h5 (pa7 e6 h6 y7))))))
