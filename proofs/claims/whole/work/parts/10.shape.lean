def aa_SH (r : Nat → Nat) : List aa_Shp := [.inr (.inl (11, [.ref 1, .ref 7, .ref 20, .ref 22, .ref 23, .ref 24, .ref 29, .ref 36, .ref 38, .ref 41, .ref 46, .ref 49, .ref 56, .int 0])), .inr (.inl (7, [.ref 2, .int 0, .ref 3, .ref 4, .ref 5, .ref 6, .int 0, .int 0, .int 0, .int 0, .int 0, .int 0])), .inl (0, 80), .inl (0, 14), .inl (0, 14), .inl (0, 14), .inl (2, 14), .inr (.inl (6, [.ref 8, .ref 9, .ref 10, .ref 11, .ref 12, .ref 13, .ref 14, .ref 15, .ref 16, .ref 17, .ref 18, .ref 19, .int 0, .int 0, .int 0, .int 0])), .inl (0, 14), .inl (0, 14), .inl (0, 14), .inl (0, 14), .inl (0, 14), .inl (0, 2), .inl (0, 4), .inl (0, 16), .inl (0, 16), .inl (0, 128), .inl (0, 128), .inl (0, 14), .inr (.inl (2, [.ref 7, .ref 21, .int 0, .int 0, .int 0])), .inl (0, 18), .inr (.inr (.inl [some 57, some 59, some 61])), .inl (2, 3), .inr (.inl (9, [.ref 7, .ref 25, .ref 27, .int 0, .int 0, .int 0])), .inr (.inl (4, [.ref (r 0), .int 0])), .inl (1, 1), .inr (.inl (4, [.ref (r 1), .int 0])), .inl (1, 1), .inr (.inl (3, [.ref 7, .ref 30, .ref 32, .ref 33, .ref 34, .ref 35])), .inr (.inl (4, [.ref (r 2), .int 0])), .inl (1, 1), .inl (0, 14), .inl (0, 6), .inl (0, 6), .inl (0, 6), .inr (.inl (8, [.ref (r 3)])), .inl (3, 0), .inr (.inl (10, [.ref 7, .ref 39, .long 0])), .inr (.inl (4, [.ref (r 4), .int 0])), .inl (1, 1), .inr (.inl (1, [.ref 7, .ref 42, .ref 43, .ref 44, .ref 45, .int 0, .int 0, .int 0, .int 0])), .inl (0, 8), .inl (0, 8), .inl (0, 2), .inl (1, 128), .inr (.inl (5, [.ref 7, .ref 47, .int 0])), .inr (.inl (4, [.ref (r 5), .int 0])), .inl (1, 1), .inr (.inl (0, [.ref 51, .ref 7, .ref (r 6), .int 0, .int 0, .int 0, .int 0, .int 0, .int 0, .int 0, .int 0])), .inl (0, 0), .inr (.inl (1, [.ref 7, .ref 52, .ref 53, .ref 54, .ref 55, .int 0, .int 0, .int 0, .int 0])), .inl (0, 8), .inl (0, 8), .inl (0, 2), .inl (1, 128), .inl (1, 20), .inr (.inl (2, [.ref 7, .ref 58, .int 0, .int 0, .int 0])), .inl (0, 18), .inr (.inl (2, [.ref 7, .ref 60, .int 0, .int 0, .int 0])), .inl (0, 18), .inr (.inl (2, [.ref 7, .ref 62, .int 0, .int 0, .int 0])), .inl (0, 18), .inr (.inl (12, [.int 0, .int 0, .ref 64, .int 0, .ref 65, .ref 66, .ref 67, .ref 68, .int 0, .ref 69, .int 0, .int 0, .int 0, .int 0, .ref 70, .ref 71, .ref 72, .int 0, .int 0, .int 0, .int 0, .ref 73, .ref 74, .ref 75, .int 0, .int 0, .ref 76, .ref (r 7), .ref (r 8), .ref 79, .ref 80, .ref 81, .ref 82, .int 0, .int 0, .ref 83, .ref 84, .ref 85])), .inl (1, 20), .inl (0, 16), .inl (0, 16), .inl (0, 16), .inl (0, 16), .inl (0, 2), .inl (0, 24), .inl (0, 24), .inl (0, 80), .inl (0, 2), .inl (0, 196608), .inl (0, 196608), .inl (0, 196608), .inl (1, 65536), .inl (1, 65536), .inl (0, 14), .inl (0, 3), .inl (0, 3), .inl (1, 32768), .inl (2, 3), .inl (0, 3), .inl (0, 156), .inl (1, 1)]
/-- the shapes of the world behind the two constructors: r names the rows that may be others, dy what was made later -/
def aa_W (r : Nat → Nat) (dy : List aa_Shp) (σ : aa_St) : Prop := σ.2.2.1 = aa_SH r ++ dy
theorem aa_W.len {r : Nat → Nat} {dy : List aa_Shp} {σ : aa_St} (h : aa_W r dy σ) : σ.2.2.1.length = 87 + dy.length := by rw [h, List.length_append]; rfl
theorem sh_0 {r : Nat → Nat} {dy : List aa_Shp} {σ : aa_St} (h : aa_W r dy σ) : σ.2.2.1[0]? = some (.inr (.inl (11, [.ref 1, .ref 7, .ref 20, .ref 22, .ref 23, .ref 24, .ref 29, .ref 36, .ref 38, .ref 41, .ref 46, .ref 49, .ref 56, .int 0]))) := by rw [h]; rfl
theorem sh_1 {r : Nat → Nat} {dy : List aa_Shp} {σ : aa_St} (h : aa_W r dy σ) : σ.2.2.1[1]? = some (.inr (.inl (7, [.ref 2, .int 0, .ref 3, .ref 4, .ref 5, .ref 6, .int 0, .int 0, .int 0, .int 0, .int 0, .int 0]))) := by rw [h]; rfl
theorem sh_2 {r : Nat → Nat} {dy : List aa_Shp} {σ : aa_St} (h : aa_W r dy σ) : σ.2.2.1[2]? = some (.inl (0, 80)) := by rw [h]; rfl
theorem sh_3 {r : Nat → Nat} {dy : List aa_Shp} {σ : aa_St} (h : aa_W r dy σ) : σ.2.2.1[3]? = some (.inl (0, 14)) := by rw [h]; rfl
theorem sh_4 {r : Nat → Nat} {dy : List aa_Shp} {σ : aa_St} (h : aa_W r dy σ) : σ.2.2.1[4]? = some (.inl (0, 14)) := by rw [h]; rfl
theorem sh_5 {r : Nat → Nat} {dy : List aa_Shp} {σ : aa_St} (h : aa_W r dy σ) : σ.2.2.1[5]? = some (.inl (0, 14)) := by rw [h]; rfl
theorem sh_6 {r : Nat → Nat} {dy : List aa_Shp} {σ : aa_St} (h : aa_W r dy σ) : σ.2.2.1[6]? = some (.inl (2, 14)) := by rw [h]; rfl
theorem sh_7 {r : Nat → Nat} {dy : List aa_Shp} {σ : aa_St} (h : aa_W r dy σ) : σ.2.2.1[7]? = some (.inr (.inl (6, [.ref 8, .ref 9, .ref 10, .ref 11, .ref 12, .ref 13, .ref 14, .ref 15, .ref 16, .ref 17, .ref 18, .ref 19, .int 0, .int 0, .int 0, .int 0]))) := by rw [h]; rfl
theorem sh_8 {r : Nat → Nat} {dy : List aa_Shp} {σ : aa_St} (h : aa_W r dy σ) : σ.2.2.1[8]? = some (.inl (0, 14)) := by rw [h]; rfl
theorem sh_9 {r : Nat → Nat} {dy : List aa_Shp} {σ : aa_St} (h : aa_W r dy σ) : σ.2.2.1[9]? = some (.inl (0, 14)) := by rw [h]; rfl
theorem sh_10 {r : Nat → Nat} {dy : List aa_Shp} {σ : aa_St} (h : aa_W r dy σ) : σ.2.2.1[10]? = some (.inl (0, 14)) := by rw [h]; rfl
theorem sh_11 {r : Nat → Nat} {dy : List aa_Shp} {σ : aa_St} (h : aa_W r dy σ) : σ.2.2.1[11]? = some (.inl (0, 14)) := by rw [h]; rfl
theorem sh_12 {r : Nat → Nat} {dy : List aa_Shp} {σ : aa_St} (h : aa_W r dy σ) : σ.2.2.1[12]? = some (.inl (0, 14)) := by rw [h]; rfl
theorem sh_13 {r : Nat → Nat} {dy : List aa_Shp} {σ : aa_St} (h : aa_W r dy σ) : σ.2.2.1[13]? = some (.inl (0, 2)) := by rw [h]; rfl
theorem sh_14 {r : Nat → Nat} {dy : List aa_Shp} {σ : aa_St} (h : aa_W r dy σ) : σ.2.2.1[14]? = some (.inl (0, 4)) := by rw [h]; rfl
theorem sh_15 {r : Nat → Nat} {dy : List aa_Shp} {σ : aa_St} (h : aa_W r dy σ) : σ.2.2.1[15]? = some (.inl (0, 16)) := by rw [h]; rfl
theorem sh_16 {r : Nat → Nat} {dy : List aa_Shp} {σ : aa_St} (h : aa_W r dy σ) : σ.2.2.1[16]? = some (.inl (0, 16)) := by rw [h]; rfl
theorem sh_17 {r : Nat → Nat} {dy : List aa_Shp} {σ : aa_St} (h : aa_W r dy σ) : σ.2.2.1[17]? = some (.inl (0, 128)) := by rw [h]; rfl
theorem sh_18 {r : Nat → Nat} {dy : List aa_Shp} {σ : aa_St} (h : aa_W r dy σ) : σ.2.2.1[18]? = some (.inl (0, 128)) := by rw [h]; rfl
theorem sh_19 {r : Nat → Nat} {dy : List aa_Shp} {σ : aa_St} (h : aa_W r dy σ) : σ.2.2.1[19]? = some (.inl (0, 14)) := by rw [h]; rfl
theorem sh_20 {r : Nat → Nat} {dy : List aa_Shp} {σ : aa_St} (h : aa_W r dy σ) : σ.2.2.1[20]? = some (.inr (.inl (2, [.ref 7, .ref 21, .int 0, .int 0, .int 0]))) := by rw [h]; rfl
theorem sh_21 {r : Nat → Nat} {dy : List aa_Shp} {σ : aa_St} (h : aa_W r dy σ) : σ.2.2.1[21]? = some (.inl (0, 18)) := by rw [h]; rfl
theorem sh_22 {r : Nat → Nat} {dy : List aa_Shp} {σ : aa_St} (h : aa_W r dy σ) : σ.2.2.1[22]? = some (.inr (.inr (.inl [some 57, some 59, some 61]))) := by rw [h]; rfl
theorem sh_23 {r : Nat → Nat} {dy : List aa_Shp} {σ : aa_St} (h : aa_W r dy σ) : σ.2.2.1[23]? = some (.inl (2, 3)) := by rw [h]; rfl
theorem sh_24 {r : Nat → Nat} {dy : List aa_Shp} {σ : aa_St} (h : aa_W r dy σ) : σ.2.2.1[24]? = some (.inr (.inl (9, [.ref 7, .ref 25, .ref 27, .int 0, .int 0, .int 0]))) := by rw [h]; rfl
theorem sh_25 {r : Nat → Nat} {dy : List aa_Shp} {σ : aa_St} (h : aa_W r dy σ) : σ.2.2.1[25]? = some (.inr (.inl (4, [.ref (r 0), .int 0]))) := by rw [h]; rfl
theorem sh_26 {r : Nat → Nat} {dy : List aa_Shp} {σ : aa_St} (h : aa_W r dy σ) : σ.2.2.1[26]? = some (.inl (1, 1)) := by rw [h]; rfl
theorem sh_27 {r : Nat → Nat} {dy : List aa_Shp} {σ : aa_St} (h : aa_W r dy σ) : σ.2.2.1[27]? = some (.inr (.inl (4, [.ref (r 1), .int 0]))) := by rw [h]; rfl
theorem sh_28 {r : Nat → Nat} {dy : List aa_Shp} {σ : aa_St} (h : aa_W r dy σ) : σ.2.2.1[28]? = some (.inl (1, 1)) := by rw [h]; rfl
theorem sh_29 {r : Nat → Nat} {dy : List aa_Shp} {σ : aa_St} (h : aa_W r dy σ) : σ.2.2.1[29]? = some (.inr (.inl (3, [.ref 7, .ref 30, .ref 32, .ref 33, .ref 34, .ref 35]))) := by rw [h]; rfl
theorem sh_30 {r : Nat → Nat} {dy : List aa_Shp} {σ : aa_St} (h : aa_W r dy σ) : σ.2.2.1[30]? = some (.inr (.inl (4, [.ref (r 2), .int 0]))) := by rw [h]; rfl
theorem sh_31 {r : Nat → Nat} {dy : List aa_Shp} {σ : aa_St} (h : aa_W r dy σ) : σ.2.2.1[31]? = some (.inl (1, 1)) := by rw [h]; rfl
theorem sh_32 {r : Nat → Nat} {dy : List aa_Shp} {σ : aa_St} (h : aa_W r dy σ) : σ.2.2.1[32]? = some (.inl (0, 14)) := by rw [h]; rfl
theorem sh_33 {r : Nat → Nat} {dy : List aa_Shp} {σ : aa_St} (h : aa_W r dy σ) : σ.2.2.1[33]? = some (.inl (0, 6)) := by rw [h]; rfl
theorem sh_34 {r : Nat → Nat} {dy : List aa_Shp} {σ : aa_St} (h : aa_W r dy σ) : σ.2.2.1[34]? = some (.inl (0, 6)) := by rw [h]; rfl
theorem sh_35 {r : Nat → Nat} {dy : List aa_Shp} {σ : aa_St} (h : aa_W r dy σ) : σ.2.2.1[35]? = some (.inl (0, 6)) := by rw [h]; rfl
theorem sh_36 {r : Nat → Nat} {dy : List aa_Shp} {σ : aa_St} (h : aa_W r dy σ) : σ.2.2.1[36]? = some (.inr (.inl (8, [.ref (r 3)]))) := by rw [h]; rfl
theorem sh_37 {r : Nat → Nat} {dy : List aa_Shp} {σ : aa_St} (h : aa_W r dy σ) : σ.2.2.1[37]? = some (.inl (3, 0)) := by rw [h]; rfl
theorem sh_38 {r : Nat → Nat} {dy : List aa_Shp} {σ : aa_St} (h : aa_W r dy σ) : σ.2.2.1[38]? = some (.inr (.inl (10, [.ref 7, .ref 39, .long 0]))) := by rw [h]; rfl
theorem sh_39 {r : Nat → Nat} {dy : List aa_Shp} {σ : aa_St} (h : aa_W r dy σ) : σ.2.2.1[39]? = some (.inr (.inl (4, [.ref (r 4), .int 0]))) := by rw [h]; rfl
theorem sh_40 {r : Nat → Nat} {dy : List aa_Shp} {σ : aa_St} (h : aa_W r dy σ) : σ.2.2.1[40]? = some (.inl (1, 1)) := by rw [h]; rfl
theorem sh_41 {r : Nat → Nat} {dy : List aa_Shp} {σ : aa_St} (h : aa_W r dy σ) : σ.2.2.1[41]? = some (.inr (.inl (1, [.ref 7, .ref 42, .ref 43, .ref 44, .ref 45, .int 0, .int 0, .int 0, .int 0]))) := by rw [h]; rfl
theorem sh_42 {r : Nat → Nat} {dy : List aa_Shp} {σ : aa_St} (h : aa_W r dy σ) : σ.2.2.1[42]? = some (.inl (0, 8)) := by rw [h]; rfl
theorem sh_43 {r : Nat → Nat} {dy : List aa_Shp} {σ : aa_St} (h : aa_W r dy σ) : σ.2.2.1[43]? = some (.inl (0, 8)) := by rw [h]; rfl
theorem sh_44 {r : Nat → Nat} {dy : List aa_Shp} {σ : aa_St} (h : aa_W r dy σ) : σ.2.2.1[44]? = some (.inl (0, 2)) := by rw [h]; rfl
theorem sh_45 {r : Nat → Nat} {dy : List aa_Shp} {σ : aa_St} (h : aa_W r dy σ) : σ.2.2.1[45]? = some (.inl (1, 128)) := by rw [h]; rfl
theorem sh_46 {r : Nat → Nat} {dy : List aa_Shp} {σ : aa_St} (h : aa_W r dy σ) : σ.2.2.1[46]? = some (.inr (.inl (5, [.ref 7, .ref 47, .int 0]))) := by rw [h]; rfl
theorem sh_47 {r : Nat → Nat} {dy : List aa_Shp} {σ : aa_St} (h : aa_W r dy σ) : σ.2.2.1[47]? = some (.inr (.inl (4, [.ref (r 5), .int 0]))) := by rw [h]; rfl
theorem sh_48 {r : Nat → Nat} {dy : List aa_Shp} {σ : aa_St} (h : aa_W r dy σ) : σ.2.2.1[48]? = some (.inl (1, 1)) := by rw [h]; rfl
theorem sh_49 {r : Nat → Nat} {dy : List aa_Shp} {σ : aa_St} (h : aa_W r dy σ) : σ.2.2.1[49]? = some (.inr (.inl (0, [.ref 51, .ref 7, .ref (r 6), .int 0, .int 0, .int 0, .int 0, .int 0, .int 0, .int 0, .int 0]))) := by rw [h]; rfl
theorem sh_50 {r : Nat → Nat} {dy : List aa_Shp} {σ : aa_St} (h : aa_W r dy σ) : σ.2.2.1[50]? = some (.inl (0, 0)) := by rw [h]; rfl
theorem sh_51 {r : Nat → Nat} {dy : List aa_Shp} {σ : aa_St} (h : aa_W r dy σ) : σ.2.2.1[51]? = some (.inr (.inl (1, [.ref 7, .ref 52, .ref 53, .ref 54, .ref 55, .int 0, .int 0, .int 0, .int 0]))) := by rw [h]; rfl
theorem sh_52 {r : Nat → Nat} {dy : List aa_Shp} {σ : aa_St} (h : aa_W r dy σ) : σ.2.2.1[52]? = some (.inl (0, 8)) := by rw [h]; rfl
theorem sh_53 {r : Nat → Nat} {dy : List aa_Shp} {σ : aa_St} (h : aa_W r dy σ) : σ.2.2.1[53]? = some (.inl (0, 8)) := by rw [h]; rfl
theorem sh_54 {r : Nat → Nat} {dy : List aa_Shp} {σ : aa_St} (h : aa_W r dy σ) : σ.2.2.1[54]? = some (.inl (0, 2)) := by rw [h]; rfl
theorem sh_55 {r : Nat → Nat} {dy : List aa_Shp} {σ : aa_St} (h : aa_W r dy σ) : σ.2.2.1[55]? = some (.inl (1, 128)) := by rw [h]; rfl
theorem sh_56 {r : Nat → Nat} {dy : List aa_Shp} {σ : aa_St} (h : aa_W r dy σ) : σ.2.2.1[56]? = some (.inl (1, 20)) := by rw [h]; rfl
theorem sh_57 {r : Nat → Nat} {dy : List aa_Shp} {σ : aa_St} (h : aa_W r dy σ) : σ.2.2.1[57]? = some (.inr (.inl (2, [.ref 7, .ref 58, .int 0, .int 0, .int 0]))) := by rw [h]; rfl
theorem sh_58 {r : Nat → Nat} {dy : List aa_Shp} {σ : aa_St} (h : aa_W r dy σ) : σ.2.2.1[58]? = some (.inl (0, 18)) := by rw [h]; rfl
theorem sh_59 {r : Nat → Nat} {dy : List aa_Shp} {σ : aa_St} (h : aa_W r dy σ) : σ.2.2.1[59]? = some (.inr (.inl (2, [.ref 7, .ref 60, .int 0, .int 0, .int 0]))) := by rw [h]; rfl
theorem sh_60 {r : Nat → Nat} {dy : List aa_Shp} {σ : aa_St} (h : aa_W r dy σ) : σ.2.2.1[60]? = some (.inl (0, 18)) := by rw [h]; rfl
theorem sh_61 {r : Nat → Nat} {dy : List aa_Shp} {σ : aa_St} (h : aa_W r dy σ) : σ.2.2.1[61]? = some (.inr (.inl (2, [.ref 7, .ref 62, .int 0, .int 0, .int 0]))) := by rw [h]; rfl
theorem sh_62 {r : Nat → Nat} {dy : List aa_Shp} {σ : aa_St} (h : aa_W r dy σ) : σ.2.2.1[62]? = some (.inl (0, 18)) := by rw [h]; rfl
theorem sh_63 {r : Nat → Nat} {dy : List aa_Shp} {σ : aa_St} (h : aa_W r dy σ) : σ.2.2.1[63]? = some (.inr (.inl (12, [.int 0, .int 0, .ref 64, .int 0, .ref 65, .ref 66, .ref 67, .ref 68, .int 0, .ref 69, .int 0, .int 0, .int 0, .int 0, .ref 70, .ref 71, .ref 72, .int 0, .int 0, .int 0, .int 0, .ref 73, .ref 74, .ref 75, .int 0, .int 0, .ref 76, .ref (r 7), .ref (r 8), .ref 79, .ref 80, .ref 81, .ref 82, .int 0, .int 0, .ref 83, .ref 84, .ref 85]))) := by rw [h]; rfl
theorem sh_64 {r : Nat → Nat} {dy : List aa_Shp} {σ : aa_St} (h : aa_W r dy σ) : σ.2.2.1[64]? = some (.inl (1, 20)) := by rw [h]; rfl
theorem sh_65 {r : Nat → Nat} {dy : List aa_Shp} {σ : aa_St} (h : aa_W r dy σ) : σ.2.2.1[65]? = some (.inl (0, 16)) := by rw [h]; rfl
theorem sh_66 {r : Nat → Nat} {dy : List aa_Shp} {σ : aa_St} (h : aa_W r dy σ) : σ.2.2.1[66]? = some (.inl (0, 16)) := by rw [h]; rfl
theorem sh_67 {r : Nat → Nat} {dy : List aa_Shp} {σ : aa_St} (h : aa_W r dy σ) : σ.2.2.1[67]? = some (.inl (0, 16)) := by rw [h]; rfl
theorem sh_68 {r : Nat → Nat} {dy : List aa_Shp} {σ : aa_St} (h : aa_W r dy σ) : σ.2.2.1[68]? = some (.inl (0, 16)) := by rw [h]; rfl
theorem sh_69 {r : Nat → Nat} {dy : List aa_Shp} {σ : aa_St} (h : aa_W r dy σ) : σ.2.2.1[69]? = some (.inl (0, 2)) := by rw [h]; rfl
theorem sh_70 {r : Nat → Nat} {dy : List aa_Shp} {σ : aa_St} (h : aa_W r dy σ) : σ.2.2.1[70]? = some (.inl (0, 24)) := by rw [h]; rfl
theorem sh_71 {r : Nat → Nat} {dy : List aa_Shp} {σ : aa_St} (h : aa_W r dy σ) : σ.2.2.1[71]? = some (.inl (0, 24)) := by rw [h]; rfl
theorem sh_72 {r : Nat → Nat} {dy : List aa_Shp} {σ : aa_St} (h : aa_W r dy σ) : σ.2.2.1[72]? = some (.inl (0, 80)) := by rw [h]; rfl
theorem sh_73 {r : Nat → Nat} {dy : List aa_Shp} {σ : aa_St} (h : aa_W r dy σ) : σ.2.2.1[73]? = some (.inl (0, 2)) := by rw [h]; rfl
theorem sh_74 {r : Nat → Nat} {dy : List aa_Shp} {σ : aa_St} (h : aa_W r dy σ) : σ.2.2.1[74]? = some (.inl (0, 196608)) := by rw [h]; rfl
theorem sh_75 {r : Nat → Nat} {dy : List aa_Shp} {σ : aa_St} (h : aa_W r dy σ) : σ.2.2.1[75]? = some (.inl (0, 196608)) := by rw [h]; rfl
theorem sh_76 {r : Nat → Nat} {dy : List aa_Shp} {σ : aa_St} (h : aa_W r dy σ) : σ.2.2.1[76]? = some (.inl (0, 196608)) := by rw [h]; rfl
theorem sh_77 {r : Nat → Nat} {dy : List aa_Shp} {σ : aa_St} (h : aa_W r dy σ) : σ.2.2.1[77]? = some (.inl (1, 65536)) := by rw [h]; rfl
theorem sh_78 {r : Nat → Nat} {dy : List aa_Shp} {σ : aa_St} (h : aa_W r dy σ) : σ.2.2.1[78]? = some (.inl (1, 65536)) := by rw [h]; rfl
theorem sh_79 {r : Nat → Nat} {dy : List aa_Shp} {σ : aa_St} (h : aa_W r dy σ) : σ.2.2.1[79]? = some (.inl (0, 14)) := by rw [h]; rfl
theorem sh_80 {r : Nat → Nat} {dy : List aa_Shp} {σ : aa_St} (h : aa_W r dy σ) : σ.2.2.1[80]? = some (.inl (0, 3)) := by rw [h]; rfl
theorem sh_81 {r : Nat → Nat} {dy : List aa_Shp} {σ : aa_St} (h : aa_W r dy σ) : σ.2.2.1[81]? = some (.inl (0, 3)) := by rw [h]; rfl
theorem sh_82 {r : Nat → Nat} {dy : List aa_Shp} {σ : aa_St} (h : aa_W r dy σ) : σ.2.2.1[82]? = some (.inl (1, 32768)) := by rw [h]; rfl
theorem sh_83 {r : Nat → Nat} {dy : List aa_Shp} {σ : aa_St} (h : aa_W r dy σ) : σ.2.2.1[83]? = some (.inl (2, 3)) := by rw [h]; rfl
theorem sh_84 {r : Nat → Nat} {dy : List aa_Shp} {σ : aa_St} (h : aa_W r dy σ) : σ.2.2.1[84]? = some (.inl (0, 3)) := by rw [h]; rfl
theorem sh_85 {r : Nat → Nat} {dy : List aa_Shp} {σ : aa_St} (h : aa_W r dy σ) : σ.2.2.1[85]? = some (.inl (0, 156)) := by rw [h]; rfl
theorem sh_86 {r : Nat → Nat} {dy : List aa_Shp} {σ : aa_St} (h : aa_W r dy σ) : σ.2.2.1[86]? = some (.inl (1, 1)) := by rw [h]; rfl
theorem ki_m1 : Int32.ofInt (-1) = -1 := by decide
theorem ki_0 : Int32.ofInt (0) = nI 0 := by decide
theorem ki_1 : Int32.ofInt (1) = nI 1 := by decide
theorem ki_2 : Int32.ofInt (2) = nI 2 := by decide
theorem ki_3 : Int32.ofInt (3) = nI 3 := by decide
theorem ki_4 : Int32.ofInt (4) = nI 4 := by decide
theorem ki_5 : Int32.ofInt (5) = nI 5 := by decide
theorem kb_m77 : (Int8.ofInt (-77)).toInt32 = -77 := by decide
theorem kb_m3 : (Int8.ofInt (-3)).toInt32 = -3 := by decide
theorem kb_m2 : (Int8.ofInt (-2)).toInt32 = -2 := by decide
theorem kb_6 : (Int8.ofInt (6)).toInt32 = nI 6 := by decide
theorem kb_7 : (Int8.ofInt (7)).toInt32 = nI 7 := by decide
theorem kb_8 : (Int8.ofInt (8)).toInt32 = nI 8 := by decide
theorem kb_9 : (Int8.ofInt (9)).toInt32 = nI 9 := by decide
theorem kb_10 : (Int8.ofInt (10)).toInt32 = nI 10 := by decide
theorem kb_13 : (Int8.ofInt (13)).toInt32 = nI 13 := by decide
theorem kb_14 : (Int8.ofInt (14)).toInt32 = nI 14 := by decide
theorem kb_15 : (Int8.ofInt (15)).toInt32 = nI 15 := by decide
theorem kb_16 : (Int8.ofInt (16)).toInt32 = nI 16 := by decide
theorem kb_18 : (Int8.ofInt (18)).toInt32 = nI 18 := by decide
theorem kb_20 : (Int8.ofInt (20)).toInt32 = nI 20 := by decide
theorem kb_24 : (Int8.ofInt (24)).toInt32 = nI 24 := by decide
theorem kb_28 : (Int8.ofInt (28)).toInt32 = nI 28 := by decide
theorem kb_31 : (Int8.ofInt (31)).toInt32 = nI 31 := by decide
theorem kb_32 : (Int8.ofInt (32)).toInt32 = nI 32 := by decide
theorem kb_34 : (Int8.ofInt (34)).toInt32 = nI 34 := by decide
theorem kb_40 : (Int8.ofInt (40)).toInt32 = nI 40 := by decide
theorem kb_44 : (Int8.ofInt (44)).toInt32 = nI 44 := by decide
theorem kb_48 : (Int8.ofInt (48)).toInt32 = nI 48 := by decide
theorem kb_49 : (Int8.ofInt (49)).toInt32 = nI 49 := by decide
theorem kb_52 : (Int8.ofInt (52)).toInt32 = nI 52 := by decide
theorem kb_55 : (Int8.ofInt (55)).toInt32 = nI 55 := by decide
theorem kb_57 : (Int8.ofInt (57)).toInt32 = nI 57 := by decide
theorem kb_58 : (Int8.ofInt (58)).toInt32 = nI 58 := by decide
theorem kb_59 : (Int8.ofInt (59)).toInt32 = nI 59 := by decide
theorem kb_63 : (Int8.ofInt (63)).toInt32 = nI 63 := by decide
theorem kb_76 : (Int8.ofInt (76)).toInt32 = nI 76 := by decide
theorem kb_80 : (Int8.ofInt (80)).toInt32 = nI 80 := by decide
theorem kb_94 : (Int8.ofInt (94)).toInt32 = nI 94 := by decide
theorem kb_100 : (Int8.ofInt (100)).toInt32 = nI 100 := by decide
theorem kb_114 : (Int8.ofInt (114)).toInt32 = nI 114 := by decide
theorem kb_127 : (Int8.ofInt (127)).toInt32 = nI 127 := by decide
theorem ks_m1000 : (Int16.ofInt (-1000)).toInt32 = -1000 := by decide
theorem ks_128 : (Int16.ofInt (128)).toInt32 = nI 128 := by decide
theorem ks_156 : (Int16.ofInt (156)).toInt32 = nI 156 := by decide
theorem ks_200 : (Int16.ofInt (200)).toInt32 = nI 200 := by decide
theorem ks_255 : (Int16.ofInt (255)).toInt32 = nI 255 := by decide
theorem ks_256 : (Int16.ofInt (256)).toInt32 = nI 256 := by decide
theorem ks_1000 : (Int16.ofInt (1000)).toInt32 = nI 1000 := by decide
theorem ks_4096 : (Int16.ofInt (4096)).toInt32 = nI 4096 := by decide
theorem ks_16383 : (Int16.ofInt (16383)).toInt32 = nI 16383 := by decide
theorem ks_16384 : (Int16.ofInt (16384)).toInt32 = nI 16384 := by decide
theorem ks_25600 : (Int16.ofInt (25600)).toInt32 = nI 25600 := by decide
theorem kl_0 : Int64.ofNat ((0 : Fin 2) : Nat) = lN 0 := by decide
theorem kl_1 : Int64.ofNat ((1 : Fin 2) : Nat) = lN 1 := by decide
