-- ===== PART A: goes FIRST, ahead of the names: the tables' words, and 'selects' of the private methods out of them =====
/-- a private method of a class that the tables say can be made, by its rows of tables_1 -/
def lw_okq (q : MethodName × Nat) : Prop := (q.1.cls ≠ "java/lang/invoke/MethodHandle" ∧ q.1.cls ≠ "java/lang/invoke/VarHandle") ∧ Cond.instantiable q.1.cls q.2 ∈ tables_1 ∧ Cond.privateMethod q.1 ∈ tables_1 ∧ Cond.instanceMethod q.1 ∈ tables_1
theorem lw_p0 : lw_okq (⟨"AllAboveIt$Text", "takes", "(IZ)Z"⟩, 12) := ⟨⟨by decide +kernel, by decide +kernel⟩, List.mem_of_getElem? (i := 30) (by decide +kernel), List.mem_of_getElem? (i := 423) (by decide +kernel), List.mem_of_getElem? (i := 424) (by decide +kernel)⟩
theorem lw_p1 : lw_okq (⟨"AllAboveIt$Text", "takesWorth", "(I)Z"⟩, 12) := ⟨⟨by decide +kernel, by decide +kernel⟩, List.mem_of_getElem? (i := 30) (by decide +kernel), List.mem_of_getElem? (i := 427) (by decide +kernel), List.mem_of_getElem? (i := 428) (by decide +kernel)⟩
theorem lw_p2 : lw_okq (⟨"AllAboveIt$Text", "takesHeirs", "(I)Z"⟩, 12) := ⟨⟨by decide +kernel, by decide +kernel⟩, List.mem_of_getElem? (i := 30) (by decide +kernel), List.mem_of_getElem? (i := 431) (by decide +kernel), List.mem_of_getElem? (i := 432) (by decide +kernel)⟩
theorem lw_p3 : lw_okq (⟨"AllAboveIt$Text", "takesOn", "(II)Z"⟩, 12) := ⟨⟨by decide +kernel, by decide +kernel⟩, List.mem_of_getElem? (i := 30) (by decide +kernel), List.mem_of_getElem? (i := 435) (by decide +kernel), List.mem_of_getElem? (i := 436) (by decide +kernel)⟩
theorem lw_p4 : lw_okq (⟨"AllAboveIt$Text", "takesTail", "(I)Z"⟩, 12) := ⟨⟨by decide +kernel, by decide +kernel⟩, List.mem_of_getElem? (i := 30) (by decide +kernel), List.mem_of_getElem? (i := 439) (by decide +kernel), List.mem_of_getElem? (i := 440) (by decide +kernel)⟩
theorem lw_p5 : lw_okq (⟨"AllAboveIt$Text", "takesLineEnd", "(I)Z"⟩, 12) := ⟨⟨by decide +kernel, by decide +kernel⟩, List.mem_of_getElem? (i := 30) (by decide +kernel), List.mem_of_getElem? (i := 443) (by decide +kernel), List.mem_of_getElem? (i := 444) (by decide +kernel)⟩
theorem lw_p6 : lw_okq (⟨"AllAboveIt$Text", "takesFirstDigit", "(IZ)Z"⟩, 12) := ⟨⟨by decide +kernel, by decide +kernel⟩, List.mem_of_getElem? (i := 30) (by decide +kernel), List.mem_of_getElem? (i := 447) (by decide +kernel), List.mem_of_getElem? (i := 448) (by decide +kernel)⟩
theorem lw_p7 : lw_okq (⟨"AllAboveIt$Text", "takesNumber", "()Z"⟩, 12) := ⟨⟨by decide +kernel, by decide +kernel⟩, List.mem_of_getElem? (i := 30) (by decide +kernel), List.mem_of_getElem? (i := 451) (by decide +kernel), List.mem_of_getElem? (i := 452) (by decide +kernel)⟩
theorem lw_p8 : lw_okq (⟨"AllAboveIt$Text", "mayEnd", "()Z"⟩, 12) := ⟨⟨by decide +kernel, by decide +kernel⟩, List.mem_of_getElem? (i := 30) (by decide +kernel), List.mem_of_getElem? (i := 455) (by decide +kernel), List.mem_of_getElem? (i := 456) (by decide +kernel)⟩
theorem lw_p9 : lw_okq (⟨"AllAboveIt$Pile", "splitHeaps", "()V"⟩, 16) := ⟨⟨by decide +kernel, by decide +kernel⟩, List.mem_of_getElem? (i := 75) (by decide +kernel), List.mem_of_getElem? (i := 471) (by decide +kernel), List.mem_of_getElem? (i := 472) (by decide +kernel)⟩
theorem lw_p10 : lw_okq (⟨"AllAboveIt", "tell", "(JJ)V"⟩, 14) := ⟨⟨by decide +kernel, by decide +kernel⟩, List.mem_of_getElem? (i := 22) (by decide +kernel), List.mem_of_getElem? (i := 607) (by decide +kernel), List.mem_of_getElem? (i := 608) (by decide +kernel)⟩
theorem lw_p11 : lw_okq (⟨"AllAboveIt$Winners", "victoryFrom", "(IIII)Z"⟩, 6) := ⟨⟨by decide +kernel, by decide +kernel⟩, List.mem_of_getElem? (i := 153) (by decide +kernel), List.mem_of_getElem? (i := 650) (by decide +kernel), List.mem_of_getElem? (i := 651) (by decide +kernel)⟩
theorem lw_p12 : lw_okq (⟨"AllAboveIt", "tell", "(J)V"⟩, 14) := ⟨⟨by decide +kernel, by decide +kernel⟩, List.mem_of_getElem? (i := 22) (by decide +kernel), List.mem_of_getElem? (i := 662) (by decide +kernel), List.mem_of_getElem? (i := 663) (by decide +kernel)⟩
theorem lw_p13 : lw_okq (⟨"AllAboveIt", "winner", "(II)I"⟩, 14) := ⟨⟨by decide +kernel, by decide +kernel⟩, List.mem_of_getElem? (i := 22) (by decide +kernel), List.mem_of_getElem? (i := 666) (by decide +kernel), List.mem_of_getElem? (i := 667) (by decide +kernel)⟩
theorem lw_p14 : lw_okq (⟨"AllAboveIt$Winners", "soonestFrom", "(IIII)I"⟩, 6) := ⟨⟨by decide +kernel, by decide +kernel⟩, List.mem_of_getElem? (i := 153) (by decide +kernel), List.mem_of_getElem? (i := 687) (by decide +kernel), List.mem_of_getElem? (i := 688) (by decide +kernel)⟩
theorem lw_p15 : lw_okq (⟨"AllAboveIt$Winners", "visit", "(IIII)V"⟩, 6) := ⟨⟨by decide +kernel, by decide +kernel⟩, List.mem_of_getElem? (i := 153) (by decide +kernel), List.mem_of_getElem? (i := 713) (by decide +kernel), List.mem_of_getElem? (i := 714) (by decide +kernel)⟩
def lw_privs_1 : List (MethodName × Nat) := [(⟨"AllAboveIt$Text", "takes", "(IZ)Z"⟩, 12), (⟨"AllAboveIt$Text", "takesWorth", "(I)Z"⟩, 12), (⟨"AllAboveIt$Text", "takesHeirs", "(I)Z"⟩, 12), (⟨"AllAboveIt$Text", "takesOn", "(II)Z"⟩, 12), (⟨"AllAboveIt$Text", "takesTail", "(I)Z"⟩, 12), (⟨"AllAboveIt$Text", "takesLineEnd", "(I)Z"⟩, 12), (⟨"AllAboveIt$Text", "takesFirstDigit", "(IZ)Z"⟩, 12), (⟨"AllAboveIt$Text", "takesNumber", "()Z"⟩, 12), (⟨"AllAboveIt$Text", "mayEnd", "()Z"⟩, 12), (⟨"AllAboveIt$Pile", "splitHeaps", "()V"⟩, 16), (⟨"AllAboveIt", "tell", "(JJ)V"⟩, 14), (⟨"AllAboveIt$Winners", "victoryFrom", "(IIII)Z"⟩, 6), (⟨"AllAboveIt", "tell", "(J)V"⟩, 14), (⟨"AllAboveIt", "winner", "(II)I"⟩, 14), (⟨"AllAboveIt$Winners", "soonestFrom", "(IIII)I"⟩, 6), (⟨"AllAboveIt$Winners", "visit", "(IIII)V"⟩, 6)]
theorem lw_r1 : ∀ q ∈ lw_privs_1, lw_okq q := List.forall_mem_cons.mpr ⟨lw_p0, List.forall_mem_cons.mpr ⟨lw_p1, List.forall_mem_cons.mpr ⟨lw_p2, List.forall_mem_cons.mpr ⟨lw_p3, List.forall_mem_cons.mpr ⟨lw_p4, List.forall_mem_cons.mpr ⟨lw_p5, List.forall_mem_cons.mpr ⟨lw_p6, List.forall_mem_cons.mpr ⟨lw_p7, List.forall_mem_cons.mpr ⟨lw_p8, List.forall_mem_cons.mpr ⟨lw_p9, List.forall_mem_cons.mpr ⟨lw_p10, List.forall_mem_cons.mpr ⟨lw_p11, List.forall_mem_cons.mpr ⟨lw_p12, List.forall_mem_cons.mpr ⟨lw_p13, List.forall_mem_cons.mpr ⟨lw_p14, List.forall_mem_cons.mpr ⟨lw_p15, fun _ h => absurd h List.not_mem_nil⟩⟩⟩⟩⟩⟩⟩⟩⟩⟩⟩⟩⟩⟩⟩⟩
theorem lw_p16 : lw_okq (⟨"AllAboveIt$Winners", "gamesFrom", "(III)J"⟩, 6) := ⟨⟨by decide +kernel, by decide +kernel⟩, List.mem_of_getElem? (i := 153) (by decide +kernel), List.mem_of_getElem? (i := 730) (by decide +kernel), List.mem_of_getElem? (i := 731) (by decide +kernel)⟩
theorem lw_p17 : lw_okq (⟨"AllAboveIt$Pile", "allPutBack", "()I"⟩, 16) := ⟨⟨by decide +kernel, by decide +kernel⟩, List.mem_of_getElem? (i := 75) (by decide +kernel), List.mem_of_getElem? (i := 782) (by decide +kernel), List.mem_of_getElem? (i := 783) (by decide +kernel)⟩
theorem lw_p18 : lw_okq (⟨"AllAboveIt$Heaps", "valueFrom", "(II)I"⟩, 6) := ⟨⟨by decide +kernel, by decide +kernel⟩, List.mem_of_getElem? (i := 192) (by decide +kernel), List.mem_of_getElem? (i := 786) (by decide +kernel), List.mem_of_getElem? (i := 787) (by decide +kernel)⟩
theorem lw_p19 : lw_okq (⟨"AllAboveIt", "isThere", "(I)Z"⟩, 14) := ⟨⟨by decide +kernel, by decide +kernel⟩, List.mem_of_getElem? (i := 22) (by decide +kernel), List.mem_of_getElem? (i := 806) (by decide +kernel), List.mem_of_getElem? (i := 807) (by decide +kernel)⟩
theorem lw_p20 : lw_okq (⟨"AllAboveIt$Heaps", "pairs", "(III)Z"⟩, 6) := ⟨⟨by decide +kernel, by decide +kernel⟩, List.mem_of_getElem? (i := 192) (by decide +kernel), List.mem_of_getElem? (i := 853) (by decide +kernel), List.mem_of_getElem? (i := 854) (by decide +kernel)⟩
theorem lw_p21 : lw_okq (⟨"AllAboveIt$Heaps", "fits", "(II)Z"⟩, 6) := ⟨⟨by decide +kernel, by decide +kernel⟩, List.mem_of_getElem? (i := 192) (by decide +kernel), List.mem_of_getElem? (i := 857) (by decide +kernel), List.mem_of_getElem? (i := 858) (by decide +kernel)⟩
theorem lw_p22 : lw_okq (⟨"AllAboveIt$Wall", "stoneFrom", "(II)I"⟩, 1) := ⟨⟨by decide +kernel, by decide +kernel⟩, List.mem_of_getElem? (i := 219) (by decide +kernel), List.mem_of_getElem? (i := 876) (by decide +kernel), List.mem_of_getElem? (i := 877) (by decide +kernel)⟩
theorem lw_p23 : lw_okq (⟨"AllAboveIt$Wall", "victoryFrom", "(II)Z"⟩, 1) := ⟨⟨by decide +kernel, by decide +kernel⟩, List.mem_of_getElem? (i := 219) (by decide +kernel), List.mem_of_getElem? (i := 883) (by decide +kernel), List.mem_of_getElem? (i := 884) (by decide +kernel)⟩
theorem lw_p24 : lw_okq (⟨"AllAboveIt$Worths", "moreFrom", "(III)I"⟩, 3) := ⟨⟨by decide +kernel, by decide +kernel⟩, List.mem_of_getElem? (i := 230) (by decide +kernel), List.mem_of_getElem? (i := 902) (by decide +kernel), List.mem_of_getElem? (i := 903) (by decide +kernel)⟩
theorem lw_p25 : lw_okq (⟨"AllAboveIt$Worths", "cell", "(I)J"⟩, 3) := ⟨⟨by decide +kernel, by decide +kernel⟩, List.mem_of_getElem? (i := 230) (by decide +kernel), List.mem_of_getElem? (i := 912) (by decide +kernel), List.mem_of_getElem? (i := 913) (by decide +kernel)⟩
theorem lw_p26 : lw_okq (⟨"AllAboveIt", "isTooMuch", "(I)Z"⟩, 14) := ⟨⟨by decide +kernel, by decide +kernel⟩, List.mem_of_getElem? (i := 22) (by decide +kernel), List.mem_of_getElem? (i := 944) (by decide +kernel), List.mem_of_getElem? (i := 945) (by decide +kernel)⟩
theorem lw_p27 : lw_okq (⟨"AllAboveIt$Few", "renumbered", "(I)I"⟩, 9) := ⟨⟨by decide +kernel, by decide +kernel⟩, List.mem_of_getElem? (i := 248) (by decide +kernel), List.mem_of_getElem? (i := 960) (by decide +kernel), List.mem_of_getElem? (i := 961) (by decide +kernel)⟩
theorem lw_p28 : lw_okq (⟨"AllAboveIt$Few", "meanOf", "(II)J"⟩, 9) := ⟨⟨by decide +kernel, by decide +kernel⟩, List.mem_of_getElem? (i := 248) (by decide +kernel), List.mem_of_getElem? (i := 969) (by decide +kernel), List.mem_of_getElem? (i := 970) (by decide +kernel)⟩
theorem lw_p29 : lw_okq (⟨"AllAboveIt$Few", "worthOf", "(I)I"⟩, 9) := ⟨⟨by decide +kernel, by decide +kernel⟩, List.mem_of_getElem? (i := 248) (by decide +kernel), List.mem_of_getElem? (i := 981) (by decide +kernel), List.mem_of_getElem? (i := 982) (by decide +kernel)⟩
theorem lw_p30 : lw_okq (⟨"AllAboveIt$Few", "cell", "(II)J"⟩, 9) := ⟨⟨by decide +kernel, by decide +kernel⟩, List.mem_of_getElem? (i := 248) (by decide +kernel), List.mem_of_getElem? (i := 990) (by decide +kernel), List.mem_of_getElem? (i := 991) (by decide +kernel)⟩
theorem lw_p31 : lw_okq (⟨"AllAboveIt$Few", "set", "(IIJ)V"⟩, 9) := ⟨⟨by decide +kernel, by decide +kernel⟩, List.mem_of_getElem? (i := 248) (by decide +kernel), List.mem_of_getElem? (i := 995) (by decide +kernel), List.mem_of_getElem? (i := 996) (by decide +kernel)⟩
def lw_privs_2 : List (MethodName × Nat) := [(⟨"AllAboveIt$Winners", "gamesFrom", "(III)J"⟩, 6), (⟨"AllAboveIt$Pile", "allPutBack", "()I"⟩, 16), (⟨"AllAboveIt$Heaps", "valueFrom", "(II)I"⟩, 6), (⟨"AllAboveIt", "isThere", "(I)Z"⟩, 14), (⟨"AllAboveIt$Heaps", "pairs", "(III)Z"⟩, 6), (⟨"AllAboveIt$Heaps", "fits", "(II)Z"⟩, 6), (⟨"AllAboveIt$Wall", "stoneFrom", "(II)I"⟩, 1), (⟨"AllAboveIt$Wall", "victoryFrom", "(II)Z"⟩, 1), (⟨"AllAboveIt$Worths", "moreFrom", "(III)I"⟩, 3), (⟨"AllAboveIt$Worths", "cell", "(I)J"⟩, 3), (⟨"AllAboveIt", "isTooMuch", "(I)Z"⟩, 14), (⟨"AllAboveIt$Few", "renumbered", "(I)I"⟩, 9), (⟨"AllAboveIt$Few", "meanOf", "(II)J"⟩, 9), (⟨"AllAboveIt$Few", "worthOf", "(I)I"⟩, 9), (⟨"AllAboveIt$Few", "cell", "(II)J"⟩, 9), (⟨"AllAboveIt$Few", "set", "(IIJ)V"⟩, 9)]
theorem lw_r2 : ∀ q ∈ lw_privs_2, lw_okq q := List.forall_mem_cons.mpr ⟨lw_p16, List.forall_mem_cons.mpr ⟨lw_p17, List.forall_mem_cons.mpr ⟨lw_p18, List.forall_mem_cons.mpr ⟨lw_p19, List.forall_mem_cons.mpr ⟨lw_p20, List.forall_mem_cons.mpr ⟨lw_p21, List.forall_mem_cons.mpr ⟨lw_p22, List.forall_mem_cons.mpr ⟨lw_p23, List.forall_mem_cons.mpr ⟨lw_p24, List.forall_mem_cons.mpr ⟨lw_p25, List.forall_mem_cons.mpr ⟨lw_p26, List.forall_mem_cons.mpr ⟨lw_p27, List.forall_mem_cons.mpr ⟨lw_p28, List.forall_mem_cons.mpr ⟨lw_p29, List.forall_mem_cons.mpr ⟨lw_p30, List.forall_mem_cons.mpr ⟨lw_p31, fun _ h => absurd h List.not_mem_nil⟩⟩⟩⟩⟩⟩⟩⟩⟩⟩⟩⟩⟩⟩⟩⟩
theorem lw_p32 : lw_okq (⟨"AllAboveIt", "tellFraction", "(JJ)V"⟩, 14) := ⟨⟨by decide +kernel, by decide +kernel⟩, List.mem_of_getElem? (i := 22) (by decide +kernel), List.mem_of_getElem? (i := 1000) (by decide +kernel), List.mem_of_getElem? (i := 1001) (by decide +kernel)⟩
theorem lw_p33 : lw_okq (⟨"AllAboveIt$Parrots", "keeperFrom", "(III)I"⟩, 3) := ⟨⟨by decide +kernel, by decide +kernel⟩, List.mem_of_getElem? (i := 282) (by decide +kernel), List.mem_of_getElem? (i := 1038) (by decide +kernel), List.mem_of_getElem? (i := 1039) (by decide +kernel)⟩
theorem lw_p34 : lw_okq (⟨"AllAboveIt$Parrots", "liked", "(II)I"⟩, 3) := ⟨⟨by decide +kernel, by decide +kernel⟩, List.mem_of_getElem? (i := 282) (by decide +kernel), List.mem_of_getElem? (i := 1045) (by decide +kernel), List.mem_of_getElem? (i := 1046) (by decide +kernel)⟩
theorem lw_p35 : lw_okq (⟨"AllAboveIt$Parrots", "escapes", "(IIII)Z"⟩, 3) := ⟨⟨by decide +kernel, by decide +kernel⟩, List.mem_of_getElem? (i := 282) (by decide +kernel), List.mem_of_getElem? (i := 1063) (by decide +kernel), List.mem_of_getElem? (i := 1064) (by decide +kernel)⟩
theorem lw_p36 : lw_okq (⟨"AllAboveIt$Few", "chanceOf", "(II)J"⟩, 9) := ⟨⟨by decide +kernel, by decide +kernel⟩, List.mem_of_getElem? (i := 248) (by decide +kernel), List.mem_of_getElem? (i := 1080) (by decide +kernel), List.mem_of_getElem? (i := 1081) (by decide +kernel)⟩
theorem lw_p37 : lw_okq (⟨"AllAboveIt$Changes", "look", "(III)V"⟩, 11) := ⟨⟨by decide +kernel, by decide +kernel⟩, List.mem_of_getElem? (i := 300) (by decide +kernel), List.mem_of_getElem? (i := 1098) (by decide +kernel), List.mem_of_getElem? (i := 1099) (by decide +kernel)⟩
theorem lw_p38 : lw_okq (⟨"AllAboveIt$Changes", "victory", "(IIIII)Z"⟩, 11) := ⟨⟨by decide +kernel, by decide +kernel⟩, List.mem_of_getElem? (i := 300) (by decide +kernel), List.mem_of_getElem? (i := 1105) (by decide +kernel), List.mem_of_getElem? (i := 1106) (by decide +kernel)⟩
theorem lw_p39 : lw_okq (⟨"AllAboveIt$Changes", "winsByLaid", "(IIIII)Z"⟩, 11) := ⟨⟨by decide +kernel, by decide +kernel⟩, List.mem_of_getElem? (i := 300) (by decide +kernel), List.mem_of_getElem? (i := 1110) (by decide +kernel), List.mem_of_getElem? (i := 1111) (by decide +kernel)⟩
theorem lw_p40 : lw_okq (⟨"AllAboveIt$Changes", "winsByThings", "(IIIII)Z"⟩, 11) := ⟨⟨by decide +kernel, by decide +kernel⟩, List.mem_of_getElem? (i := 300) (by decide +kernel), List.mem_of_getElem? (i := 1114) (by decide +kernel), List.mem_of_getElem? (i := 1115) (by decide +kernel)⟩
theorem lw_p41 : lw_okq (⟨"AllAboveIt$Changes", "victoryBehind", "(IIIII)Z"⟩, 11) := ⟨⟨by decide +kernel, by decide +kernel⟩, List.mem_of_getElem? (i := 300) (by decide +kernel), List.mem_of_getElem? (i := 1123) (by decide +kernel), List.mem_of_getElem? (i := 1124) (by decide +kernel)⟩
theorem lw_p42 : lw_okq (⟨"AllAboveIt$Changes", "kinds", "()I"⟩, 11) := ⟨⟨by decide +kernel, by decide +kernel⟩, List.mem_of_getElem? (i := 300) (by decide +kernel), List.mem_of_getElem? (i := 1132) (by decide +kernel), List.mem_of_getElem? (i := 1133) (by decide +kernel)⟩
theorem lw_p43 : lw_okq (⟨"AllAboveIt$Changes", "partBy", "(II)I"⟩, 11) := ⟨⟨by decide +kernel, by decide +kernel⟩, List.mem_of_getElem? (i := 300) (by decide +kernel), List.mem_of_getElem? (i := 1136) (by decide +kernel), List.mem_of_getElem? (i := 1137) (by decide +kernel)⟩
theorem lw_p44 : lw_okq (⟨"AllAboveIt$Changes", "laidBy", "(I)I"⟩, 11) := ⟨⟨by decide +kernel, by decide +kernel⟩, List.mem_of_getElem? (i := 300) (by decide +kernel), List.mem_of_getElem? (i := 1140) (by decide +kernel), List.mem_of_getElem? (i := 1141) (by decide +kernel)⟩
theorem lw_p45 : lw_okq (⟨"AllAboveIt$Changes", "turns", "(III)Z"⟩, 11) := ⟨⟨by decide +kernel, by decide +kernel⟩, List.mem_of_getElem? (i := 300) (by decide +kernel), List.mem_of_getElem? (i := 1144) (by decide +kernel), List.mem_of_getElem? (i := 1145) (by decide +kernel)⟩
theorem lw_p46 : lw_okq (⟨"AllAboveIt$Changes", "named", "(I)I"⟩, 11) := ⟨⟨by decide +kernel, by decide +kernel⟩, List.mem_of_getElem? (i := 300) (by decide +kernel), List.mem_of_getElem? (i := 1148) (by decide +kernel), List.mem_of_getElem? (i := 1149) (by decide +kernel)⟩
theorem lw_p47 : lw_okq (⟨"AllAboveIt$Changes", "secondBehind", "(II)I"⟩, 11) := ⟨⟨by decide +kernel, by decide +kernel⟩, List.mem_of_getElem? (i := 300) (by decide +kernel), List.mem_of_getElem? (i := 1156) (by decide +kernel), List.mem_of_getElem? (i := 1157) (by decide +kernel)⟩
def lw_privs_3 : List (MethodName × Nat) := [(⟨"AllAboveIt", "tellFraction", "(JJ)V"⟩, 14), (⟨"AllAboveIt$Parrots", "keeperFrom", "(III)I"⟩, 3), (⟨"AllAboveIt$Parrots", "liked", "(II)I"⟩, 3), (⟨"AllAboveIt$Parrots", "escapes", "(IIII)Z"⟩, 3), (⟨"AllAboveIt$Few", "chanceOf", "(II)J"⟩, 9), (⟨"AllAboveIt$Changes", "look", "(III)V"⟩, 11), (⟨"AllAboveIt$Changes", "victory", "(IIIII)Z"⟩, 11), (⟨"AllAboveIt$Changes", "winsByLaid", "(IIIII)Z"⟩, 11), (⟨"AllAboveIt$Changes", "winsByThings", "(IIIII)Z"⟩, 11), (⟨"AllAboveIt$Changes", "victoryBehind", "(IIIII)Z"⟩, 11), (⟨"AllAboveIt$Changes", "kinds", "()I"⟩, 11), (⟨"AllAboveIt$Changes", "partBy", "(II)I"⟩, 11), (⟨"AllAboveIt$Changes", "laidBy", "(I)I"⟩, 11), (⟨"AllAboveIt$Changes", "turns", "(III)Z"⟩, 11), (⟨"AllAboveIt$Changes", "named", "(I)I"⟩, 11), (⟨"AllAboveIt$Changes", "secondBehind", "(II)I"⟩, 11)]
theorem lw_r3 : ∀ q ∈ lw_privs_3, lw_okq q := List.forall_mem_cons.mpr ⟨lw_p32, List.forall_mem_cons.mpr ⟨lw_p33, List.forall_mem_cons.mpr ⟨lw_p34, List.forall_mem_cons.mpr ⟨lw_p35, List.forall_mem_cons.mpr ⟨lw_p36, List.forall_mem_cons.mpr ⟨lw_p37, List.forall_mem_cons.mpr ⟨lw_p38, List.forall_mem_cons.mpr ⟨lw_p39, List.forall_mem_cons.mpr ⟨lw_p40, List.forall_mem_cons.mpr ⟨lw_p41, List.forall_mem_cons.mpr ⟨lw_p42, List.forall_mem_cons.mpr ⟨lw_p43, List.forall_mem_cons.mpr ⟨lw_p44, List.forall_mem_cons.mpr ⟨lw_p45, List.forall_mem_cons.mpr ⟨lw_p46, List.forall_mem_cons.mpr ⟨lw_p47, fun _ h => absurd h List.not_mem_nil⟩⟩⟩⟩⟩⟩⟩⟩⟩⟩⟩⟩⟩⟩⟩⟩
theorem lw_p48 : lw_okq (⟨"AllAboveIt$Changes", "stands", "(II)Z"⟩, 11) := ⟨⟨by decide +kernel, by decide +kernel⟩, List.mem_of_getElem? (i := 300) (by decide +kernel), List.mem_of_getElem? (i := 1160) (by decide +kernel), List.mem_of_getElem? (i := 1161) (by decide +kernel)⟩
theorem lw_p49 : lw_okq (⟨"java/lang/Throwable", "fillInStackTrace", "(I)Ljava/lang/Throwable;"⟩, 6) := ⟨⟨by decide +kernel, by decide +kernel⟩, List.mem_of_getElem? (i := 1254) (by decide +kernel), List.mem_of_getElem? (i := 1252) (by decide +kernel), List.mem_of_getElem? (i := 1253) (by decide +kernel)⟩
theorem lw_p50 : lw_okq (⟨"AllAboveItModel", "readsThing", "(I)Z"⟩, 38) := ⟨⟨by decide +kernel, by decide +kernel⟩, List.mem_of_getElem? (i := 1324) (by decide +kernel), List.mem_of_getElem? (i := 1322) (by decide +kernel), List.mem_of_getElem? (i := 1323) (by decide +kernel)⟩
theorem lw_p51 : lw_okq (⟨"AllAboveItModel", "number", "(III)I"⟩, 38) := ⟨⟨by decide +kernel, by decide +kernel⟩, List.mem_of_getElem? (i := 1324) (by decide +kernel), List.mem_of_getElem? (i := 1327) (by decide +kernel), List.mem_of_getElem? (i := 1328) (by decide +kernel)⟩
theorem lw_p52 : lw_okq (⟨"AllAboveItModel", "isDigit", "()Z"⟩, 38) := ⟨⟨by decide +kernel, by decide +kernel⟩, List.mem_of_getElem? (i := 1324) (by decide +kernel), List.mem_of_getElem? (i := 1331) (by decide +kernel), List.mem_of_getElem? (i := 1332) (by decide +kernel)⟩
theorem lw_p53 : lw_okq (⟨"AllAboveItModel", "takes", "(I)Z"⟩, 38) := ⟨⟨by decide +kernel, by decide +kernel⟩, List.mem_of_getElem? (i := 1324) (by decide +kernel), List.mem_of_getElem? (i := 1337) (by decide +kernel), List.mem_of_getElem? (i := 1338) (by decide +kernel)⟩
theorem lw_p54 : lw_okq (⟨"AllAboveItModel", "readsOn", "(I)Z"⟩, 38) := ⟨⟨by decide +kernel, by decide +kernel⟩, List.mem_of_getElem? (i := 1324) (by decide +kernel), List.mem_of_getElem? (i := 1344) (by decide +kernel), List.mem_of_getElem? (i := 1345) (by decide +kernel)⟩
theorem lw_p55 : lw_okq (⟨"AllAboveItModel", "rises", "(I)V"⟩, 38) := ⟨⟨by decide +kernel, by decide +kernel⟩, List.mem_of_getElem? (i := 1324) (by decide +kernel), List.mem_of_getElem? (i := 1348) (by decide +kernel), List.mem_of_getElem? (i := 1349) (by decide +kernel)⟩
theorem lw_p56 : lw_okq (⟨"AllAboveItModel", "begins", "()V"⟩, 38) := ⟨⟨by decide +kernel, by decide +kernel⟩, List.mem_of_getElem? (i := 1324) (by decide +kernel), List.mem_of_getElem? (i := 1355) (by decide +kernel), List.mem_of_getElem? (i := 1356) (by decide +kernel)⟩
theorem lw_p57 : lw_okq (⟨"AllAboveItModel", "isThing", "(I)Z"⟩, 38) := ⟨⟨by decide +kernel, by decide +kernel⟩, List.mem_of_getElem? (i := 1324) (by decide +kernel), List.mem_of_getElem? (i := 1363) (by decide +kernel), List.mem_of_getElem? (i := 1364) (by decide +kernel)⟩
theorem lw_p58 : lw_okq (⟨"AllAboveItModel", "refuse", "()I"⟩, 38) := ⟨⟨by decide +kernel, by decide +kernel⟩, List.mem_of_getElem? (i := 1324) (by decide +kernel), List.mem_of_getElem? (i := 1368) (by decide +kernel), List.mem_of_getElem? (i := 1369) (by decide +kernel)⟩
theorem lw_p59 : lw_okq (⟨"AllAboveItModel", "backOf", "(I)I"⟩, 38) := ⟨⟨by decide +kernel, by decide +kernel⟩, List.mem_of_getElem? (i := 1324) (by decide +kernel), List.mem_of_getElem? (i := 1372) (by decide +kernel), List.mem_of_getElem? (i := 1373) (by decide +kernel)⟩
theorem lw_p60 : lw_okq (⟨"AllAboveItModel", "isThere", "(I)Z"⟩, 38) := ⟨⟨by decide +kernel, by decide +kernel⟩, List.mem_of_getElem? (i := 1324) (by decide +kernel), List.mem_of_getElem? (i := 1376) (by decide +kernel), List.mem_of_getElem? (i := 1377) (by decide +kernel)⟩
theorem lw_p61 : lw_okq (⟨"AllAboveItModel", "movesOf", "(II)I"⟩, 38) := ⟨⟨by decide +kernel, by decide +kernel⟩, List.mem_of_getElem? (i := 1324) (by decide +kernel), List.mem_of_getElem? (i := 1395) (by decide +kernel), List.mem_of_getElem? (i := 1396) (by decide +kernel)⟩
theorem lw_p62 : lw_okq (⟨"AllAboveItModel", "can", "(III)Z"⟩, 38) := ⟨⟨by decide +kernel, by decide +kernel⟩, List.mem_of_getElem? (i := 1324) (by decide +kernel), List.mem_of_getElem? (i := 1399) (by decide +kernel), List.mem_of_getElem? (i := 1400) (by decide +kernel)⟩
theorem lw_p63 : lw_okq (⟨"AllAboveItModel", "canPut", "(II)Z"⟩, 38) := ⟨⟨by decide +kernel, by decide +kernel⟩, List.mem_of_getElem? (i := 1324) (by decide +kernel), List.mem_of_getElem? (i := 1404) (by decide +kernel), List.mem_of_getElem? (i := 1405) (by decide +kernel)⟩
def lw_privs_4 : List (MethodName × Nat) := [(⟨"AllAboveIt$Changes", "stands", "(II)Z"⟩, 11), (⟨"java/lang/Throwable", "fillInStackTrace", "(I)Ljava/lang/Throwable;"⟩, 6), (⟨"AllAboveItModel", "readsThing", "(I)Z"⟩, 38), (⟨"AllAboveItModel", "number", "(III)I"⟩, 38), (⟨"AllAboveItModel", "isDigit", "()Z"⟩, 38), (⟨"AllAboveItModel", "takes", "(I)Z"⟩, 38), (⟨"AllAboveItModel", "readsOn", "(I)Z"⟩, 38), (⟨"AllAboveItModel", "rises", "(I)V"⟩, 38), (⟨"AllAboveItModel", "begins", "()V"⟩, 38), (⟨"AllAboveItModel", "isThing", "(I)Z"⟩, 38), (⟨"AllAboveItModel", "refuse", "()I"⟩, 38), (⟨"AllAboveItModel", "backOf", "(I)I"⟩, 38), (⟨"AllAboveItModel", "isThere", "(I)Z"⟩, 38), (⟨"AllAboveItModel", "movesOf", "(II)I"⟩, 38), (⟨"AllAboveItModel", "can", "(III)Z"⟩, 38), (⟨"AllAboveItModel", "canPut", "(II)Z"⟩, 38)]
theorem lw_r4 : ∀ q ∈ lw_privs_4, lw_okq q := List.forall_mem_cons.mpr ⟨lw_p48, List.forall_mem_cons.mpr ⟨lw_p49, List.forall_mem_cons.mpr ⟨lw_p50, List.forall_mem_cons.mpr ⟨lw_p51, List.forall_mem_cons.mpr ⟨lw_p52, List.forall_mem_cons.mpr ⟨lw_p53, List.forall_mem_cons.mpr ⟨lw_p54, List.forall_mem_cons.mpr ⟨lw_p55, List.forall_mem_cons.mpr ⟨lw_p56, List.forall_mem_cons.mpr ⟨lw_p57, List.forall_mem_cons.mpr ⟨lw_p58, List.forall_mem_cons.mpr ⟨lw_p59, List.forall_mem_cons.mpr ⟨lw_p60, List.forall_mem_cons.mpr ⟨lw_p61, List.forall_mem_cons.mpr ⟨lw_p62, List.forall_mem_cons.mpr ⟨lw_p63, fun _ h => absurd h List.not_mem_nil⟩⟩⟩⟩⟩⟩⟩⟩⟩⟩⟩⟩⟩⟩⟩⟩
theorem lw_p64 : lw_okq (⟨"AllAboveItModel", "after", "(II)I"⟩, 38) := ⟨⟨by decide +kernel, by decide +kernel⟩, List.mem_of_getElem? (i := 1324) (by decide +kernel), List.mem_of_getElem? (i := 1412) (by decide +kernel), List.mem_of_getElem? (i := 1413) (by decide +kernel)⟩
theorem lw_p65 : lw_okq (⟨"AllAboveItModel", "worthOf", "(II)I"⟩, 38) := ⟨⟨by decide +kernel, by decide +kernel⟩, List.mem_of_getElem? (i := 1324) (by decide +kernel), List.mem_of_getElem? (i := 1429) (by decide +kernel), List.mem_of_getElem? (i := 1430) (by decide +kernel)⟩
theorem lw_p66 : lw_okq (⟨"AllAboveItModel", "enters", "(J)V"⟩, 38) := ⟨⟨by decide +kernel, by decide +kernel⟩, List.mem_of_getElem? (i := 1324) (by decide +kernel), List.mem_of_getElem? (i := 1433) (by decide +kernel), List.mem_of_getElem? (i := 1434) (by decide +kernel)⟩
theorem lw_p67 : lw_okq (⟨"AllAboveItModel", "winner", "(III)I"⟩, 38) := ⟨⟨by decide +kernel, by decide +kernel⟩, List.mem_of_getElem? (i := 1324) (by decide +kernel), List.mem_of_getElem? (i := 1445) (by decide +kernel), List.mem_of_getElem? (i := 1446) (by decide +kernel)⟩
theorem lw_p68 : lw_okq (⟨"AllAboveItModel", "asks", "()V"⟩, 38) := ⟨⟨by decide +kernel, by decide +kernel⟩, List.mem_of_getElem? (i := 1324) (by decide +kernel), List.mem_of_getElem? (i := 1449) (by decide +kernel), List.mem_of_getElem? (i := 1450) (by decide +kernel)⟩
theorem lw_p69 : lw_okq (⟨"AllAboveItModel", "win", "(III)I"⟩, 38) := ⟨⟨by decide +kernel, by decide +kernel⟩, List.mem_of_getElem? (i := 1324) (by decide +kernel), List.mem_of_getElem? (i := 1453) (by decide +kernel), List.mem_of_getElem? (i := 1454) (by decide +kernel)⟩
theorem lw_p70 : lw_okq (⟨"AllAboveItModel", "placeOf", "(II)I"⟩, 38) := ⟨⟨by decide +kernel, by decide +kernel⟩, List.mem_of_getElem? (i := 1324) (by decide +kernel), List.mem_of_getElem? (i := 1457) (by decide +kernel), List.mem_of_getElem? (i := 1458) (by decide +kernel)⟩
theorem lw_p71 : lw_okq (⟨"AllAboveItModel", "isKnown", "(I)Z"⟩, 38) := ⟨⟨by decide +kernel, by decide +kernel⟩, List.mem_of_getElem? (i := 1324) (by decide +kernel), List.mem_of_getElem? (i := 1462) (by decide +kernel), List.mem_of_getElem? (i := 1463) (by decide +kernel)⟩
theorem lw_p72 : lw_okq (⟨"AllAboveItModel", "keeps", "(II)I"⟩, 38) := ⟨⟨by decide +kernel, by decide +kernel⟩, List.mem_of_getElem? (i := 1324) (by decide +kernel), List.mem_of_getElem? (i := 1466) (by decide +kernel), List.mem_of_getElem? (i := 1467) (by decide +kernel)⟩
theorem lw_p73 : lw_okq (⟨"AllAboveItModel", "lasts", "(II)I"⟩, 38) := ⟨⟨by decide +kernel, by decide +kernel⟩, List.mem_of_getElem? (i := 1324) (by decide +kernel), List.mem_of_getElem? (i := 1478) (by decide +kernel), List.mem_of_getElem? (i := 1479) (by decide +kernel)⟩
theorem lw_p74 : lw_okq (⟨"AllAboveItModel", "moves", "(IIZ)I"⟩, 38) := ⟨⟨by decide +kernel, by decide +kernel⟩, List.mem_of_getElem? (i := 1324) (by decide +kernel), List.mem_of_getElem? (i := 1508) (by decide +kernel), List.mem_of_getElem? (i := 1509) (by decide +kernel)⟩
theorem lw_p75 : lw_okq (⟨"AllAboveItModel", "valueOf", "(I)I"⟩, 38) := ⟨⟨by decide +kernel, by decide +kernel⟩, List.mem_of_getElem? (i := 1324) (by decide +kernel), List.mem_of_getElem? (i := 1516) (by decide +kernel), List.mem_of_getElem? (i := 1517) (by decide +kernel)⟩
theorem lw_p76 : lw_okq (⟨"AllAboveItModel", "leadsTo", "(I)I"⟩, 38) := ⟨⟨by decide +kernel, by decide +kernel⟩, List.mem_of_getElem? (i := 1324) (by decide +kernel), List.mem_of_getElem? (i := 1520) (by decide +kernel), List.mem_of_getElem? (i := 1521) (by decide +kernel)⟩
theorem lw_p77 : lw_okq (⟨"AllAboveItModel", "areThings", "(I)Z"⟩, 38) := ⟨⟨by decide +kernel, by decide +kernel⟩, List.mem_of_getElem? (i := 1324) (by decide +kernel), List.mem_of_getElem? (i := 1528) (by decide +kernel), List.mem_of_getElem? (i := 1529) (by decide +kernel)⟩
theorem lw_p78 : lw_okq (⟨"AllAboveItModel", "aloneOf", "(I)I"⟩, 38) := ⟨⟨by decide +kernel, by decide +kernel⟩, List.mem_of_getElem? (i := 1324) (by decide +kernel), List.mem_of_getElem? (i := 1532) (by decide +kernel), List.mem_of_getElem? (i := 1533) (by decide +kernel)⟩
theorem lw_p79 : lw_okq (⟨"AllAboveItModel", "heapOf", "(I)I"⟩, 38) := ⟨⟨by decide +kernel, by decide +kernel⟩, List.mem_of_getElem? (i := 1324) (by decide +kernel), List.mem_of_getElem? (i := 1541) (by decide +kernel), List.mem_of_getElem? (i := 1542) (by decide +kernel)⟩
def lw_privs_5 : List (MethodName × Nat) := [(⟨"AllAboveItModel", "after", "(II)I"⟩, 38), (⟨"AllAboveItModel", "worthOf", "(II)I"⟩, 38), (⟨"AllAboveItModel", "enters", "(J)V"⟩, 38), (⟨"AllAboveItModel", "winner", "(III)I"⟩, 38), (⟨"AllAboveItModel", "asks", "()V"⟩, 38), (⟨"AllAboveItModel", "win", "(III)I"⟩, 38), (⟨"AllAboveItModel", "placeOf", "(II)I"⟩, 38), (⟨"AllAboveItModel", "isKnown", "(I)Z"⟩, 38), (⟨"AllAboveItModel", "keeps", "(II)I"⟩, 38), (⟨"AllAboveItModel", "lasts", "(II)I"⟩, 38), (⟨"AllAboveItModel", "moves", "(IIZ)I"⟩, 38), (⟨"AllAboveItModel", "valueOf", "(I)I"⟩, 38), (⟨"AllAboveItModel", "leadsTo", "(I)I"⟩, 38), (⟨"AllAboveItModel", "areThings", "(I)Z"⟩, 38), (⟨"AllAboveItModel", "aloneOf", "(I)I"⟩, 38), (⟨"AllAboveItModel", "heapOf", "(I)I"⟩, 38)]
theorem lw_r5 : ∀ q ∈ lw_privs_5, lw_okq q := List.forall_mem_cons.mpr ⟨lw_p64, List.forall_mem_cons.mpr ⟨lw_p65, List.forall_mem_cons.mpr ⟨lw_p66, List.forall_mem_cons.mpr ⟨lw_p67, List.forall_mem_cons.mpr ⟨lw_p68, List.forall_mem_cons.mpr ⟨lw_p69, List.forall_mem_cons.mpr ⟨lw_p70, List.forall_mem_cons.mpr ⟨lw_p71, List.forall_mem_cons.mpr ⟨lw_p72, List.forall_mem_cons.mpr ⟨lw_p73, List.forall_mem_cons.mpr ⟨lw_p74, List.forall_mem_cons.mpr ⟨lw_p75, List.forall_mem_cons.mpr ⟨lw_p76, List.forall_mem_cons.mpr ⟨lw_p77, List.forall_mem_cons.mpr ⟨lw_p78, List.forall_mem_cons.mpr ⟨lw_p79, fun _ h => absurd h List.not_mem_nil⟩⟩⟩⟩⟩⟩⟩⟩⟩⟩⟩⟩⟩⟩⟩⟩
theorem lw_p80 : lw_okq (⟨"AllAboveItModel", "joins", "(I)I"⟩, 38) := ⟨⟨by decide +kernel, by decide +kernel⟩, List.mem_of_getElem? (i := 1324) (by decide +kernel), List.mem_of_getElem? (i := 1558) (by decide +kernel), List.mem_of_getElem? (i := 1559) (by decide +kernel)⟩
theorem lw_p81 : lw_okq (⟨"AllAboveItModel", "pairs", "(II)Z"⟩, 38) := ⟨⟨by decide +kernel, by decide +kernel⟩, List.mem_of_getElem? (i := 1324) (by decide +kernel), List.mem_of_getElem? (i := 1566) (by decide +kernel), List.mem_of_getElem? (i := 1567) (by decide +kernel)⟩
theorem lw_p82 : lw_okq (⟨"AllAboveItModel", "winWall", "(I)I"⟩, 38) := ⟨⟨by decide +kernel, by decide +kernel⟩, List.mem_of_getElem? (i := 1324) (by decide +kernel), List.mem_of_getElem? (i := 1575) (by decide +kernel), List.mem_of_getElem? (i := 1576) (by decide +kernel)⟩
theorem lw_p83 : lw_okq (⟨"AllAboveItModel", "more", "(II)I"⟩, 38) := ⟨⟨by decide +kernel, by decide +kernel⟩, List.mem_of_getElem? (i := 1324) (by decide +kernel), List.mem_of_getElem? (i := 1589) (by decide +kernel), List.mem_of_getElem? (i := 1590) (by decide +kernel)⟩
theorem lw_p84 : lw_okq (⟨"AllAboveItModel", "reach", "(I)I"⟩, 38) := ⟨⟨by decide +kernel, by decide +kernel⟩, List.mem_of_getElem? (i := 1324) (by decide +kernel), List.mem_of_getElem? (i := 1605) (by decide +kernel), List.mem_of_getElem? (i := 1606) (by decide +kernel)⟩
theorem lw_p85 : lw_okq (⟨"AllAboveItModel", "means", "(II)J"⟩, 38) := ⟨⟨by decide +kernel, by decide +kernel⟩, List.mem_of_getElem? (i := 1324) (by decide +kernel), List.mem_of_getElem? (i := 1613) (by decide +kernel), List.mem_of_getElem? (i := 1614) (by decide +kernel)⟩
theorem lw_p86 : lw_okq (⟨"AllAboveItModel", "keeper", "(III)I"⟩, 38) := ⟨⟨by decide +kernel, by decide +kernel⟩, List.mem_of_getElem? (i := 1324) (by decide +kernel), List.mem_of_getElem? (i := 1634) (by decide +kernel), List.mem_of_getElem? (i := 1635) (by decide +kernel)⟩
theorem lw_p87 : lw_okq (⟨"AllAboveItModel", "liking", "(II)I"⟩, 38) := ⟨⟨by decide +kernel, by decide +kernel⟩, List.mem_of_getElem? (i := 1324) (by decide +kernel), List.mem_of_getElem? (i := 1638) (by decide +kernel), List.mem_of_getElem? (i := 1639) (by decide +kernel)⟩
theorem lw_p88 : lw_okq (⟨"AllAboveItModel", "keeperOfTwo", "(IIII)I"⟩, 38) := ⟨⟨by decide +kernel, by decide +kernel⟩, List.mem_of_getElem? (i := 1324) (by decide +kernel), List.mem_of_getElem? (i := 1650) (by decide +kernel), List.mem_of_getElem? (i := 1651) (by decide +kernel)⟩
theorem lw_p89 : lw_okq (⟨"AllAboveItModel", "chance", "(III)J"⟩, 38) := ⟨⟨by decide +kernel, by decide +kernel⟩, List.mem_of_getElem? (i := 1324) (by decide +kernel), List.mem_of_getElem? (i := 1659) (by decide +kernel), List.mem_of_getElem? (i := 1660) (by decide +kernel)⟩
theorem lw_p90 : lw_okq (⟨"AllAboveItModel", "isFew", "()Z"⟩, 38) := ⟨⟨by decide +kernel, by decide +kernel⟩, List.mem_of_getElem? (i := 1324) (by decide +kernel), List.mem_of_getElem? (i := 1671) (by decide +kernel), List.mem_of_getElem? (i := 1672) (by decide +kernel)⟩
theorem lw_p91 : lw_okq (⟨"AllAboveItModel", "clears", "()V"⟩, 38) := ⟨⟨by decide +kernel, by decide +kernel⟩, List.mem_of_getElem? (i := 1324) (by decide +kernel), List.mem_of_getElem? (i := 1675) (by decide +kernel), List.mem_of_getElem? (i := 1676) (by decide +kernel)⟩
theorem lw_p92 : lw_okq (⟨"AllAboveItModel", "winsNow", "()Z"⟩, 38) := ⟨⟨by decide +kernel, by decide +kernel⟩, List.mem_of_getElem? (i := 1324) (by decide +kernel), List.mem_of_getElem? (i := 1679) (by decide +kernel), List.mem_of_getElem? (i := 1680) (by decide +kernel)⟩
theorem lw_p93 : lw_okq (⟨"AllAboveItModel", "winWide", "(III)I"⟩, 38) := ⟨⟨by decide +kernel, by decide +kernel⟩, List.mem_of_getElem? (i := 1324) (by decide +kernel), List.mem_of_getElem? (i := 1683) (by decide +kernel), List.mem_of_getElem? (i := 1684) (by decide +kernel)⟩
theorem lw_p94 : lw_okq (⟨"AllAboveItModel", "turnsBy", "(IIZ)Z"⟩, 38) := ⟨⟨by decide +kernel, by decide +kernel⟩, List.mem_of_getElem? (i := 1324) (by decide +kernel), List.mem_of_getElem? (i := 1693) (by decide +kernel), List.mem_of_getElem? (i := 1694) (by decide +kernel)⟩
theorem lw_p95 : lw_okq (⟨"AllAboveItModel", "changes", "(I)Z"⟩, 38) := ⟨⟨by decide +kernel, by decide +kernel⟩, List.mem_of_getElem? (i := 1324) (by decide +kernel), List.mem_of_getElem? (i := 1697) (by decide +kernel), List.mem_of_getElem? (i := 1698) (by decide +kernel)⟩
def lw_privs_6 : List (MethodName × Nat) := [(⟨"AllAboveItModel", "joins", "(I)I"⟩, 38), (⟨"AllAboveItModel", "pairs", "(II)Z"⟩, 38), (⟨"AllAboveItModel", "winWall", "(I)I"⟩, 38), (⟨"AllAboveItModel", "more", "(II)I"⟩, 38), (⟨"AllAboveItModel", "reach", "(I)I"⟩, 38), (⟨"AllAboveItModel", "means", "(II)J"⟩, 38), (⟨"AllAboveItModel", "keeper", "(III)I"⟩, 38), (⟨"AllAboveItModel", "liking", "(II)I"⟩, 38), (⟨"AllAboveItModel", "keeperOfTwo", "(IIII)I"⟩, 38), (⟨"AllAboveItModel", "chance", "(III)J"⟩, 38), (⟨"AllAboveItModel", "isFew", "()Z"⟩, 38), (⟨"AllAboveItModel", "clears", "()V"⟩, 38), (⟨"AllAboveItModel", "winsNow", "()Z"⟩, 38), (⟨"AllAboveItModel", "winWide", "(III)I"⟩, 38), (⟨"AllAboveItModel", "turnsBy", "(IIZ)Z"⟩, 38), (⟨"AllAboveItModel", "changes", "(I)Z"⟩, 38)]
theorem lw_r6 : ∀ q ∈ lw_privs_6, lw_okq q := List.forall_mem_cons.mpr ⟨lw_p80, List.forall_mem_cons.mpr ⟨lw_p81, List.forall_mem_cons.mpr ⟨lw_p82, List.forall_mem_cons.mpr ⟨lw_p83, List.forall_mem_cons.mpr ⟨lw_p84, List.forall_mem_cons.mpr ⟨lw_p85, List.forall_mem_cons.mpr ⟨lw_p86, List.forall_mem_cons.mpr ⟨lw_p87, List.forall_mem_cons.mpr ⟨lw_p88, List.forall_mem_cons.mpr ⟨lw_p89, List.forall_mem_cons.mpr ⟨lw_p90, List.forall_mem_cons.mpr ⟨lw_p91, List.forall_mem_cons.mpr ⟨lw_p92, List.forall_mem_cons.mpr ⟨lw_p93, List.forall_mem_cons.mpr ⟨lw_p94, List.forall_mem_cons.mpr ⟨lw_p95, fun _ h => absurd h List.not_mem_nil⟩⟩⟩⟩⟩⟩⟩⟩⟩⟩⟩⟩⟩⟩⟩⟩
theorem lw_p96 : lw_okq (⟨"AllAboveItModel", "canChange", "(I)Z"⟩, 38) := ⟨⟨by decide +kernel, by decide +kernel⟩, List.mem_of_getElem? (i := 1324) (by decide +kernel), List.mem_of_getElem? (i := 1701) (by decide +kernel), List.mem_of_getElem? (i := 1702) (by decide +kernel)⟩
theorem lw_p97 : lw_okq (⟨"AllAboveItModel", "putBack", "()I"⟩, 38) := ⟨⟨by decide +kernel, by decide +kernel⟩, List.mem_of_getElem? (i := 1324) (by decide +kernel), List.mem_of_getElem? (i := 1721) (by decide +kernel), List.mem_of_getElem? (i := 1722) (by decide +kernel)⟩
def lw_privs_7 : List (MethodName × Nat) := [(⟨"AllAboveItModel", "canChange", "(I)Z"⟩, 38), (⟨"AllAboveItModel", "putBack", "()I"⟩, 38)]
theorem lw_r7 : ∀ q ∈ lw_privs_7, lw_okq q := List.forall_mem_cons.mpr ⟨lw_p96, List.forall_mem_cons.mpr ⟨lw_p97, fun _ h => absurd h List.not_mem_nil⟩⟩
def lw_privs : List (MethodName × Nat) := lw_privs_1 ++ (lw_privs_2 ++ (lw_privs_3 ++ (lw_privs_4 ++ (lw_privs_5 ++ (lw_privs_6 ++ (lw_privs_7))))))
def lw_tbl : List Cond := k2_sels lw_privs ++ tables_1
theorem lw_privs_ok : ∀ q ∈ lw_privs, lw_okq q := by
  show ∀ q ∈ lw_privs_1 ++ (lw_privs_2 ++ (lw_privs_3 ++ (lw_privs_4 ++ (lw_privs_5 ++ (lw_privs_6 ++ (lw_privs_7)))))), lw_okq q
  exact List.forall_mem_append.mpr ⟨lw_r1, List.forall_mem_append.mpr ⟨lw_r2, List.forall_mem_append.mpr ⟨lw_r3, List.forall_mem_append.mpr ⟨lw_r4, List.forall_mem_append.mpr ⟨lw_r5, List.forall_mem_append.mpr ⟨lw_r6, lw_r7⟩⟩⟩⟩⟩⟩
def RX0 : String := "AllAboveIt$Changes"
def TX0 : u_T := fun k => match k with
  | 0 => ("AllAboveIt$Changes", "few", "LAllAboveIt$Few;", true)
  | 1 => ("AllAboveIt$Changes", "pile", "LAllAboveIt$Pile;", true)
  | 2 => ("AllAboveIt$Changes", "known", "[I", false)
  | 3 => ("AllAboveIt$Changes", "round", "I", false)
  | 4 => ("AllAboveIt$Changes", "version", "I", false)
  | 5 => ("AllAboveIt$Changes", "there", "I", false)
  | 6 => ("AllAboveIt$Changes", "ending", "I", false)
  | 7 => ("AllAboveIt$Changes", "turn", "I", false)
  | 8 => ("AllAboveIt$Changes", "winsNow", "Z", false)
  | 9 => ("AllAboveIt$Changes", "first", "I", false)
  | _ => ("AllAboveIt$Changes", "second", "I", false)
def tyX0 : Nat → FieldType := fun k => match k with
  | 0 => .object "AllAboveIt$Few"
  | 1 => .object "AllAboveIt$Pile"
  | 2 => .array .int
  | 3 => .int
  | 4 => .int
  | 5 => .int
  | 6 => .int
  | 7 => .int
  | 8 => .boolean
  | 9 => .int
  | _ => .int
theorem nmX0 : ∀ a, a < 11 → ∀ b, b < 11 → a ≠ b → (TX0 a).2.1 ≠ (TX0 b).2.1 := by decide +kernel
theorem tyX0_ok : ∀ k, k < 11 → parseFieldDescriptor (TX0 k).2.2.1 = some (tyX0 k) := by decide +kernel
abbrev cX0_init : ByteArray := prog_2_method_1_code
def yX0_init : MethodName := ⟨RX0, "<init>", "(LAllAboveIt$Pile;)V"⟩
abbrev cX0_firstChange : ByteArray := prog_2_method_2_code
def yX0_firstChange : MethodName := ⟨RX0, "firstChange", "()I"⟩
abbrev cX0_secondChange : ByteArray := prog_2_method_3_code
def yX0_secondChange : MethodName := ⟨RX0, "secondChange", "()I"⟩
abbrev cX0_look : ByteArray := prog_2_method_4_code
def yX0_look : MethodName := ⟨RX0, "look", "(III)V"⟩
abbrev cX0_turning : ByteArray := prog_2_method_5_code
def yX0_turning : MethodName := ⟨RX0, "turning", "(III)J"⟩
abbrev cX0_fewest : ByteArray := prog_2_method_6_code
def yX0_fewest : MethodName := ⟨RX0, "fewest", "(III)I"⟩
abbrev cX0_secondBehind : ByteArray := prog_2_method_7_code
def yX0_secondBehind : MethodName := ⟨RX0, "secondBehind", "(II)I"⟩
abbrev cX0_kinds : ByteArray := prog_2_method_8_code
def yX0_kinds : MethodName := ⟨RX0, "kinds", "()I"⟩
abbrev cX0_named : ByteArray := prog_2_method_9_code
def yX0_named : MethodName := ⟨RX0, "named", "(I)I"⟩
abbrev cX0_stands : ByteArray := prog_2_method_10_code
def yX0_stands : MethodName := ⟨RX0, "stands", "(II)Z"⟩
abbrev cX0_partBy : ByteArray := prog_2_method_11_code
def yX0_partBy : MethodName := ⟨RX0, "partBy", "(II)I"⟩
abbrev cX0_laidBy : ByteArray := prog_2_method_12_code
def yX0_laidBy : MethodName := ⟨RX0, "laidBy", "(I)I"⟩
abbrev cX0_turns : ByteArray := prog_2_method_13_code
def yX0_turns : MethodName := ⟨RX0, "turns", "(III)Z"⟩
abbrev cX0_victoryBehind : ByteArray := prog_2_method_14_code
def yX0_victoryBehind : MethodName := ⟨RX0, "victoryBehind", "(IIIII)Z"⟩
abbrev cX0_left : ByteArray := prog_2_method_15_code
def yX0_left : MethodName := ⟨RX0, "left", "(II)I"⟩
abbrev cX0_victory : ByteArray := prog_2_method_16_code
def yX0_victory : MethodName := ⟨RX0, "victory", "(IIIII)Z"⟩
abbrev cX0_winsByLaid : ByteArray := prog_2_method_17_code
def yX0_winsByLaid : MethodName := ⟨RX0, "winsByLaid", "(IIIII)Z"⟩
abbrev cX0_winsByThings : ByteArray := prog_2_method_18_code
def yX0_winsByThings : MethodName := ⟨RX0, "winsByThings", "(IIIII)Z"⟩
def RX1 : String := "AllAboveIt$Few"
def TX1 : u_T := fun k => match k with
  | 0 => ("AllAboveIt$Few", "pile", "LAllAboveIt$Pile;", true)
  | 1 => ("AllAboveIt$Few", "number", "[I", true)
  | 2 => ("AllAboveIt$Few", "clears", "[I", true)
  | 3 => ("AllAboveIt$Few", "allowed", "[I", true)
  | 4 => ("AllAboveIt$Few", "cells", "[J", true)
  | 5 => ("AllAboveIt$Few", "many", "I", false)
  | 6 => ("AllAboveIt$Few", "client", "I", false)
  | 7 => ("AllAboveIt$Few", "cases", "I", false)
  | _ => ("AllAboveIt$Few", "ending", "I", false)
def tyX1 : Nat → FieldType := fun k => match k with
  | 0 => .object "AllAboveIt$Pile"
  | 1 => .array .int
  | 2 => .array .int
  | 3 => .array .int
  | 4 => .array .long
  | 5 => .int
  | 6 => .int
  | 7 => .int
  | _ => .int
theorem nmX1 : ∀ a, a < 9 → ∀ b, b < 9 → a ≠ b → (TX1 a).2.1 ≠ (TX1 b).2.1 := by decide +kernel
theorem tyX1_ok : ∀ k, k < 9 → parseFieldDescriptor (TX1 k).2.2.1 = some (tyX1 k) := by decide +kernel
abbrev cX1_init : ByteArray := prog_3_method_1_code
def yX1_init : MethodName := ⟨RX1, "<init>", "(LAllAboveIt$Pile;)V"⟩
abbrev cX1_lay : ByteArray := prog_3_method_2_code
def yX1_lay : MethodName := ⟨RX1, "lay", "(I)V"⟩
abbrev cX1_renumbered : ByteArray := prog_3_method_3_code
def yX1_renumbered : MethodName := ⟨RX1, "renumbered", "(I)I"⟩
abbrev cX1_worthOf : ByteArray := prog_3_method_4_code
def yX1_worthOf : MethodName := ⟨RX1, "worthOf", "(I)I"⟩
abbrev cX1_many : ByteArray := prog_3_method_5_code
def yX1_many : MethodName := ⟨RX1, "many", "()I"⟩
abbrev cX1_all : ByteArray := prog_3_method_6_code
def yX1_all : MethodName := ⟨RX1, "all", "()I"⟩
abbrev cX1_thingAt : ByteArray := prog_3_method_7_code
def yX1_thingAt : MethodName := ⟨RX1, "thingAt", "(I)I"⟩
abbrev cX1_takes : ByteArray := prog_3_method_8_code
def yX1_takes : MethodName := ⟨RX1, "takes", "(II)I"⟩
abbrev cX1_behind : ByteArray := prog_3_method_9_code
def yX1_behind : MethodName := ⟨RX1, "behind", "(II)I"⟩
abbrev cX1_cell : ByteArray := prog_3_method_10_code
def yX1_cell : MethodName := ⟨RX1, "cell", "(II)J"⟩
abbrev cX1_set : ByteArray := prog_3_method_11_code
def yX1_set : MethodName := ⟨RX1, "set", "(IIJ)V"⟩
abbrev cX1_meanMore : ByteArray := prog_3_method_12_code
def yX1_meanMore : MethodName := ⟨RX1, "meanMore", "(II)J"⟩
abbrev cX1_meanOf : ByteArray := prog_3_method_13_code
def yX1_meanOf : MethodName := ⟨RX1, "meanOf", "(II)J"⟩
abbrev cX1_hire : ByteArray := prog_3_method_14_code
def yX1_hire : MethodName := ⟨RX1, "hire", "(III)V"⟩
abbrev cX1_chance : ByteArray := prog_3_method_15_code
def yX1_chance : MethodName := ⟨RX1, "chance", "(II)J"⟩
abbrev cX1_chanceOf : ByteArray := prog_3_method_16_code
def yX1_chanceOf : MethodName := ⟨RX1, "chanceOf", "(II)J"⟩
def RX2 : String := "AllAboveIt$Game"
def TX2 : u_T := fun k => match k with
  | 0 => ("AllAboveIt$Game", "pile", "LAllAboveIt$Pile;", true)
  | 1 => ("AllAboveIt$Game", "before", "[I", true)
  | 2 => ("AllAboveIt$Game", "made", "I", false)
  | 3 => ("AllAboveIt$Game", "state", "I", false)
  | _ => ("AllAboveIt$Game", "ending", "I", false)
def tyX2 : Nat → FieldType := fun k => match k with
  | 0 => .object "AllAboveIt$Pile"
  | 1 => .array .int
  | 2 => .int
  | 3 => .int
  | _ => .int
theorem nmX2 : ∀ a, a < 5 → ∀ b, b < 5 → a ≠ b → (TX2 a).2.1 ≠ (TX2 b).2.1 := by decide +kernel
theorem tyX2_ok : ∀ k, k < 5 → parseFieldDescriptor (TX2 k).2.2.1 = some (tyX2 k) := by decide +kernel
abbrev cX2_init : ByteArray := prog_4_method_1_code
def yX2_init : MethodName := ⟨RX2, "<init>", "(LAllAboveIt$Pile;)V"⟩
abbrev cX2_start : ByteArray := prog_4_method_2_code
def yX2_start : MethodName := ⟨RX2, "start", "()V"⟩
abbrev cX2_state : ByteArray := prog_4_method_3_code
def yX2_state : MethodName := ⟨RX2, "state", "()I"⟩
abbrev cX2_there : ByteArray := prog_4_method_4_code
def yX2_there : MethodName := ⟨RX2, "there", "()I"⟩
abbrev cX2_made : ByteArray := prog_4_method_5_code
def yX2_made : MethodName := ⟨RX2, "made", "()I"⟩
abbrev cX2_turn : ByteArray := prog_4_method_6_code
def yX2_turn : MethodName := ⟨RX2, "turn", "()I"⟩
abbrev cX2_ending : ByteArray := prog_4_method_7_code
def yX2_ending : MethodName := ⟨RX2, "ending", "()I"⟩
abbrev cX2_endBy : ByteArray := prog_4_method_8_code
def yX2_endBy : MethodName := ⟨RX2, "endBy", "(I)V"⟩
abbrev cX2_go : ByteArray := prog_4_method_9_code
def yX2_go : MethodName := ⟨RX2, "go", "(I)I"⟩
abbrev cX2_goBack : ByteArray := prog_4_method_10_code
def yX2_goBack : MethodName := ⟨RX2, "goBack", "()I"⟩
abbrev cX2_takenBy : ByteArray := prog_4_method_11_code
def yX2_takenBy : MethodName := ⟨RX2, "takenBy", "(I)I"⟩
abbrev cX2_copy : ByteArray := prog_4_method_12_code
def yX2_copy : MethodName := ⟨RX2, "copy", "(LAllAboveIt$Game;)V"⟩
def RX3 : String := "AllAboveIt$Heaps"
def TX3 : u_T := fun k => match k with
  | 0 => ("AllAboveIt$Heaps", "pile", "LAllAboveIt$Pile;", true)
  | 1 => ("AllAboveIt$Heaps", "values", "LAllAboveIt$Memo;", true)
  | 2 => ("AllAboveIt$Heaps", "joints", "[I", true)
  | 3 => ("AllAboveIt$Heaps", "left", "[I", true)
  | 4 => ("AllAboveIt$Heaps", "right", "[I", true)
  | _ => ("AllAboveIt$Heaps", "partner", "[I", true)
def tyX3 : Nat → FieldType := fun k => match k with
  | 0 => .object "AllAboveIt$Pile"
  | 1 => .object "AllAboveIt$Memo"
  | 2 => .array .int
  | 3 => .array .int
  | 4 => .array .int
  | _ => .array .int
theorem nmX3 : ∀ a, a < 6 → ∀ b, b < 6 → a ≠ b → (TX3 a).2.1 ≠ (TX3 b).2.1 := by decide +kernel
theorem tyX3_ok : ∀ k, k < 6 → parseFieldDescriptor (TX3 k).2.2.1 = some (tyX3 k) := by decide +kernel
abbrev cX3_init : ByteArray := prog_5_method_1_code
def yX3_init : MethodName := ⟨RX3, "<init>", "(LAllAboveIt$Pile;)V"⟩
abbrev cX3_valueOf : ByteArray := prog_5_method_2_code
def yX3_valueOf : MethodName := ⟨RX3, "valueOf", "(I)I"⟩
abbrev cX3_valueFrom : ByteArray := prog_5_method_3_code
def yX3_valueFrom : MethodName := ⟨RX3, "valueFrom", "(II)I"⟩
abbrev cX3_valuesBehind : ByteArray := prog_5_method_4_code
def yX3_valuesBehind : MethodName := ⟨RX3, "valuesBehind", "(I)I"⟩
abbrev cX3_firstTo : ByteArray := prog_5_method_5_code
def yX3_firstTo : MethodName := ⟨RX3, "firstTo", "(II)I"⟩
abbrev cX3_byJoining : ByteArray := prog_5_method_6_code
def yX3_byJoining : MethodName := ⟨RX3, "byJoining", "(I)I"⟩
abbrev cX3_compare : ByteArray := prog_5_method_7_code
def yX3_compare : MethodName := ⟨RX3, "compare", "(II)I"⟩
abbrev cX3_list : ByteArray := prog_5_method_8_code
def yX3_list : MethodName := ⟨RX3, "list", "(I[I)I"⟩
abbrev cX3_pairs : ByteArray := prog_5_method_9_code
def yX3_pairs : MethodName := ⟨RX3, "pairs", "(III)Z"⟩
abbrev cX3_fits : ByteArray := prog_5_method_10_code
def yX3_fits : MethodName := ⟨RX3, "fits", "(II)Z"⟩
def RX4 : String := "AllAboveIt$Memo"
def TX4 : u_T := fun k => match k with
  | 0 => ("AllAboveIt$Memo", "cells", "[J", false)
  | _ => ("AllAboveIt$Memo", "version", "I", false)
def tyX4 : Nat → FieldType := fun k => match k with
  | 0 => .array .long
  | _ => .int
theorem nmX4 : ∀ a, a < 2 → ∀ b, b < 2 → a ≠ b → (TX4 a).2.1 ≠ (TX4 b).2.1 := by decide +kernel
theorem tyX4_ok : ∀ k, k < 2 → parseFieldDescriptor (TX4 k).2.2.1 = some (tyX4 k) := by decide +kernel
abbrev cX4_init : ByteArray := prog_6_method_1_code
def yX4_init : MethodName := ⟨RX4, "<init>", "()V"⟩
abbrev cX4_fit : ByteArray := prog_6_method_2_code
def yX4_fit : MethodName := ⟨RX4, "fit", "(LAllAboveIt$Pile;)V"⟩
abbrev cX4_at : ByteArray := prog_6_method_3_code
def yX4_at : MethodName := ⟨RX4, "at", "(I)J"⟩
abbrev cX4_set : ByteArray := prog_6_method_4_code
def yX4_set : MethodName := ⟨RX4, "set", "(IJ)V"⟩
def RX5 : String := "AllAboveIt$Parrots"
def TX5 : u_T := fun k => match k with
  | 0 => ("AllAboveIt$Parrots", "pile", "LAllAboveIt$Pile;", true)
  | 1 => ("AllAboveIt$Parrots", "known", "LAllAboveIt$Memo;", true)
  | _ => ("AllAboveIt$Parrots", "liking", "I", false)
def tyX5 : Nat → FieldType := fun k => match k with
  | 0 => .object "AllAboveIt$Pile"
  | 1 => .object "AllAboveIt$Memo"
  | _ => .int
theorem nmX5 : ∀ a, a < 3 → ∀ b, b < 3 → a ≠ b → (TX5 a).2.1 ≠ (TX5 b).2.1 := by decide +kernel
theorem tyX5_ok : ∀ k, k < 3 → parseFieldDescriptor (TX5 k).2.2.1 = some (tyX5 k) := by decide +kernel
abbrev cX5_init : ByteArray := prog_7_method_1_code
def yX5_init : MethodName := ⟨RX5, "<init>", "(LAllAboveIt$Pile;)V"⟩
abbrev cX5_next : ByteArray := prog_7_method_2_code
def yX5_next : MethodName := ⟨RX5, "next", "(I)I"⟩
abbrev cX5_like : ByteArray := prog_7_method_3_code
def yX5_like : MethodName := ⟨RX5, "like", "(II)V"⟩
abbrev cX5_liked : ByteArray := prog_7_method_4_code
def yX5_liked : MethodName := ⟨RX5, "liked", "(II)I"⟩
abbrev cX5_keeper : ByteArray := prog_7_method_5_code
def yX5_keeper : MethodName := ⟨RX5, "keeper", "(II)I"⟩
abbrev cX5_keeperFrom : ByteArray := prog_7_method_6_code
def yX5_keeperFrom : MethodName := ⟨RX5, "keeperFrom", "(III)I"⟩
abbrev cX5_firstStep : ByteArray := prog_7_method_7_code
def yX5_firstStep : MethodName := ⟨RX5, "firstStep", "(II)I"⟩
abbrev cX5_keeperWithout : ByteArray := prog_7_method_8_code
def yX5_keeperWithout : MethodName := ⟨RX5, "keeperWithout", "(II)I"⟩
abbrev cX5_escapes : ByteArray := prog_7_method_9_code
def yX5_escapes : MethodName := ⟨RX5, "escapes", "(IIII)Z"⟩
def RX6 : String := "AllAboveIt$Pile"
def TX6 : u_T := fun k => match k with
  | 0 => ("AllAboveIt$Pile", "worth", "[I", true)
  | 1 => ("AllAboveIt$Pile", "heirs", "[I", true)
  | 2 => ("AllAboveIt$Pile", "under", "[I", true)
  | 3 => ("AllAboveIt$Pile", "above", "[I", true)
  | 4 => ("AllAboveIt$Pile", "touching", "[I", true)
  | 5 => ("AllAboveIt$Pile", "back", "[I", true)
  | 6 => ("AllAboveIt$Pile", "allowed", "[I", true)
  | 7 => ("AllAboveIt$Pile", "clears", "[I", true)
  | 8 => ("AllAboveIt$Pile", "sets", "[I", true)
  | 9 => ("AllAboveIt$Pile", "lowerSums", "[I", true)
  | 10 => ("AllAboveIt$Pile", "upperSums", "[I", true)
  | 11 => ("AllAboveIt$Pile", "wholeHeaps", "[I", true)
  | 12 => ("AllAboveIt$Pile", "heapsInAll", "I", false)
  | 13 => ("AllAboveIt$Pile", "things", "I", false)
  | 14 => ("AllAboveIt$Pile", "backs", "I", false)
  | _ => ("AllAboveIt$Pile", "version", "I", false)
def tyX6 : Nat → FieldType := fun k => match k with
  | 0 => .array .int
  | 1 => .array .int
  | 2 => .array .int
  | 3 => .array .int
  | 4 => .array .int
  | 5 => .array .int
  | 6 => .array .int
  | 7 => .array .int
  | 8 => .array .int
  | 9 => .array .int
  | 10 => .array .int
  | 11 => .array .int
  | 12 => .int
  | 13 => .int
  | 14 => .int
  | _ => .int
theorem nmX6 : ∀ a, a < 16 → ∀ b, b < 16 → a ≠ b → (TX6 a).2.1 ≠ (TX6 b).2.1 := by decide +kernel
theorem tyX6_ok : ∀ k, k < 16 → parseFieldDescriptor (TX6 k).2.2.1 = some (tyX6 k) := by decide +kernel
abbrev cX6_init : ByteArray := prog_8_method_1_code
def yX6_init : MethodName := ⟨RX6, "<init>", "()V"⟩
abbrev cX6_lowest : ByteArray := prog_8_method_2_code
def yX6_lowest : MethodName := ⟨RX6, "lowest", "(I)I"⟩
abbrev cX6_add : ByteArray := prog_8_method_3_code
def yX6_add : MethodName := ⟨RX6, "add", "(IIIZ)V"⟩
abbrev cX6_settle : ByteArray := prog_8_method_4_code
def yX6_settle : MethodName := ⟨RX6, "settle", "()V"⟩
abbrev cX6_splitHeaps : ByteArray := prog_8_method_5_code
def yX6_splitHeaps : MethodName := ⟨RX6, "splitHeaps", "()V"⟩
abbrev cX6_addUp : ByteArray := prog_8_method_6_code
def yX6_addUp : MethodName := ⟨RX6, "addUp", "()V"⟩
abbrev cX6_worthOf : ByteArray := prog_8_method_7_code
def yX6_worthOf : MethodName := ⟨RX6, "worthOf", "(I)I"⟩
abbrev cX6_version : ByteArray := prog_8_method_8_code
def yX6_version : MethodName := ⟨RX6, "version", "()I"⟩
abbrev cX6_things : ByteArray := prog_8_method_9_code
def yX6_things : MethodName := ⟨RX6, "things", "()I"⟩
abbrev cX6_backs : ByteArray := prog_8_method_10_code
def yX6_backs : MethodName := ⟨RX6, "backs", "()I"⟩
abbrev cX6_has : ByteArray := prog_8_method_11_code
def yX6_has : MethodName := ⟨RX6, "has", "(I)Z"⟩
abbrev cX6_worthAt : ByteArray := prog_8_method_12_code
def yX6_worthAt : MethodName := ⟨RX6, "worthAt", "(I)I"⟩
abbrev cX6_setWorth : ByteArray := prog_8_method_13_code
def yX6_setWorth : MethodName := ⟨RX6, "setWorth", "(II)V"⟩
abbrev cX6_heirsOf : ByteArray := prog_8_method_14_code
def yX6_heirsOf : MethodName := ⟨RX6, "heirsOf", "(I)I"⟩
abbrev cX6_under : ByteArray := prog_8_method_15_code
def yX6_under : MethodName := ⟨RX6, "under", "(I)I"⟩
abbrev cX6_above : ByteArray := prog_8_method_16_code
def yX6_above : MethodName := ⟨RX6, "above", "(I)I"⟩
abbrev cX6_isBack : ByteArray := prog_8_method_17_code
def yX6_isBack : MethodName := ⟨RX6, "isBack", "(I)Z"⟩
abbrev cX6_full : ByteArray := prog_8_method_18_code
def yX6_full : MethodName := ⟨RX6, "full", "()I"⟩
abbrev cX6_first : ByteArray := prog_8_method_19_code
def yX6_first : MethodName := ⟨RX6, "first", "()I"⟩
abbrev cX6_allPutBack : ByteArray := prog_8_method_20_code
def yX6_allPutBack : MethodName := ⟨RX6, "allPutBack", "()I"⟩
abbrev cX6_justThese : ByteArray := prog_8_method_21_code
def yX6_justThese : MethodName := ⟨RX6, "justThese", "(I)I"⟩
abbrev cX6_heapsInAll : ByteArray := prog_8_method_22_code
def yX6_heapsInAll : MethodName := ⟨RX6, "heapsInAll", "()I"⟩
abbrev cX6_inHeap : ByteArray := prog_8_method_23_code
def yX6_inHeap : MethodName := ⟨RX6, "inHeap", "(II)I"⟩
abbrev cX6_size : ByteArray := prog_8_method_24_code
def yX6_size : MethodName := ⟨RX6, "size", "()I"⟩
abbrev cX6_putBack : ByteArray := prog_8_method_25_code
def yX6_putBack : MethodName := ⟨RX6, "putBack", "(I)I"⟩
abbrev cX6_takes : ByteArray := prog_8_method_26_code
def yX6_takes : MethodName := ⟨RX6, "takes", "(II)I"⟩
abbrev cX6_moves : ByteArray := prog_8_method_27_code
def yX6_moves : MethodName := ⟨RX6, "moves", "(II)I"⟩
abbrev cX6_steps : ByteArray := prog_8_method_28_code
def yX6_steps : MethodName := ⟨RX6, "steps", "()I"⟩
abbrev cX6_can : ByteArray := prog_8_method_29_code
def yX6_can : MethodName := ⟨RX6, "can", "(III)Z"⟩
abbrev cX6_behind : ByteArray := prog_8_method_30_code
def yX6_behind : MethodName := ⟨RX6, "behind", "(II)I"⟩
abbrev cX6_step : ByteArray := prog_8_method_31_code
def yX6_step : MethodName := ⟨RX6, "step", "(I)I"⟩
abbrev cX6_moveOf : ByteArray := prog_8_method_32_code
def yX6_moveOf : MethodName := ⟨RX6, "moveOf", "(I)I"⟩
abbrev cX6_named : ByteArray := prog_8_method_33_code
def yX6_named : MethodName := ⟨RX6, "named", "(I)I"⟩
abbrev cX6_lowestOf : ByteArray := prog_8_method_34_code
def yX6_lowestOf : MethodName := ⟨RX6, "lowestOf", "(I)I"⟩
abbrev cX6_withAbove : ByteArray := prog_8_method_35_code
def yX6_withAbove : MethodName := ⟨RX6, "withAbove", "(II)I"⟩
abbrev cX6_heapOf : ByteArray := prog_8_method_36_code
def yX6_heapOf : MethodName := ⟨RX6, "heapOf", "(II)I"⟩
def RX7 : String := "AllAboveIt$Text"
def TX7 : u_T := fun k => match k with
  | 0 => ("AllAboveIt$Text", "signs", "[I", true)
  | 1 => ("AllAboveIt$Text", "length", "I", false)
  | 2 => ("AllAboveIt$Text", "worth", "[I", true)
  | 3 => ("AllAboveIt$Text", "heirs", "[I", true)
  | 4 => ("AllAboveIt$Text", "under", "[I", true)
  | 5 => ("AllAboveIt$Text", "back", "[Z", true)
  | 6 => ("AllAboveIt$Text", "lines", "I", false)
  | 7 => ("AllAboveIt$Text", "ahead", "I", false)
  | 8 => ("AllAboveIt$Text", "backs", "I", false)
  | 9 => ("AllAboveIt$Text", "next", "I", false)
  | 10 => ("AllAboveIt$Text", "number", "I", false)
  | _ => ("AllAboveIt$Text", "lastNumber", "I", false)
def tyX7 : Nat → FieldType := fun k => match k with
  | 0 => .array .int
  | 1 => .int
  | 2 => .array .int
  | 3 => .array .int
  | 4 => .array .int
  | 5 => .array .boolean
  | 6 => .int
  | 7 => .int
  | 8 => .int
  | 9 => .int
  | 10 => .int
  | _ => .int
theorem nmX7 : ∀ a, a < 12 → ∀ b, b < 12 → a ≠ b → (TX7 a).2.1 ≠ (TX7 b).2.1 := by decide +kernel
theorem tyX7_ok : ∀ k, k < 12 → parseFieldDescriptor (TX7 k).2.2.1 = some (tyX7 k) := by decide +kernel
abbrev cX7_init : ByteArray := prog_9_method_1_code
def yX7_init : MethodName := ⟨RX7, "<init>", "()V"⟩
abbrev cX7_length : ByteArray := prog_9_method_2_code
def yX7_length : MethodName := ⟨RX7, "length", "()I"⟩
abbrev cX7_append : ByteArray := prog_9_method_3_code
def yX7_append : MethodName := ⟨RX7, "append", "(I)I"⟩
abbrev cX7_cut : ByteArray := prog_9_method_4_code
def yX7_cut : MethodName := ⟨RX7, "cut", "(I)Z"⟩
abbrev cX7_read : ByteArray := prog_9_method_5_code
def yX7_read : MethodName := ⟨RX7, "read", "(LAllAboveIt$Pile;)I"⟩
abbrev cX7_layOn : ByteArray := prog_9_method_6_code
def yX7_layOn : MethodName := ⟨RX7, "layOn", "(LAllAboveIt$Pile;)V"⟩
abbrev cX7_isDigit : ByteArray := prog_9_method_7_code
def yX7_isDigit : MethodName := ⟨RX7, "isDigit", "(I)Z"⟩
abbrev cX7_mayEnd : ByteArray := prog_9_method_8_code
def yX7_mayEnd : MethodName := ⟨RX7, "mayEnd", "()Z"⟩
abbrev cX7_takes : ByteArray := prog_9_method_9_code
def yX7_takes : MethodName := ⟨RX7, "takes", "(IZ)Z"⟩
abbrev cX7_takesWorth : ByteArray := prog_9_method_10_code
def yX7_takesWorth : MethodName := ⟨RX7, "takesWorth", "(I)Z"⟩
abbrev cX7_takesHeirs : ByteArray := prog_9_method_11_code
def yX7_takesHeirs : MethodName := ⟨RX7, "takesHeirs", "(I)Z"⟩
abbrev cX7_takesOn : ByteArray := prog_9_method_12_code
def yX7_takesOn : MethodName := ⟨RX7, "takesOn", "(II)Z"⟩
abbrev cX7_takesFirstDigit : ByteArray := prog_9_method_13_code
def yX7_takesFirstDigit : MethodName := ⟨RX7, "takesFirstDigit", "(IZ)Z"⟩
abbrev cX7_takesNumber : ByteArray := prog_9_method_14_code
def yX7_takesNumber : MethodName := ⟨RX7, "takesNumber", "()Z"⟩
abbrev cX7_takesTail : ByteArray := prog_9_method_15_code
def yX7_takesTail : MethodName := ⟨RX7, "takesTail", "(I)Z"⟩
abbrev cX7_takesLineEnd : ByteArray := prog_9_method_16_code
def yX7_takesLineEnd : MethodName := ⟨RX7, "takesLineEnd", "(I)Z"⟩
def RX8 : String := "AllAboveIt$Wall"
def TX8 : u_T := fun k => match k with
  | _ => ("AllAboveIt$Wall", "known", "[B", false)
def tyX8 : Nat → FieldType := fun k => match k with
  | _ => .array .byte
theorem nmX8 : ∀ a, a < 1 → ∀ b, b < 1 → a ≠ b → (TX8 a).2.1 ≠ (TX8 b).2.1 := by decide +kernel
theorem tyX8_ok : ∀ k, k < 1 → parseFieldDescriptor (TX8 k).2.2.1 = some (tyX8 k) := by decide +kernel
abbrev cX8_init : ByteArray := prog_10_method_1_code
def yX8_init : MethodName := ⟨RX8, "<init>", "()V"⟩
abbrev cX8_packed : ByteArray := prog_10_method_2_code
def yX8_packed : MethodName := ⟨RX8, "packed", "(IIII)I"⟩
abbrev cX8_victory : ByteArray := prog_10_method_3_code
def yX8_victory : MethodName := ⟨RX8, "victory", "(I)Z"⟩
abbrev cX8_winningStone : ByteArray := prog_10_method_4_code
def yX8_winningStone : MethodName := ⟨RX8, "winningStone", "(I)I"⟩
abbrev cX8_victoryFrom : ByteArray := prog_10_method_5_code
def yX8_victoryFrom : MethodName := ⟨RX8, "victoryFrom", "(II)Z"⟩
abbrev cX8_stoneFrom : ByteArray := prog_10_method_6_code
def yX8_stoneFrom : MethodName := ⟨RX8, "stoneFrom", "(II)I"⟩
abbrev cX8_without : ByteArray := prog_10_method_7_code
def yX8_without : MethodName := ⟨RX8, "without", "(III)I"⟩
def RX9 : String := "AllAboveIt$Winners"
def TX9 : u_T := fun k => match k with
  | 0 => ("AllAboveIt$Winners", "pile", "LAllAboveIt$Pile;", true)
  | 1 => ("AllAboveIt$Winners", "known", "LAllAboveIt$Memo;", true)
  | 2 => ("AllAboveIt$Winners", "marks", "LAllAboveIt$Memo;", true)
  | 3 => ("AllAboveIt$Winners", "walk", "I", false)
  | 4 => ("AllAboveIt$Winners", "reached", "I", false)
  | _ => ("AllAboveIt$Winners", "lost", "I", false)
def tyX9 : Nat → FieldType := fun k => match k with
  | 0 => .object "AllAboveIt$Pile"
  | 1 => .object "AllAboveIt$Memo"
  | 2 => .object "AllAboveIt$Memo"
  | 3 => .int
  | 4 => .int
  | _ => .int
theorem nmX9 : ∀ a, a < 6 → ∀ b, b < 6 → a ≠ b → (TX9 a).2.1 ≠ (TX9 b).2.1 := by decide +kernel
theorem tyX9_ok : ∀ k, k < 6 → parseFieldDescriptor (TX9 k).2.2.1 = some (tyX9 k) := by decide +kernel
abbrev cX9_init : ByteArray := prog_11_method_1_code
def yX9_init : MethodName := ⟨RX9, "<init>", "(LAllAboveIt$Pile;)V"⟩
abbrev cX9_victory : ByteArray := prog_11_method_2_code
def yX9_victory : MethodName := ⟨RX9, "victory", "(III)Z"⟩
abbrev cX9_victoryFrom : ByteArray := prog_11_method_3_code
def yX9_victoryFrom : MethodName := ⟨RX9, "victoryFrom", "(IIII)Z"⟩
abbrev cX9_winningSteps : ByteArray := prog_11_method_4_code
def yX9_winningSteps : MethodName := ⟨RX9, "winningSteps", "(III)I"⟩
abbrev cX9_soonest : ByteArray := prog_11_method_5_code
def yX9_soonest : MethodName := ⟨RX9, "soonest", "(III)I"⟩
abbrev cX9_wonIn : ByteArray := prog_11_method_6_code
def yX9_wonIn : MethodName := ⟨RX9, "wonIn", "(II)Z"⟩
abbrev cX9_soonestFrom : ByteArray := prog_11_method_7_code
def yX9_soonestFrom : MethodName := ⟨RX9, "soonestFrom", "(IIII)I"⟩
abbrev cX9_firstSoonest : ByteArray := prog_11_method_8_code
def yX9_firstSoonest : MethodName := ⟨RX9, "firstSoonest", "(III)I"⟩
abbrev cX9_reach : ByteArray := prog_11_method_9_code
def yX9_reach : MethodName := ⟨RX9, "reach", "(III)I"⟩
abbrev cX9_lostReached : ByteArray := prog_11_method_10_code
def yX9_lostReached : MethodName := ⟨RX9, "lostReached", "()I"⟩
abbrev cX9_visit : ByteArray := prog_11_method_11_code
def yX9_visit : MethodName := ⟨RX9, "visit", "(IIII)V"⟩
abbrev cX9_games : ByteArray := prog_11_method_12_code
def yX9_games : MethodName := ⟨RX9, "games", "(III)J"⟩
abbrev cX9_gamesFrom : ByteArray := prog_11_method_13_code
def yX9_gamesFrom : MethodName := ⟨RX9, "gamesFrom", "(III)J"⟩
def RX10 : String := "AllAboveIt$Worths"
def TX10 : u_T := fun k => match k with
  | 0 => ("AllAboveIt$Worths", "pile", "LAllAboveIt$Pile;", true)
  | 1 => ("AllAboveIt$Worths", "known", "LAllAboveIt$Memo;", true)
  | _ => ("AllAboveIt$Worths", "sheet", "J", false)
def tyX10 : Nat → FieldType := fun k => match k with
  | 0 => .object "AllAboveIt$Pile"
  | 1 => .object "AllAboveIt$Memo"
  | _ => .long
theorem nmX10 : ∀ a, a < 3 → ∀ b, b < 3 → a ≠ b → (TX10 a).2.1 ≠ (TX10 b).2.1 := by decide +kernel
theorem tyX10_ok : ∀ k, k < 3 → parseFieldDescriptor (TX10 k).2.2.1 = some (tyX10 k) := by decide +kernel
abbrev cX10_init : ByteArray := prog_12_method_1_code
def yX10_init : MethodName := ⟨RX10, "<init>", "(LAllAboveIt$Pile;)V"⟩
abbrev cX10_forget : ByteArray := prog_12_method_2_code
def yX10_forget : MethodName := ⟨RX10, "forget", "()V"⟩
abbrev cX10_more : ByteArray := prog_12_method_3_code
def yX10_more : MethodName := ⟨RX10, "more", "(II)I"⟩
abbrev cX10_cell : ByteArray := prog_12_method_4_code
def yX10_cell : MethodName := ⟨RX10, "cell", "(I)J"⟩
abbrev cX10_moreFrom : ByteArray := prog_12_method_5_code
def yX10_moreFrom : MethodName := ⟨RX10, "moreFrom", "(III)I"⟩
abbrev cX10_firstBest : ByteArray := prog_12_method_6_code
def yX10_firstBest : MethodName := ⟨RX10, "firstBest", "(II)I"⟩
abbrev cX10_greediest : ByteArray := prog_12_method_7_code
def yX10_greediest : MethodName := ⟨RX10, "greediest", "(II)I"⟩
def RX11 : String := "AllAboveIt"
def TX11 : u_T := fun k => match k with
  | 0 => ("AllAboveIt", "text", "LAllAboveIt$Text;", true)
  | 1 => ("AllAboveIt", "pile", "LAllAboveIt$Pile;", true)
  | 2 => ("AllAboveIt", "game", "LAllAboveIt$Game;", true)
  | 3 => ("AllAboveIt", "kept", "[LAllAboveIt$Game;", true)
  | 4 => ("AllAboveIt", "isKept", "[Z", true)
  | 5 => ("AllAboveIt", "winners", "LAllAboveIt$Winners;", true)
  | 6 => ("AllAboveIt", "heaping", "LAllAboveIt$Heaps;", true)
  | 7 => ("AllAboveIt", "stones", "LAllAboveIt$Wall;", true)
  | 8 => ("AllAboveIt", "worths", "LAllAboveIt$Worths;", true)
  | 9 => ("AllAboveIt", "few", "LAllAboveIt$Few;", true)
  | 10 => ("AllAboveIt", "keepers", "LAllAboveIt$Parrots;", true)
  | 11 => ("AllAboveIt", "changes", "LAllAboveIt$Changes;", true)
  | 12 => ("AllAboveIt", "numbers", "[J", true)
  | _ => ("AllAboveIt", "told", "I", false)
def tyX11 : Nat → FieldType := fun k => match k with
  | 0 => .object "AllAboveIt$Text"
  | 1 => .object "AllAboveIt$Pile"
  | 2 => .object "AllAboveIt$Game"
  | 3 => .array (.object "AllAboveIt$Game")
  | 4 => .array .boolean
  | 5 => .object "AllAboveIt$Winners"
  | 6 => .object "AllAboveIt$Heaps"
  | 7 => .object "AllAboveIt$Wall"
  | 8 => .object "AllAboveIt$Worths"
  | 9 => .object "AllAboveIt$Few"
  | 10 => .object "AllAboveIt$Parrots"
  | 11 => .object "AllAboveIt$Changes"
  | 12 => .array .long
  | _ => .int
theorem nmX11 : ∀ a, a < 14 → ∀ b, b < 14 → a ≠ b → (TX11 a).2.1 ≠ (TX11 b).2.1 := by decide +kernel
theorem tyX11_ok : ∀ k, k < 14 → parseFieldDescriptor (TX11 k).2.2.1 = some (tyX11 k) := by decide +kernel
abbrev cX11_init : ByteArray := prog_1_method_1_code
def yX11_init : MethodName := ⟨RX11, "<init>", "()V"⟩
abbrev cX11_sign : ByteArray := prog_1_method_2_code
def yX11_sign : MethodName := ⟨RX11, "sign", "(I)I"⟩
abbrev cX11_end : ByteArray := prog_1_method_3_code
def yX11_end : MethodName := ⟨RX11, "end", "(I)Z"⟩
abbrev cX11_piles : ByteArray := prog_1_method_4_code
def yX11_piles : MethodName := ⟨RX11, "piles", "()I"⟩
abbrev cX11_thing : ByteArray := prog_1_method_5_code
def yX11_thing : MethodName := ⟨RX11, "thing", "(II)I"⟩
abbrev cX11_ends : ByteArray := prog_1_method_6_code
def yX11_ends : MethodName := ⟨RX11, "ends", "(I)I"⟩
abbrev cX11_sheet : ByteArray := prog_1_method_7_code
def yX11_sheet : MethodName := ⟨RX11, "sheet", "(IIII)I"⟩
abbrev cX11_entry : ByteArray := prog_1_method_8_code
def yX11_entry : MethodName := ⟨RX11, "entry", "(II)I"⟩
abbrev cX11_may : ByteArray := prog_1_method_9_code
def yX11_may : MethodName := ⟨RX11, "may", "(I)I"⟩
abbrev cX11_move : ByteArray := prog_1_method_10_code
def yX11_move : MethodName := ⟨RX11, "move", "(I)I"⟩
abbrev cX11_undo : ByteArray := prog_1_method_11_code
def yX11_undo : MethodName := ⟨RX11, "undo", "()I"⟩
abbrev cX11_begin : ByteArray := prog_1_method_12_code
def yX11_begin : MethodName := ⟨RX11, "begin", "()I"⟩
abbrev cX11_judge : ByteArray := prog_1_method_13_code
def yX11_judge : MethodName := ⟨RX11, "judge", "(IIII)I"⟩
abbrev cX11_taken : ByteArray := prog_1_method_14_code
def yX11_taken : MethodName := ⟨RX11, "taken", "()I"⟩
abbrev cX11_wins : ByteArray := prog_1_method_15_code
def yX11_wins : MethodName := ⟨RX11, "wins", "()I"⟩
abbrev cX11_would : ByteArray := prog_1_method_16_code
def yX11_would : MethodName := ⟨RX11, "would", "(II)I"⟩
abbrev cX11_winner : ByteArray := prog_1_method_17_code
def yX11_winner : MethodName := ⟨RX11, "winner", "(II)I"⟩
abbrev cX11_soon : ByteArray := prog_1_method_18_code
def yX11_soon : MethodName := ⟨RX11, "soon", "()I"⟩
abbrev cX11_leave : ByteArray := prog_1_method_19_code
def yX11_leave : MethodName := ⟨RX11, "leave", "()I"⟩
abbrev cX11_states : ByteArray := prog_1_method_20_code
def yX11_states : MethodName := ⟨RX11, "states", "()I"⟩
abbrev cX11_lines : ByteArray := prog_1_method_21_code
def yX11_lines : MethodName := ⟨RX11, "lines", "(I)J"⟩
abbrev cX11_forced : ByteArray := prog_1_method_22_code
def yX11_forced : MethodName := ⟨RX11, "forced", "()I"⟩
abbrev cX11_tempo : ByteArray := prog_1_method_23_code
def yX11_tempo : MethodName := ⟨RX11, "tempo", "(I)I"⟩
abbrev cX11_value : ByteArray := prog_1_method_24_code
def yX11_value : MethodName := ⟨RX11, "value", "()I"⟩
abbrev cX11_alone : ByteArray := prog_1_method_25_code
def yX11_alone : MethodName := ⟨RX11, "alone", "(I)I"⟩
abbrev cX11_heap : ByteArray := prog_1_method_26_code
def yX11_heap : MethodName := ⟨RX11, "heap", "(I)I"⟩
abbrev cX11_isThere : ByteArray := prog_1_method_27_code
def yX11_isThere : MethodName := ⟨RX11, "isThere", "(I)Z"⟩
abbrev cX11_heaps : ByteArray := prog_1_method_28_code
def yX11_heaps : MethodName := ⟨RX11, "heaps", "()I"⟩
abbrev cX11_make : ByteArray := prog_1_method_29_code
def yX11_make : MethodName := ⟨RX11, "make", "(I)I"⟩
abbrev cX11_joined : ByteArray := prog_1_method_30_code
def yX11_joined : MethodName := ⟨RX11, "joined", "()I"⟩
abbrev cX11_alike : ByteArray := prog_1_method_31_code
def yX11_alike : MethodName := ⟨RX11, "alike", "(II)I"⟩
abbrev cX11_wall : ByteArray := prog_1_method_32_code
def yX11_wall : MethodName := ⟨RX11, "wall", "(IIII)I"⟩
abbrev cX11_best : ByteArray := prog_1_method_33_code
def yX11_best : MethodName := ⟨RX11, "best", "()I"⟩
abbrev cX11_gets : ByteArray := prog_1_method_34_code
def yX11_gets : MethodName := ⟨RX11, "gets", "(II)I"⟩
abbrev cX11_greedy : ByteArray := prog_1_method_35_code
def yX11_greedy : MethodName := ⟨RX11, "greedy", "()I"⟩
abbrev cX11_limits : ByteArray := prog_1_method_36_code
def yX11_limits : MethodName := ⟨RX11, "limits", "()I"⟩
abbrev cX11_mean : ByteArray := prog_1_method_37_code
def yX11_mean : MethodName := ⟨RX11, "mean", "()I"⟩
abbrev cX11_isTooMuch : ByteArray := prog_1_method_38_code
def yX11_isTooMuch : MethodName := ⟨RX11, "isTooMuch", "(I)Z"⟩
abbrev cX11_likes : ByteArray := prog_1_method_39_code
def yX11_likes : MethodName := ⟨RX11, "likes", "(II)Z"⟩
abbrev cX11_parrot : ByteArray := prog_1_method_40_code
def yX11_parrot : MethodName := ⟨RX11, "parrot", "(I)I"⟩
abbrev cX11_parrots : ByteArray := prog_1_method_41_code
def yX11_parrots : MethodName := ⟨RX11, "parrots", "()I"⟩
abbrev cX11_out : ByteArray := prog_1_method_42_code
def yX11_out : MethodName := ⟨RX11, "out", "(I)I"⟩
abbrev cX11_notary : ByteArray := prog_1_method_43_code
def yX11_notary : MethodName := ⟨RX11, "notary", "(II)I"⟩
abbrev cX11_change : ByteArray := prog_1_method_44_code
def yX11_change : MethodName := ⟨RX11, "change", "()I"⟩
abbrev cX11_single : ByteArray := prog_1_method_45_code
def yX11_single : MethodName := ⟨RX11, "single", "()I"⟩
abbrev cX11_keep : ByteArray := prog_1_method_46_code
def yX11_keep : MethodName := ⟨RX11, "keep", "(I)Z"⟩
abbrev cX11_again : ByteArray := prog_1_method_47_code
def yX11_again : MethodName := ⟨RX11, "again", "(I)Z"⟩
abbrev cX11_count : ByteArray := prog_1_method_48_code
def yX11_count : MethodName := ⟨RX11, "count", "(I)I"⟩
abbrev cX11_row : ByteArray := prog_1_method_49_code
def yX11_row : MethodName := ⟨RX11, "row", "(I)J"⟩
abbrev cX11_tell : ByteArray := prog_1_method_50_code
def yX11_tell : MethodName := ⟨RX11, "tell", "(J)V"⟩
abbrev cX11_tell_ : ByteArray := prog_1_method_51_code
def yX11_tell_ : MethodName := ⟨RX11, "tell", "(JJ)V"⟩
abbrev cX11_tellFraction : ByteArray := prog_1_method_52_code
def yX11_tellFraction : MethodName := ⟨RX11, "tellFraction", "(JJ)V"⟩
abbrev cX11_commonDivisor : ByteArray := prog_1_method_53_code
def yX11_commonDivisor : MethodName := ⟨RX11, "commonDivisor", "(JJ)J"⟩
def RX12 : String := "AllAboveItModel"
def TX12 : u_T := fun k => match k with
  | 0 => ("AllAboveItModel", "thrown", "I", false)
  | 1 => ("AllAboveItModel", "rows", "I", false)
  | 2 => ("AllAboveItModel", "row", "[J", true)
  | 3 => ("AllAboveItModel", "things", "I", false)
  | 4 => ("AllAboveItModel", "worth", "[I", true)
  | 5 => ("AllAboveItModel", "heirs", "[I", true)
  | 6 => ("AllAboveItModel", "lies", "[I", true)
  | 7 => ("AllAboveItModel", "above", "[I", true)
  | 8 => ("AllAboveItModel", "backs", "I", false)
  | 9 => ("AllAboveItModel", "backThing", "[I", true)
  | 10 => ("AllAboveItModel", "state", "I", false)
  | 11 => ("AllAboveItModel", "turn", "I", false)
  | 12 => ("AllAboveItModel", "end", "I", false)
  | 13 => ("AllAboveItModel", "made", "I", false)
  | 14 => ("AllAboveItModel", "madeMove", "[I", true)
  | 15 => ("AllAboveItModel", "madeFrom", "[I", true)
  | 16 => ("AllAboveItModel", "tape", "[I", true)
  | 17 => ("AllAboveItModel", "taped", "I", false)
  | 18 => ("AllAboveItModel", "at", "I", false)
  | 19 => ("AllAboveItModel", "to", "I", false)
  | 20 => ("AllAboveItModel", "readBacks", "I", false)
  | 21 => ("AllAboveItModel", "both", "[I", true)
  | 22 => ("AllAboveItModel", "mark", "[I", true)
  | 23 => ("AllAboveItModel", "known", "[I", true)
  | 24 => ("AllAboveItModel", "question", "I", false)
  | 25 => ("AllAboveItModel", "firstMove", "I", false)
  | 26 => ("AllAboveItModel", "queue", "[I", true)
  | 27 => ("AllAboveItModel", "layer", "[J", false)
  | 28 => ("AllAboveItModel", "layerNext", "[J", false)
  | 29 => ("AllAboveItModel", "paired", "[I", true)
  | 30 => ("AllAboveItModel", "liked", "[I", true)
  | 31 => ("AllAboveItModel", "three", "[I", true)
  | 32 => ("AllAboveItModel", "chances", "[J", true)
  | 33 => ("AllAboveItModel", "laidMany", "I", false)
  | 34 => ("AllAboveItModel", "changed", "I", false)
  | 35 => ("AllAboveItModel", "isKept", "[Z", true)
  | 36 => ("AllAboveItModel", "keptThings", "[I", true)
  | _ => ("AllAboveItModel", "kept", "[I", true)
def tyX12 : Nat → FieldType := fun k => match k with
  | 0 => .int
  | 1 => .int
  | 2 => .array .long
  | 3 => .int
  | 4 => .array .int
  | 5 => .array .int
  | 6 => .array .int
  | 7 => .array .int
  | 8 => .int
  | 9 => .array .int
  | 10 => .int
  | 11 => .int
  | 12 => .int
  | 13 => .int
  | 14 => .array .int
  | 15 => .array .int
  | 16 => .array .int
  | 17 => .int
  | 18 => .int
  | 19 => .int
  | 20 => .int
  | 21 => .array .int
  | 22 => .array .int
  | 23 => .array .int
  | 24 => .int
  | 25 => .int
  | 26 => .array .int
  | 27 => .array .long
  | 28 => .array .long
  | 29 => .array .int
  | 30 => .array .int
  | 31 => .array .int
  | 32 => .array .long
  | 33 => .int
  | 34 => .int
  | 35 => .array .boolean
  | 36 => .array .int
  | _ => .array .int
theorem nmX12 : ∀ a, a < 38 → ∀ b, b < 38 → a ≠ b → (TX12 a).2.1 ≠ (TX12 b).2.1 := by decide +kernel
theorem tyX12_ok : ∀ k, k < 38 → parseFieldDescriptor (TX12 k).2.2.1 = some (tyX12 k) := by decide +kernel
abbrev cX12_thrown : ByteArray := prog_14_method_1_code
def yX12_thrown : MethodName := ⟨RX12, "thrown", "()I"⟩
abbrev cX12_refuse : ByteArray := prog_14_method_2_code
def yX12_refuse : MethodName := ⟨RX12, "refuse", "()I"⟩
abbrev cX12_in : ByteArray := prog_14_method_3_code
def yX12_in : MethodName := ⟨RX12, "in", "(JJJ)Z"⟩
abbrev cX12_has : ByteArray := prog_14_method_4_code
def yX12_has : MethodName := ⟨RX12, "has", "(II)Z"⟩
abbrev cX12_flag : ByteArray := prog_14_method_5_code
def yX12_flag : MethodName := ⟨RX12, "flag", "(Z)I"⟩
abbrev cX12_enters : ByteArray := prog_14_method_6_code
def yX12_enters : MethodName := ⟨RX12, "enters", "(J)V"⟩
abbrev cX12_common : ByteArray := prog_14_method_7_code
def yX12_common : MethodName := ⟨RX12, "common", "(JJ)J"⟩
abbrev cX12_sign : ByteArray := prog_14_method_8_code
def yX12_sign : MethodName := ⟨RX12, "sign", "(I)I"⟩
abbrev cX12_end : ByteArray := prog_14_method_9_code
def yX12_end : MethodName := ⟨RX12, "end", "(I)Z"⟩
abbrev cX12_takes : ByteArray := prog_14_method_10_code
def yX12_takes : MethodName := ⟨RX12, "takes", "(I)Z"⟩
abbrev cX12_isDigit : ByteArray := prog_14_method_11_code
def yX12_isDigit : MethodName := ⟨RX12, "isDigit", "()Z"⟩
abbrev cX12_number : ByteArray := prog_14_method_12_code
def yX12_number : MethodName := ⟨RX12, "number", "(III)I"⟩
abbrev cX12_readsOn : ByteArray := prog_14_method_13_code
def yX12_readsOn : MethodName := ⟨RX12, "readsOn", "(I)Z"⟩
abbrev cX12_readsThing : ByteArray := prog_14_method_14_code
def yX12_readsThing : MethodName := ⟨RX12, "readsThing", "(I)Z"⟩
abbrev cX12_piles : ByteArray := prog_14_method_15_code
def yX12_piles : MethodName := ⟨RX12, "piles", "()I"⟩
abbrev cX12_rises : ByteArray := prog_14_method_16_code
def yX12_rises : MethodName := ⟨RX12, "rises", "(I)V"⟩
abbrev cX12_begins : ByteArray := prog_14_method_17_code
def yX12_begins : MethodName := ⟨RX12, "begins", "()V"⟩
abbrev cX12_isThing : ByteArray := prog_14_method_18_code
def yX12_isThing : MethodName := ⟨RX12, "isThing", "(I)Z"⟩
abbrev cX12_isThere : ByteArray := prog_14_method_19_code
def yX12_isThere : MethodName := ⟨RX12, "isThere", "(I)Z"⟩
abbrev cX12_backOf : ByteArray := prog_14_method_20_code
def yX12_backOf : MethodName := ⟨RX12, "backOf", "(I)I"⟩
abbrev cX12_thing : ByteArray := prog_14_method_21_code
def yX12_thing : MethodName := ⟨RX12, "thing", "(II)I"⟩
abbrev cX12_ends : ByteArray := prog_14_method_22_code
def yX12_ends : MethodName := ⟨RX12, "ends", "(I)I"⟩
abbrev cX12_sheet : ByteArray := prog_14_method_23_code
def yX12_sheet : MethodName := ⟨RX12, "sheet", "(IIII)I"⟩
abbrev cX12_canPut : ByteArray := prog_14_method_24_code
def yX12_canPut : MethodName := ⟨RX12, "canPut", "(II)Z"⟩
abbrev cX12_can : ByteArray := prog_14_method_25_code
def yX12_can : MethodName := ⟨RX12, "can", "(III)Z"⟩
abbrev cX12_after : ByteArray := prog_14_method_26_code
def yX12_after : MethodName := ⟨RX12, "after", "(II)I"⟩
abbrev cX12_worthOf : ByteArray := prog_14_method_27_code
def yX12_worthOf : MethodName := ⟨RX12, "worthOf", "(II)I"⟩
abbrev cX12_movesOf : ByteArray := prog_14_method_28_code
def yX12_movesOf : MethodName := ⟨RX12, "movesOf", "(II)I"⟩
abbrev cX12_may : ByteArray := prog_14_method_29_code
def yX12_may : MethodName := ⟨RX12, "may", "(I)I"⟩
abbrev cX12_move : ByteArray := prog_14_method_30_code
def yX12_move : MethodName := ⟨RX12, "move", "(I)I"⟩
abbrev cX12_undo : ByteArray := prog_14_method_31_code
def yX12_undo : MethodName := ⟨RX12, "undo", "()I"⟩
abbrev cX12_begin : ByteArray := prog_14_method_32_code
def yX12_begin : MethodName := ⟨RX12, "begin", "()I"⟩
abbrev cX12_judge : ByteArray := prog_14_method_33_code
def yX12_judge : MethodName := ⟨RX12, "judge", "(IIII)I"⟩
abbrev cX12_taken : ByteArray := prog_14_method_34_code
def yX12_taken : MethodName := ⟨RX12, "taken", "()I"⟩
abbrev cX12_asks : ByteArray := prog_14_method_35_code
def yX12_asks : MethodName := ⟨RX12, "asks", "()V"⟩
abbrev cX12_placeOf : ByteArray := prog_14_method_36_code
def yX12_placeOf : MethodName := ⟨RX12, "placeOf", "(II)I"⟩
abbrev cX12_isKnown : ByteArray := prog_14_method_37_code
def yX12_isKnown : MethodName := ⟨RX12, "isKnown", "(I)Z"⟩
abbrev cX12_keeps : ByteArray := prog_14_method_38_code
def yX12_keeps : MethodName := ⟨RX12, "keeps", "(II)I"⟩
abbrev cX12_win : ByteArray := prog_14_method_39_code
def yX12_win : MethodName := ⟨RX12, "win", "(III)I"⟩
abbrev cX12_winner : ByteArray := prog_14_method_40_code
def yX12_winner : MethodName := ⟨RX12, "winner", "(III)I"⟩
abbrev cX12_wins : ByteArray := prog_14_method_41_code
def yX12_wins : MethodName := ⟨RX12, "wins", "()I"⟩
abbrev cX12_would : ByteArray := prog_14_method_42_code
def yX12_would : MethodName := ⟨RX12, "would", "(II)I"⟩
abbrev cX12_lasts : ByteArray := prog_14_method_43_code
def yX12_lasts : MethodName := ⟨RX12, "lasts", "(II)I"⟩
abbrev cX12_soon : ByteArray := prog_14_method_44_code
def yX12_soon : MethodName := ⟨RX12, "soon", "()I"⟩
abbrev cX12_leave : ByteArray := prog_14_method_45_code
def yX12_leave : MethodName := ⟨RX12, "leave", "()I"⟩
abbrev cX12_states : ByteArray := prog_14_method_46_code
def yX12_states : MethodName := ⟨RX12, "states", "()I"⟩
abbrev cX12_lines : ByteArray := prog_14_method_47_code
def yX12_lines : MethodName := ⟨RX12, "lines", "(I)J"⟩
abbrev cX12_forced : ByteArray := prog_14_method_48_code
def yX12_forced : MethodName := ⟨RX12, "forced", "()I"⟩
abbrev cX12_moves : ByteArray := prog_14_method_49_code
def yX12_moves : MethodName := ⟨RX12, "moves", "(IIZ)I"⟩
abbrev cX12_tempo : ByteArray := prog_14_method_50_code
def yX12_tempo : MethodName := ⟨RX12, "tempo", "(I)I"⟩
abbrev cX12_leadsTo : ByteArray := prog_14_method_51_code
def yX12_leadsTo : MethodName := ⟨RX12, "leadsTo", "(I)I"⟩
abbrev cX12_valueOf : ByteArray := prog_14_method_52_code
def yX12_valueOf : MethodName := ⟨RX12, "valueOf", "(I)I"⟩
abbrev cX12_value : ByteArray := prog_14_method_53_code
def yX12_value : MethodName := ⟨RX12, "value", "()I"⟩
abbrev cX12_areThings : ByteArray := prog_14_method_54_code
def yX12_areThings : MethodName := ⟨RX12, "areThings", "(I)Z"⟩
abbrev cX12_aloneOf : ByteArray := prog_14_method_55_code
def yX12_aloneOf : MethodName := ⟨RX12, "aloneOf", "(I)I"⟩
abbrev cX12_alone : ByteArray := prog_14_method_56_code
def yX12_alone : MethodName := ⟨RX12, "alone", "(I)I"⟩
abbrev cX12_heapOf : ByteArray := prog_14_method_57_code
def yX12_heapOf : MethodName := ⟨RX12, "heapOf", "(I)I"⟩
abbrev cX12_heap : ByteArray := prog_14_method_58_code
def yX12_heap : MethodName := ⟨RX12, "heap", "(I)I"⟩
abbrev cX12_heaps : ByteArray := prog_14_method_59_code
def yX12_heaps : MethodName := ⟨RX12, "heaps", "()I"⟩
abbrev cX12_make : ByteArray := prog_14_method_60_code
def yX12_make : MethodName := ⟨RX12, "make", "(I)I"⟩
abbrev cX12_joins : ByteArray := prog_14_method_61_code
def yX12_joins : MethodName := ⟨RX12, "joins", "(I)I"⟩
abbrev cX12_joined : ByteArray := prog_14_method_62_code
def yX12_joined : MethodName := ⟨RX12, "joined", "()I"⟩
abbrev cX12_pairs : ByteArray := prog_14_method_63_code
def yX12_pairs : MethodName := ⟨RX12, "pairs", "(II)Z"⟩
abbrev cX12_alike : ByteArray := prog_14_method_64_code
def yX12_alike : MethodName := ⟨RX12, "alike", "(II)I"⟩
abbrev cX12_rowOf : ByteArray := prog_14_method_65_code
def yX12_rowOf : MethodName := ⟨RX12, "rowOf", "(II)I"⟩
abbrev cX12_bites : ByteArray := prog_14_method_66_code
def yX12_bites : MethodName := ⟨RX12, "bites", "(III)I"⟩
abbrev cX12_winWall : ByteArray := prog_14_method_67_code
def yX12_winWall : MethodName := ⟨RX12, "winWall", "(I)I"⟩
abbrev cX12_wall : ByteArray := prog_14_method_68_code
def yX12_wall : MethodName := ⟨RX12, "wall", "(IIII)I"⟩
abbrev cX12_more : ByteArray := prog_14_method_69_code
def yX12_more : MethodName := ⟨RX12, "more", "(II)I"⟩
abbrev cX12_best : ByteArray := prog_14_method_70_code
def yX12_best : MethodName := ⟨RX12, "best", "()I"⟩
abbrev cX12_gets : ByteArray := prog_14_method_71_code
def yX12_gets : MethodName := ⟨RX12, "gets", "(II)I"⟩
abbrev cX12_greedy : ByteArray := prog_14_method_72_code
def yX12_greedy : MethodName := ⟨RX12, "greedy", "()I"⟩
abbrev cX12_reach : ByteArray := prog_14_method_73_code
def yX12_reach : MethodName := ⟨RX12, "reach", "(I)I"⟩
abbrev cX12_limits : ByteArray := prog_14_method_74_code
def yX12_limits : MethodName := ⟨RX12, "limits", "()I"⟩
abbrev cX12_wholeOfMean : ByteArray := prog_14_method_75_code
def yX12_wholeOfMean : MethodName := ⟨RX12, "wholeOfMean", "(I)J"⟩
abbrev cX12_means : ByteArray := prog_14_method_76_code
def yX12_means : MethodName := ⟨RX12, "means", "(II)J"⟩
abbrev cX12_mean : ByteArray := prog_14_method_77_code
def yX12_mean : MethodName := ⟨RX12, "mean", "()I"⟩
abbrev cX12_likes : ByteArray := prog_14_method_78_code
def yX12_likes : MethodName := ⟨RX12, "likes", "(II)Z"⟩
abbrev cX12_liking : ByteArray := prog_14_method_79_code
def yX12_liking : MethodName := ⟨RX12, "liking", "(II)I"⟩
abbrev cX12_keeper : ByteArray := prog_14_method_80_code
def yX12_keeper : MethodName := ⟨RX12, "keeper", "(III)I"⟩
abbrev cX12_parrot : ByteArray := prog_14_method_81_code
def yX12_parrot : MethodName := ⟨RX12, "parrot", "(I)I"⟩
abbrev cX12_parrots : ByteArray := prog_14_method_82_code
def yX12_parrots : MethodName := ⟨RX12, "parrots", "()I"⟩
abbrev cX12_keeperOfTwo : ByteArray := prog_14_method_83_code
def yX12_keeperOfTwo : MethodName := ⟨RX12, "keeperOfTwo", "(IIII)I"⟩
abbrev cX12_out : ByteArray := prog_14_method_84_code
def yX12_out : MethodName := ⟨RX12, "out", "(I)I"⟩
abbrev cX12_whole : ByteArray := prog_14_method_85_code
def yX12_whole : MethodName := ⟨RX12, "whole", "(I)J"⟩
abbrev cX12_chance : ByteArray := prog_14_method_86_code
def yX12_chance : MethodName := ⟨RX12, "chance", "(III)J"⟩
abbrev cX12_notary : ByteArray := prog_14_method_87_code
def yX12_notary : MethodName := ⟨RX12, "notary", "(II)I"⟩
abbrev cX12_winWide : ByteArray := prog_14_method_88_code
def yX12_winWide : MethodName := ⟨RX12, "winWide", "(III)I"⟩
abbrev cX12_changes : ByteArray := prog_14_method_89_code
def yX12_changes : MethodName := ⟨RX12, "changes", "(I)Z"⟩
abbrev cX12_clears : ByteArray := prog_14_method_90_code
def yX12_clears : MethodName := ⟨RX12, "clears", "()V"⟩
abbrev cX12_winsNow : ByteArray := prog_14_method_91_code
def yX12_winsNow : MethodName := ⟨RX12, "winsNow", "()Z"⟩
abbrev cX12_isFew : ByteArray := prog_14_method_92_code
def yX12_isFew : MethodName := ⟨RX12, "isFew", "()Z"⟩
abbrev cX12_turnsBy : ByteArray := prog_14_method_93_code
def yX12_turnsBy : MethodName := ⟨RX12, "turnsBy", "(IIZ)Z"⟩
abbrev cX12_canChange : ByteArray := prog_14_method_94_code
def yX12_canChange : MethodName := ⟨RX12, "canChange", "(I)Z"⟩
abbrev cX12_isChange : ByteArray := prog_14_method_95_code
def yX12_isChange : MethodName := ⟨RX12, "isChange", "(I)Z"⟩
abbrev cX12_change : ByteArray := prog_14_method_96_code
def yX12_change : MethodName := ⟨RX12, "change", "()I"⟩
abbrev cX12_single : ByteArray := prog_14_method_97_code
def yX12_single : MethodName := ⟨RX12, "single", "()I"⟩
abbrev cX12_keep : ByteArray := prog_14_method_98_code
def yX12_keep : MethodName := ⟨RX12, "keep", "(I)Z"⟩
abbrev cX12_again : ByteArray := prog_14_method_99_code
def yX12_again : MethodName := ⟨RX12, "again", "(I)Z"⟩
abbrev cX12_putBack : ByteArray := prog_14_method_100_code
def yX12_putBack : MethodName := ⟨RX12, "putBack", "()I"⟩
abbrev cX12_count : ByteArray := prog_14_method_101_code
def yX12_count : MethodName := ⟨RX12, "count", "(I)I"⟩
abbrev cX12_init : ByteArray := prog_14_method_102_code
def yX12_init : MethodName := ⟨RX12, "<init>", "()V"⟩
abbrev cX12_row : ByteArray := prog_14_method_103_code
def yX12_row : MethodName := ⟨RX12, "row", "(I)J"⟩
def RJ6 : String := "java/lang/Integer"
abbrev cJ6_numberOfTrailingZeros_0f7a4 : ByteArray := prog_17_method_48_code
def yJ6_numberOfTrailingZeros_0f7a4 : MethodName := ⟨RJ6, "numberOfTrailingZeros", "(I)I"⟩
abbrev cJ6_bitCount_0f7a4 : ByteArray := prog_17_method_49_code
def yJ6_bitCount_0f7a4 : MethodName := ⟨RJ6, "bitCount", "(I)I"⟩
def RJ13 : String := "java/lang/Long"
abbrev cJ13_bitCount_95d88 : ByteArray := prog_18_method_50_code
def yJ13_bitCount_95d88 : MethodName := ⟨RJ13, "bitCount", "(J)I"⟩
def RJ9 : String := "java/lang/Math"
abbrev cJ9_abs_067f4 : ByteArray := prog_19_method_61_code
def yJ9_abs_067f4 : MethodName := ⟨RJ9, "abs", "(J)J"⟩
abbrev cJ9_max_7cf53 : ByteArray := prog_19_method_65_code
def yJ9_max_7cf53 : MethodName := ⟨RJ9, "max", "(II)I"⟩
abbrev cJ9_max_f86c9 : ByteArray := prog_19_method_66_code
def yJ9_max_f86c9 : MethodName := ⟨RJ9, "max", "(JJ)J"⟩
abbrev cJ9_min_7cf53 : ByteArray := prog_19_method_69_code
def yJ9_min_7cf53 : MethodName := ⟨RJ9, "min", "(II)I"⟩
abbrev cJ9_min_f86c9 : ByteArray := prog_19_method_70_code
def yJ9_min_f86c9 : MethodName := ⟨RJ9, "min", "(JJ)J"⟩
def RJ0 : String := "java/lang/String"
def RL : String := "AllAboveItLaw"
abbrev cL_thing : ByteArray := method_3_code
def yL_thing : MethodName := ⟨RL, "thing", "(LAllAboveIt;II[J)I"⟩
abbrev cL_row : ByteArray := method_4_code
def yL_row : MethodName := ⟨RL, "row", "(LAllAboveIt;I[J)I"⟩
abbrev cL_law : ByteArray := code
def yL_law : MethodName := ⟨RL, "law", "([I)Z"⟩
abbrev vwCl : List vw_C := [(RX0, TX0, 11), (RX1, TX1, 9), (RX2, TX2, 5), (RX3, TX3, 6), (RX4, TX4, 2), (RX5, TX5, 3), (RX6, TX6, 16), (RX7, TX7, 12), (RX8, TX8, 1), (RX9, TX9, 6), (RX10, TX10, 3), (RX11, TX11, 14), (RX12, TX12, 38)]
