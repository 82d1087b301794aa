-- ===== PART A: goes FIRST, ahead of the names: the tables' words, and 'selects' of the private methods out of them =====
/-- a private method of a class that the tables say can be made, by its rows of tables_1 -/
def lw_okq (q : MethodName × Nat) : Prop := (q.1.cls ≠ "java/lang/invoke/MethodHandle" ∧ q.1.cls ≠ "java/lang/invoke/VarHandle") ∧ Cond.instantiable q.1.cls q.2 ∈ tables_1 ∧ Cond.privateMethod q.1 ∈ tables_1 ∧ Cond.instanceMethod q.1 ∈ tables_1
theorem lw_p0 : lw_okq (⟨"SundialWorks", "recorded", "(I)I"⟩, 5) := ⟨⟨by decide +kernel, by decide +kernel⟩, List.mem_of_getElem? (i := 18) (by decide +kernel), List.mem_of_getElem? (i := 269) (by decide +kernel), List.mem_of_getElem? (i := 270) (by decide +kernel)⟩
theorem lw_p1 : lw_okq (⟨"SundialWorks", "judge", "(I)I"⟩, 5) := ⟨⟨by decide +kernel, by decide +kernel⟩, List.mem_of_getElem? (i := 18) (by decide +kernel), List.mem_of_getElem? (i := 339) (by decide +kernel), List.mem_of_getElem? (i := 340) (by decide +kernel)⟩
theorem lw_p2 : lw_okq (⟨"SundialWorks", "layDial", "(I)Z"⟩, 5) := ⟨⟨by decide +kernel, by decide +kernel⟩, List.mem_of_getElem? (i := 18) (by decide +kernel), List.mem_of_getElem? (i := 347) (by decide +kernel), List.mem_of_getElem? (i := 348) (by decide +kernel)⟩
theorem lw_p3 : lw_okq (⟨"SundialWorks", "failedAt", "(I)I"⟩, 5) := ⟨⟨by decide +kernel, by decide +kernel⟩, List.mem_of_getElem? (i := 18) (by decide +kernel), List.mem_of_getElem? (i := 609) (by decide +kernel), List.mem_of_getElem? (i := 610) (by decide +kernel)⟩
theorem lw_p4 : lw_okq (⟨"SundialWorks", "perform", "(I)I"⟩, 5) := ⟨⟨by decide +kernel, by decide +kernel⟩, List.mem_of_getElem? (i := 18) (by decide +kernel), List.mem_of_getElem? (i := 614) (by decide +kernel), List.mem_of_getElem? (i := 615) (by decide +kernel)⟩
theorem lw_p5 : lw_okq (⟨"SundialWorksModel", "act", "()V"⟩, 15) := ⟨⟨by decide +kernel, by decide +kernel⟩, List.mem_of_getElem? (i := 702) (by decide +kernel), List.mem_of_getElem? (i := 762) (by decide +kernel), List.mem_of_getElem? (i := 763) (by decide +kernel)⟩
theorem lw_p6 : lw_okq (⟨"SundialWorksModel", "wallCode", "()I"⟩, 15) := ⟨⟨by decide +kernel, by decide +kernel⟩, List.mem_of_getElem? (i := 702) (by decide +kernel), List.mem_of_getElem? (i := 780) (by decide +kernel), List.mem_of_getElem? (i := 781) (by decide +kernel)⟩
theorem lw_p7 : lw_okq (⟨"SundialWorksModel", "wallNow", "()I"⟩, 15) := ⟨⟨by decide +kernel, by decide +kernel⟩, List.mem_of_getElem? (i := 702) (by decide +kernel), List.mem_of_getElem? (i := 785) (by decide +kernel), List.mem_of_getElem? (i := 786) (by decide +kernel)⟩
theorem lw_p8 : lw_okq (⟨"SundialWorksModel", "measureCode", "(II)I"⟩, 15) := ⟨⟨by decide +kernel, by decide +kernel⟩, List.mem_of_getElem? (i := 702) (by decide +kernel), List.mem_of_getElem? (i := 794) (by decide +kernel), List.mem_of_getElem? (i := 795) (by decide +kernel)⟩
theorem lw_p9 : lw_okq (⟨"SundialWorksModel", "isWall", "(I)Z"⟩, 15) := ⟨⟨by decide +kernel, by decide +kernel⟩, List.mem_of_getElem? (i := 702) (by decide +kernel), List.mem_of_getElem? (i := 798) (by decide +kernel), List.mem_of_getElem? (i := 799) (by decide +kernel)⟩
theorem lw_p10 : lw_okq (⟨"SundialWorksModel", "measureNow", "(II)I"⟩, 15) := ⟨⟨by decide +kernel, by decide +kernel⟩, List.mem_of_getElem? (i := 702) (by decide +kernel), List.mem_of_getElem? (i := 802) (by decide +kernel), List.mem_of_getElem? (i := 803) (by decide +kernel)⟩
theorem lw_p11 : lw_okq (⟨"SundialWorksModel", "declinationOfWall", "(I)I"⟩, 15) := ⟨⟨by decide +kernel, by decide +kernel⟩, List.mem_of_getElem? (i := 702) (by decide +kernel), List.mem_of_getElem? (i := 806) (by decide +kernel), List.mem_of_getElem? (i := 807) (by decide +kernel)⟩
theorem lw_p12 : lw_okq (⟨"SundialWorksModel", "askCode", "(IIII)I"⟩, 15) := ⟨⟨by decide +kernel, by decide +kernel⟩, List.mem_of_getElem? (i := 702) (by decide +kernel), List.mem_of_getElem? (i := 821) (by decide +kernel), List.mem_of_getElem? (i := 822) (by decide +kernel)⟩
theorem lw_p13 : lw_okq (⟨"SundialWorksModel", "askNow", "(IIII)I"⟩, 15) := ⟨⟨by decide +kernel, by decide +kernel⟩, List.mem_of_getElem? (i := 702) (by decide +kernel), List.mem_of_getElem? (i := 825) (by decide +kernel), List.mem_of_getElem? (i := 826) (by decide +kernel)⟩
theorem lw_p14 : lw_okq (⟨"SundialWorksModel", "put", "(III)V"⟩, 15) := ⟨⟨by decide +kernel, by decide +kernel⟩, List.mem_of_getElem? (i := 702) (by decide +kernel), List.mem_of_getElem? (i := 829) (by decide +kernel), List.mem_of_getElem? (i := 830) (by decide +kernel)⟩
theorem lw_p15 : lw_okq (⟨"SundialWorksModel", "stateCode", "(II)I"⟩, 15) := ⟨⟨by decide +kernel, by decide +kernel⟩, List.mem_of_getElem? (i := 702) (by decide +kernel), List.mem_of_getElem? (i := 837) (by decide +kernel), List.mem_of_getElem? (i := 838) (by decide +kernel)⟩
def lw_privs_1 : List (MethodName × Nat) := [(⟨"SundialWorks", "recorded", "(I)I"⟩, 5), (⟨"SundialWorks", "judge", "(I)I"⟩, 5), (⟨"SundialWorks", "layDial", "(I)Z"⟩, 5), (⟨"SundialWorks", "failedAt", "(I)I"⟩, 5), (⟨"SundialWorks", "perform", "(I)I"⟩, 5), (⟨"SundialWorksModel", "act", "()V"⟩, 15), (⟨"SundialWorksModel", "wallCode", "()I"⟩, 15), (⟨"SundialWorksModel", "wallNow", "()I"⟩, 15), (⟨"SundialWorksModel", "measureCode", "(II)I"⟩, 15), (⟨"SundialWorksModel", "isWall", "(I)Z"⟩, 15), (⟨"SundialWorksModel", "measureNow", "(II)I"⟩, 15), (⟨"SundialWorksModel", "declinationOfWall", "(I)I"⟩, 15), (⟨"SundialWorksModel", "askCode", "(IIII)I"⟩, 15), (⟨"SundialWorksModel", "askNow", "(IIII)I"⟩, 15), (⟨"SundialWorksModel", "put", "(III)V"⟩, 15), (⟨"SundialWorksModel", "stateCode", "(II)I"⟩, 15)]
theorem lw_r1 : ∀ q ∈ lw_privs_1, lw_okq q := List.forall_mem_cons.mpr ⟨lw_p0, List.forall_mem_cons.mpr ⟨lw_p1, List.forall_mem_cons.mpr ⟨lw_p2, List.forall_mem_cons.mpr ⟨lw_p3, List.forall_mem_cons.mpr ⟨lw_p4, List.forall_mem_cons.mpr ⟨lw_p5, List.forall_mem_cons.mpr ⟨lw_p6, List.forall_mem_cons.mpr ⟨lw_p7, List.forall_mem_cons.mpr ⟨lw_p8, List.forall_mem_cons.mpr ⟨lw_p9, List.forall_mem_cons.mpr ⟨lw_p10, List.forall_mem_cons.mpr ⟨lw_p11, List.forall_mem_cons.mpr ⟨lw_p12, List.forall_mem_cons.mpr ⟨lw_p13, List.forall_mem_cons.mpr ⟨lw_p14, List.forall_mem_cons.mpr ⟨lw_p15, fun _ h => absurd h List.not_mem_nil⟩⟩⟩⟩⟩⟩⟩⟩⟩⟩⟩⟩⟩⟩⟩⟩
theorem lw_p16 : lw_okq (⟨"SundialWorksModel", "isCommission", "(I)Z"⟩, 15) := ⟨⟨by decide +kernel, by decide +kernel⟩, List.mem_of_getElem? (i := 702) (by decide +kernel), List.mem_of_getElem? (i := 841) (by decide +kernel), List.mem_of_getElem? (i := 842) (by decide +kernel)⟩
theorem lw_p17 : lw_okq (⟨"SundialWorksModel", "of", "(II)I"⟩, 15) := ⟨⟨by decide +kernel, by decide +kernel⟩, List.mem_of_getElem? (i := 702) (by decide +kernel), List.mem_of_getElem? (i := 845) (by decide +kernel), List.mem_of_getElem? (i := 846) (by decide +kernel)⟩
theorem lw_p18 : lw_okq (⟨"SundialWorksModel", "decideNow", "(I)I"⟩, 15) := ⟨⟨by decide +kernel, by decide +kernel⟩, List.mem_of_getElem? (i := 702) (by decide +kernel), List.mem_of_getElem? (i := 850) (by decide +kernel), List.mem_of_getElem? (i := 851) (by decide +kernel)⟩
theorem lw_p19 : lw_okq (⟨"SundialWorksModel", "reasonFor", "(I)I"⟩, 15) := ⟨⟨by decide +kernel, by decide +kernel⟩, List.mem_of_getElem? (i := 702) (by decide +kernel), List.mem_of_getElem? (i := 854) (by decide +kernel), List.mem_of_getElem? (i := 855) (by decide +kernel)⟩
theorem lw_p20 : lw_okq (⟨"SundialWorksModel", "takeDial", "(I)Z"⟩, 15) := ⟨⟨by decide +kernel, by decide +kernel⟩, List.mem_of_getElem? (i := 702) (by decide +kernel), List.mem_of_getElem? (i := 858) (by decide +kernel), List.mem_of_getElem? (i := 859) (by decide +kernel)⟩
theorem lw_p21 : lw_okq (⟨"SundialWorksModel", "declinationOf", "(I)I"⟩, 15) := ⟨⟨by decide +kernel, by decide +kernel⟩, List.mem_of_getElem? (i := 702) (by decide +kernel), List.mem_of_getElem? (i := 862) (by decide +kernel), List.mem_of_getElem? (i := 863) (by decide +kernel)⟩
theorem lw_p22 : lw_okq (⟨"SundialWorksModel", "reckon", "(IZI)V"⟩, 15) := ⟨⟨by decide +kernel, by decide +kernel⟩, List.mem_of_getElem? (i := 702) (by decide +kernel), List.mem_of_getElem? (i := 866) (by decide +kernel), List.mem_of_getElem? (i := 867) (by decide +kernel)⟩
theorem lw_p23 : lw_okq (⟨"SundialWorksModel", "hourLines", "()I"⟩, 15) := ⟨⟨by decide +kernel, by decide +kernel⟩, List.mem_of_getElem? (i := 702) (by decide +kernel), List.mem_of_getElem? (i := 888) (by decide +kernel), List.mem_of_getElem? (i := 889) (by decide +kernel)⟩
theorem lw_p24 : lw_okq (⟨"SundialWorksModel", "has", "(I)Z"⟩, 15) := ⟨⟨by decide +kernel, by decide +kernel⟩, List.mem_of_getElem? (i := 702) (by decide +kernel), List.mem_of_getElem? (i := 892) (by decide +kernel), List.mem_of_getElem? (i := 893) (by decide +kernel)⟩
theorem lw_p25 : lw_okq (⟨"SundialWorksModel", "apartOf", "(I)I"⟩, 15) := ⟨⟨by decide +kernel, by decide +kernel⟩, List.mem_of_getElem? (i := 702) (by decide +kernel), List.mem_of_getElem? (i := 896) (by decide +kernel), List.mem_of_getElem? (i := 897) (by decide +kernel)⟩
theorem lw_p26 : lw_okq (⟨"SundialWorksModel", "off", "(I)I"⟩, 15) := ⟨⟨by decide +kernel, by decide +kernel⟩, List.mem_of_getElem? (i := 702) (by decide +kernel), List.mem_of_getElem? (i := 900) (by decide +kernel), List.mem_of_getElem? (i := 901) (by decide +kernel)⟩
theorem lw_p27 : lw_okq (⟨"SundialWorksModel", "byLines", "(I)I"⟩, 15) := ⟨⟨by decide +kernel, by decide +kernel⟩, List.mem_of_getElem? (i := 702) (by decide +kernel), List.mem_of_getElem? (i := 904) (by decide +kernel), List.mem_of_getElem? (i := 905) (by decide +kernel)⟩
theorem lw_p28 : lw_okq (⟨"SundialWorksModel", "weightOf", "(I)I"⟩, 15) := ⟨⟨by decide +kernel, by decide +kernel⟩, List.mem_of_getElem? (i := 702) (by decide +kernel), List.mem_of_getElem? (i := 909) (by decide +kernel), List.mem_of_getElem? (i := 910) (by decide +kernel)⟩
theorem lw_p29 : lw_okq (⟨"SundialWorksModel", "castCode", "()I"⟩, 15) := ⟨⟨by decide +kernel, by decide +kernel⟩, List.mem_of_getElem? (i := 702) (by decide +kernel), List.mem_of_getElem? (i := 922) (by decide +kernel), List.mem_of_getElem? (i := 923) (by decide +kernel)⟩
theorem lw_p30 : lw_okq (⟨"SundialWorksModel", "takeStates", "()V"⟩, 15) := ⟨⟨by decide +kernel, by decide +kernel⟩, List.mem_of_getElem? (i := 702) (by decide +kernel), List.mem_of_getElem? (i := 926) (by decide +kernel), List.mem_of_getElem? (i := 927) (by decide +kernel)⟩
theorem lw_p31 : lw_okq (⟨"SundialWorksModel", "melt", "()I"⟩, 15) := ⟨⟨by decide +kernel, by decide +kernel⟩, List.mem_of_getElem? (i := 702) (by decide +kernel), List.mem_of_getElem? (i := 930) (by decide +kernel), List.mem_of_getElem? (i := 931) (by decide +kernel)⟩
def lw_privs_2 : List (MethodName × Nat) := [(⟨"SundialWorksModel", "isCommission", "(I)Z"⟩, 15), (⟨"SundialWorksModel", "of", "(II)I"⟩, 15), (⟨"SundialWorksModel", "decideNow", "(I)I"⟩, 15), (⟨"SundialWorksModel", "reasonFor", "(I)I"⟩, 15), (⟨"SundialWorksModel", "takeDial", "(I)Z"⟩, 15), (⟨"SundialWorksModel", "declinationOf", "(I)I"⟩, 15), (⟨"SundialWorksModel", "reckon", "(IZI)V"⟩, 15), (⟨"SundialWorksModel", "hourLines", "()I"⟩, 15), (⟨"SundialWorksModel", "has", "(I)Z"⟩, 15), (⟨"SundialWorksModel", "apartOf", "(I)I"⟩, 15), (⟨"SundialWorksModel", "off", "(I)I"⟩, 15), (⟨"SundialWorksModel", "byLines", "(I)I"⟩, 15), (⟨"SundialWorksModel", "weightOf", "(I)I"⟩, 15), (⟨"SundialWorksModel", "castCode", "()I"⟩, 15), (⟨"SundialWorksModel", "takeStates", "()V"⟩, 15), (⟨"SundialWorksModel", "melt", "()I"⟩, 15)]
theorem lw_r2 : ∀ q ∈ lw_privs_2, lw_okq q := List.forall_mem_cons.mpr ⟨lw_p16, List.forall_mem_cons.mpr ⟨lw_p17, List.forall_mem_cons.mpr ⟨lw_p18, List.forall_mem_cons.mpr ⟨lw_p19, List.forall_mem_cons.mpr ⟨lw_p20, List.forall_mem_cons.mpr ⟨lw_p21, List.forall_mem_cons.mpr ⟨lw_p22, List.forall_mem_cons.mpr ⟨lw_p23, List.forall_mem_cons.mpr ⟨lw_p24, List.forall_mem_cons.mpr ⟨lw_p25, List.forall_mem_cons.mpr ⟨lw_p26, List.forall_mem_cons.mpr ⟨lw_p27, List.forall_mem_cons.mpr ⟨lw_p28, List.forall_mem_cons.mpr ⟨lw_p29, List.forall_mem_cons.mpr ⟨lw_p30, List.forall_mem_cons.mpr ⟨lw_p31, fun _ h => absurd h List.not_mem_nil⟩⟩⟩⟩⟩⟩⟩⟩⟩⟩⟩⟩⟩⟩⟩⟩
theorem lw_p32 : lw_okq (⟨"SundialWorksModel", "castNow", "()I"⟩, 15) := ⟨⟨by decide +kernel, by decide +kernel⟩, List.mem_of_getElem? (i := 702) (by decide +kernel), List.mem_of_getElem? (i := 934) (by decide +kernel), List.mem_of_getElem? (i := 935) (by decide +kernel)⟩
theorem lw_p33 : lw_okq (⟨"SundialWorksModel", "deliverNow", "(I)I"⟩, 15) := ⟨⟨by decide +kernel, by decide +kernel⟩, List.mem_of_getElem? (i := 702) (by decide +kernel), List.mem_of_getElem? (i := 942) (by decide +kernel), List.mem_of_getElem? (i := 943) (by decide +kernel)⟩
theorem lw_p34 : lw_okq (⟨"SundialWorksModel", "inState", "(I)I"⟩, 15) := ⟨⟨by decide +kernel, by decide +kernel⟩, List.mem_of_getElem? (i := 702) (by decide +kernel), List.mem_of_getElem? (i := 946) (by decide +kernel), List.mem_of_getElem? (i := 947) (by decide +kernel)⟩
theorem lw_p35 : lw_okq (⟨"SundialWorksModel", "next", "()V"⟩, 15) := ⟨⟨by decide +kernel, by decide +kernel⟩, List.mem_of_getElem? (i := 702) (by decide +kernel), List.mem_of_getElem? (i := 980) (by decide +kernel), List.mem_of_getElem? (i := 981) (by decide +kernel)⟩
theorem lw_p36 : lw_okq (⟨"SundialWorksModel", "at", "(I)I"⟩, 15) := ⟨⟨by decide +kernel, by decide +kernel⟩, List.mem_of_getElem? (i := 702) (by decide +kernel), List.mem_of_getElem? (i := 984) (by decide +kernel), List.mem_of_getElem? (i := 985) (by decide +kernel)⟩
theorem lw_p37 : lw_okq (⟨"SundialWorksModel", "command", "()I"⟩, 15) := ⟨⟨by decide +kernel, by decide +kernel⟩, List.mem_of_getElem? (i := 702) (by decide +kernel), List.mem_of_getElem? (i := 988) (by decide +kernel), List.mem_of_getElem? (i := 989) (by decide +kernel)⟩
theorem lw_p38 : lw_okq (⟨"SundialWorksModel", "wordHere", "()I"⟩, 15) := ⟨⟨by decide +kernel, by decide +kernel⟩, List.mem_of_getElem? (i := 702) (by decide +kernel), List.mem_of_getElem? (i := 992) (by decide +kernel), List.mem_of_getElem? (i := 993) (by decide +kernel)⟩
theorem lw_p39 : lw_okq (⟨"SundialWorksModel", "isWord", "(I)Z"⟩, 15) := ⟨⟨by decide +kernel, by decide +kernel⟩, List.mem_of_getElem? (i := 702) (by decide +kernel), List.mem_of_getElem? (i := 996) (by decide +kernel), List.mem_of_getElem? (i := 997) (by decide +kernel)⟩
theorem lw_p40 : lw_okq (⟨"SundialWorksModel", "fail", "(I)V"⟩, 15) := ⟨⟨by decide +kernel, by decide +kernel⟩, List.mem_of_getElem? (i := 702) (by decide +kernel), List.mem_of_getElem? (i := 1006) (by decide +kernel), List.mem_of_getElem? (i := 1007) (by decide +kernel)⟩
theorem lw_p41 : lw_okq (⟨"SundialWorksModel", "readNumber", "(II)V"⟩, 15) := ⟨⟨by decide +kernel, by decide +kernel⟩, List.mem_of_getElem? (i := 702) (by decide +kernel), List.mem_of_getElem? (i := 1013) (by decide +kernel), List.mem_of_getElem? (i := 1014) (by decide +kernel)⟩
theorem lw_p42 : lw_okq (⟨"SundialWorksModel", "codeOf", "(IIII)I"⟩, 15) := ⟨⟨by decide +kernel, by decide +kernel⟩, List.mem_of_getElem? (i := 702) (by decide +kernel), List.mem_of_getElem? (i := 1017) (by decide +kernel), List.mem_of_getElem? (i := 1018) (by decide +kernel)⟩
theorem lw_p43 : lw_okq (⟨"SundialWorksModel", "carry", "(IIII)I"⟩, 15) := ⟨⟨by decide +kernel, by decide +kernel⟩, List.mem_of_getElem? (i := 702) (by decide +kernel), List.mem_of_getElem? (i := 1021) (by decide +kernel), List.mem_of_getElem? (i := 1022) (by decide +kernel)⟩
theorem lw_p44 : lw_okq (⟨"SundialWorksModel", "knownWalls", "()I"⟩, 15) := ⟨⟨by decide +kernel, by decide +kernel⟩, List.mem_of_getElem? (i := 702) (by decide +kernel), List.mem_of_getElem? (i := 1029) (by decide +kernel), List.mem_of_getElem? (i := 1030) (by decide +kernel)⟩
theorem lw_p45 : lw_okq (⟨"SundialWorksModel", "commissionsFor", "(I)I"⟩, 15) := ⟨⟨by decide +kernel, by decide +kernel⟩, List.mem_of_getElem? (i := 702) (by decide +kernel), List.mem_of_getElem? (i := 1037) (by decide +kernel), List.mem_of_getElem? (i := 1038) (by decide +kernel)⟩
theorem lw_p46 : lw_okq (⟨"SundialWorksModel", "byShadow", "(I)I"⟩, 15) := ⟨⟨by decide +kernel, by decide +kernel⟩, List.mem_of_getElem? (i := 702) (by decide +kernel), List.mem_of_getElem? (i := 1065) (by decide +kernel), List.mem_of_getElem? (i := 1066) (by decide +kernel)⟩
def lw_privs_3 : List (MethodName × Nat) := [(⟨"SundialWorksModel", "castNow", "()I"⟩, 15), (⟨"SundialWorksModel", "deliverNow", "(I)I"⟩, 15), (⟨"SundialWorksModel", "inState", "(I)I"⟩, 15), (⟨"SundialWorksModel", "next", "()V"⟩, 15), (⟨"SundialWorksModel", "at", "(I)I"⟩, 15), (⟨"SundialWorksModel", "command", "()I"⟩, 15), (⟨"SundialWorksModel", "wordHere", "()I"⟩, 15), (⟨"SundialWorksModel", "isWord", "(I)Z"⟩, 15), (⟨"SundialWorksModel", "fail", "(I)V"⟩, 15), (⟨"SundialWorksModel", "readNumber", "(II)V"⟩, 15), (⟨"SundialWorksModel", "codeOf", "(IIII)I"⟩, 15), (⟨"SundialWorksModel", "carry", "(IIII)I"⟩, 15), (⟨"SundialWorksModel", "knownWalls", "()I"⟩, 15), (⟨"SundialWorksModel", "commissionsFor", "(I)I"⟩, 15), (⟨"SundialWorksModel", "byShadow", "(I)I"⟩, 15)]
theorem lw_r3 : ∀ q ∈ lw_privs_3, lw_okq q := List.forall_mem_cons.mpr ⟨lw_p32, List.forall_mem_cons.mpr ⟨lw_p33, List.forall_mem_cons.mpr ⟨lw_p34, List.forall_mem_cons.mpr ⟨lw_p35, List.forall_mem_cons.mpr ⟨lw_p36, List.forall_mem_cons.mpr ⟨lw_p37, List.forall_mem_cons.mpr ⟨lw_p38, List.forall_mem_cons.mpr ⟨lw_p39, List.forall_mem_cons.mpr ⟨lw_p40, List.forall_mem_cons.mpr ⟨lw_p41, List.forall_mem_cons.mpr ⟨lw_p42, List.forall_mem_cons.mpr ⟨lw_p43, List.forall_mem_cons.mpr ⟨lw_p44, List.forall_mem_cons.mpr ⟨lw_p45, List.forall_mem_cons.mpr ⟨lw_p46, fun _ h => absurd h List.not_mem_nil⟩⟩⟩⟩⟩⟩⟩⟩⟩⟩⟩⟩⟩⟩⟩
def lw_privs : List (MethodName × Nat) := lw_privs_1 ++ (lw_privs_2 ++ (lw_privs_3))
def lw_tbl : List Cond := k2_sels lw_privs ++ tables_1
theorem lw_privs_ok : ∀ q ∈ lw_privs, lw_okq q := by
  show ∀ q ∈ lw_privs_1 ++ (lw_privs_2 ++ (lw_privs_3)), lw_okq q
  exact List.forall_mem_append.mpr ⟨lw_r1, List.forall_mem_append.mpr ⟨lw_r2, lw_r3⟩⟩
def RX0 : String := "SundialWorks$Commission"
def TX0 : u_T := fun k => match k with
  | 0 => ("SundialWorks$Commission", "latitude", "I", false)
  | 1 => ("SundialWorks$Commission", "wall", "I", false)
  | 2 => ("SundialWorks$Commission", "size", "I", false)
  | 3 => ("SundialWorks$Commission", "longitude", "I", false)
  | 4 => ("SundialWorks$Commission", "state", "I", false)
  | 5 => ("SundialWorks$Commission", "keptDeclination", "I", false)
  | 6 => ("SundialWorks$Commission", "casting", "I", false)
  | _ => ("SundialWorks$Commission", "refusal", "I", false)
def tyX0 : Nat → FieldType := fun k => match k with
  | 0 => .int
  | 1 => .int
  | 2 => .int
  | 3 => .int
  | 4 => .int
  | 5 => .int
  | 6 => .int
  | _ => .int
abbrev wsX00 : List Cond := u_ws RX0 TX0 8
theorem nmX0 : ∀ a, a < 8 → ∀ b, b < 8 → a ≠ b → (TX0 a).2.1 ≠ (TX0 b).2.1 := by decide +kernel
theorem tyX0_ok : ∀ k, k < 8 → parseFieldDescriptor (TX0 k).2.2.1 = some (tyX0 k) := by decide +kernel
abbrev cX0_init : ByteArray := prog_2_method_1_code
def yX0_init : MethodName := ⟨RX0, "<init>", "()V"⟩
abbrev cX0_copyFrom : ByteArray := prog_2_method_2_code
def yX0_copyFrom : MethodName := ⟨RX0, "copyFrom", "(LSundialWorks$Commission;)V"⟩
abbrev cX0_weight : ByteArray := prog_2_method_3_code
def yX0_weight : MethodName := ⟨RX0, "weight", "()I"⟩
abbrev cX0_isByWallNow : ByteArray := prog_2_method_4_code
def yX0_isByWallNow : MethodName := ⟨RX0, "isByWallNow", "()Z"⟩
def RX1 : String := "SundialWorks$Dial"
def TX1 : u_T := fun k => match k with
  | 0 => ("SundialWorks$Dial", "offsets", "[I", true)
  | 1 => ("SundialWorks$Dial", "farthest", "I", false)
  | _ => ("SundialWorks$Dial", "farthestTime", "I", false)
def tyX1 : Nat → FieldType := fun k => match k with
  | 0 => .array .int
  | 1 => .int
  | _ => .int
abbrev wsX10 : List Cond := u_ws RX1 TX1 3
theorem nmX1 : ∀ a, a < 3 → ∀ b, b < 3 → a ≠ b → (TX1 a).2.1 ≠ (TX1 b).2.1 := by decide +kernel
theorem tyX1_ok : ∀ k, k < 3 → parseFieldDescriptor (TX1 k).2.2.1 = some (tyX1 k) := by decide +kernel
abbrev cX1_init : ByteArray := prog_3_method_1_code
def yX1_init : MethodName := ⟨RX1, "<init>", "()V"⟩
abbrev cX1_lay : ByteArray := prog_3_method_2_code
def yX1_lay : MethodName := ⟨RX1, "lay", "(ZII)V"⟩
abbrev cX1_offsetOfShadow : ByteArray := prog_3_method_3_code
def yX1_offsetOfShadow : MethodName := ⟨RX1, "offsetOfShadow", "(JJ)I"⟩
abbrev cX1_offsetAt : ByteArray := prog_3_method_4_code
def yX1_offsetAt : MethodName := ⟨RX1, "offsetAt", "(I)I"⟩
abbrev cX1_countLines : ByteArray := prog_3_method_5_code
def yX1_countLines : MethodName := ⟨RX1, "countLines", "()I"⟩
abbrev cX1_firstLine : ByteArray := prog_3_method_6_code
def yX1_firstLine : MethodName := ⟨RX1, "firstLine", "()I"⟩
abbrev cX1_lastLine : ByteArray := prog_3_method_7_code
def yX1_lastLine : MethodName := ⟨RX1, "lastLine", "()I"⟩
abbrev cX1_readingByLines : ByteArray := prog_3_method_8_code
def yX1_readingByLines : MethodName := ⟨RX1, "readingByLines", "(I)I"⟩
abbrev cX1_readingByShadow : ByteArray := prog_3_method_9_code
def yX1_readingByShadow : MethodName := ⟨RX1, "readingByShadow", "(I)I"⟩
abbrev cX1_compareReadings : ByteArray := prog_3_method_10_code
def yX1_compareReadings : MethodName := ⟨RX1, "compareReadings", "()V"⟩
def RX2 : String := "SundialWorks$History"
def TX2 : u_T := fun k => match k with
  | 0 => ("SundialWorks$History", "ring", "[LSundialWorks$State;", true)
  | 1 => ("SundialWorks$History", "free", "I", false)
  | _ => ("SundialWorks$History", "kept", "I", false)
def tyX2 : Nat → FieldType := fun k => match k with
  | 0 => .array (.object "SundialWorks$State")
  | 1 => .int
  | _ => .int
abbrev wsX20 : List Cond := u_ws RX2 TX2 3
theorem nmX2 : ∀ a, a < 3 → ∀ b, b < 3 → a ≠ b → (TX2 a).2.1 ≠ (TX2 b).2.1 := by decide +kernel
theorem tyX2_ok : ∀ k, k < 3 → parseFieldDescriptor (TX2 k).2.2.1 = some (tyX2 k) := by decide +kernel
abbrev cX2_init : ByteArray := prog_4_method_1_code
def yX2_init : MethodName := ⟨RX2, "<init>", "()V"⟩
abbrev cX2_mark : ByteArray := prog_4_method_2_code
def yX2_mark : MethodName := ⟨RX2, "mark", "(LSundialWorks$State;)V"⟩
abbrev cX2_keepMarked : ByteArray := prog_4_method_3_code
def yX2_keepMarked : MethodName := ⟨RX2, "keepMarked", "()V"⟩
abbrev cX2_returnToMarked : ByteArray := prog_4_method_4_code
def yX2_returnToMarked : MethodName := ⟨RX2, "returnToMarked", "(LSundialWorks$State;)V"⟩
abbrev cX2_stepBack : ByteArray := prog_4_method_5_code
def yX2_stepBack : MethodName := ⟨RX2, "stepBack", "(LSundialWorks$State;)V"⟩
def RX3 : String := "SundialWorks$Program"
def TX3 : u_T := fun k => match k with
  | 0 => ("SundialWorks$Program", "text", "[C", true)
  | 1 => ("SundialWorks$Program", "numbers", "[I", true)
  | 2 => ("SundialWorks$Program", "length", "I", false)
  | 3 => ("SundialWorks$Program", "tokenStart", "I", false)
  | _ => ("SundialWorks$Program", "tokenEnd", "I", false)
def tyX3 : Nat → FieldType := fun k => match k with
  | 0 => .array .char
  | 1 => .array .int
  | 2 => .int
  | 3 => .int
  | _ => .int
abbrev wsX30 : List Cond := u_ws RX3 TX3 5
theorem nmX3 : ∀ a, a < 5 → ∀ b, b < 5 → a ≠ b → (TX3 a).2.1 ≠ (TX3 b).2.1 := by decide +kernel
theorem tyX3_ok : ∀ k, k < 5 → parseFieldDescriptor (TX3 k).2.2.1 = some (tyX3 k) := by decide +kernel
abbrev cX3_init : ByteArray := prog_5_method_1_code
def yX3_init : MethodName := ⟨RX3, "<init>", "()V"⟩
abbrev cX3_add : ByteArray := prog_5_method_2_code
def yX3_add : MethodName := ⟨RX3, "add", "(I)I"⟩
abbrev cX3_empty : ByteArray := prog_5_method_3_code
def yX3_empty : MethodName := ⟨RX3, "empty", "()I"⟩
abbrev cX3_rewind : ByteArray := prog_5_method_4_code
def yX3_rewind : MethodName := ⟨RX3, "rewind", "()V"⟩
abbrev cX3_advance : ByteArray := prog_5_method_5_code
def yX3_advance : MethodName := ⟨RX3, "advance", "()Z"⟩
abbrev cX3_kindOf : ByteArray := prog_5_method_6_code
def yX3_kindOf : MethodName := ⟨RX3, "kindOf", "(C)I"⟩
abbrev cX3_parseCommand : ByteArray := prog_5_method_7_code
def yX3_parseCommand : MethodName := ⟨RX3, "parseCommand", "()I"⟩
abbrev cX3_commandOfToken : ByteArray := prog_5_method_8_code
def yX3_commandOfToken : MethodName := ⟨RX3, "commandOfToken", "()I"⟩
abbrev cX3_wordOf : ByteArray := prog_5_method_9_code
def yX3_wordOf : MethodName := ⟨RX3, "wordOf", "(I)Ljava/lang/String;"⟩
abbrev cX3_tokenIs : ByteArray := prog_5_method_10_code
def yX3_tokenIs : MethodName := ⟨RX3, "tokenIs", "(Ljava/lang/String;)Z"⟩
abbrev cX3_numberOfToken : ByteArray := prog_5_method_11_code
def yX3_numberOfToken : MethodName := ⟨RX3, "numberOfToken", "()I"⟩
def RX4 : String := "SundialWorks$Shop"
def TX4 : u_T := fun k => match k with
  | 0 => ("SundialWorks$Shop", "walls", "[LSundialWorks$Wall;", true)
  | 1 => ("SundialWorks$Shop", "corrections", "[I", true)
  | 2 => ("SundialWorks$Shop", "settings", "[I", true)
  | 3 => ("SundialWorks$Shop", "commissions", "[LSundialWorks$Commission;", true)
  | 4 => ("SundialWorks$Shop", "wallCount", "I", false)
  | 5 => ("SundialWorks$Shop", "commissionCount", "I", false)
  | 6 => ("SundialWorks$Shop", "castings", "I", false)
  | _ => ("SundialWorks$Shop", "kilograms", "I", false)
def tyX4 : Nat → FieldType := fun k => match k with
  | 0 => .array (.object "SundialWorks$Wall")
  | 1 => .array .int
  | 2 => .array .int
  | 3 => .array (.object "SundialWorks$Commission")
  | 4 => .int
  | 5 => .int
  | 6 => .int
  | _ => .int
abbrev wsX40 : List Cond := u_ws RX4 TX4 8
theorem nmX4 : ∀ a, a < 8 → ∀ b, b < 8 → a ≠ b → (TX4 a).2.1 ≠ (TX4 b).2.1 := by decide +kernel
theorem tyX4_ok : ∀ k, k < 8 → parseFieldDescriptor (TX4 k).2.2.1 = some (tyX4 k) := by decide +kernel
abbrev cX4_init : ByteArray := prog_6_method_1_code
def yX4_init : MethodName := ⟨RX4, "<init>", "()V"⟩
abbrev cX4_copyFrom : ByteArray := prog_6_method_2_code
def yX4_copyFrom : MethodName := ⟨RX4, "copyFrom", "(LSundialWorks$Shop;)V"⟩
abbrev cX4_hasWall : ByteArray := prog_6_method_3_code
def yX4_hasWall : MethodName := ⟨RX4, "hasWall", "(I)Z"⟩
abbrev cX4_hasCommission : ByteArray := prog_6_method_4_code
def yX4_hasCommission : MethodName := ⟨RX4, "hasCommission", "(I)Z"⟩
abbrev cX4_changeCorrection : ByteArray := prog_6_method_5_code
def yX4_changeCorrection : MethodName := ⟨RX4, "changeCorrection", "(II)I"⟩
abbrev cX4_changeSetting : ByteArray := prog_6_method_6_code
def yX4_changeSetting : MethodName := ⟨RX4, "changeSetting", "(II)I"⟩
abbrev cX4_openWall : ByteArray := prog_6_method_7_code
def yX4_openWall : MethodName := ⟨RX4, "openWall", "()I"⟩
abbrev cX4_measureWall : ByteArray := prog_6_method_8_code
def yX4_measureWall : MethodName := ⟨RX4, "measureWall", "(II)I"⟩
abbrev cX4_openCommission : ByteArray := prog_6_method_9_code
def yX4_openCommission : MethodName := ⟨RX4, "openCommission", "(IIII)I"⟩
abbrev cX4_conclude : ByteArray := prog_6_method_10_code
def yX4_conclude : MethodName := ⟨RX4, "conclude", "(II)I"⟩
abbrev cX4_reopen : ByteArray := prog_6_method_11_code
def yX4_reopen : MethodName := ⟨RX4, "reopen", "(II)I"⟩
abbrev cX4_castMelt : ByteArray := prog_6_method_12_code
def yX4_castMelt : MethodName := ⟨RX4, "castMelt", "()I"⟩
abbrev cX4_meltsNeeded : ByteArray := prog_6_method_13_code
def yX4_meltsNeeded : MethodName := ⟨RX4, "meltsNeeded", "()I"⟩
abbrev cX4_acceptedOnes : ByteArray := prog_6_method_14_code
def yX4_acceptedOnes : MethodName := ⟨RX4, "acceptedOnes", "()I"⟩
abbrev cX4_nextMelt : ByteArray := prog_6_method_15_code
def yX4_nextMelt : MethodName := ⟨RX4, "nextMelt", "(I)I"⟩
abbrev cX4_handOver : ByteArray := prog_6_method_16_code
def yX4_handOver : MethodName := ⟨RX4, "handOver", "(I)I"⟩
abbrev cX4_knownWalls : ByteArray := prog_6_method_17_code
def yX4_knownWalls : MethodName := ⟨RX4, "knownWalls", "()I"⟩
abbrev cX4_commissionsInState : ByteArray := prog_6_method_18_code
def yX4_commissionsInState : MethodName := ⟨RX4, "commissionsInState", "(I)I"⟩
abbrev cX4_commissionsForWall : ByteArray := prog_6_method_19_code
def yX4_commissionsForWall : MethodName := ⟨RX4, "commissionsForWall", "(I)I"⟩
abbrev cX4_declinationOfWall : ByteArray := prog_6_method_20_code
def yX4_declinationOfWall : MethodName := ⟨RX4, "declinationOfWall", "(I)I"⟩
abbrev cX4_declinationOfDial : ByteArray := prog_6_method_21_code
def yX4_declinationOfDial : MethodName := ⟨RX4, "declinationOfDial", "(I)I"⟩
def RX5 : String := "SundialWorks$State"
def TX5 : u_T := fun k => match k with
  | 0 => ("SundialWorks$State", "shop", "LSundialWorks$Shop;", true)
  | 1 => ("SundialWorks$State", "slots", "[LSundialWorks$Shop;", true)
  | _ => ("SundialWorks$State", "filled", "[Z", true)
def tyX5 : Nat → FieldType := fun k => match k with
  | 0 => .object "SundialWorks$Shop"
  | 1 => .array (.object "SundialWorks$Shop")
  | _ => .array .boolean
abbrev wsX50 : List Cond := u_ws RX5 TX5 3
theorem nmX5 : ∀ a, a < 3 → ∀ b, b < 3 → a ≠ b → (TX5 a).2.1 ≠ (TX5 b).2.1 := by decide +kernel
theorem tyX5_ok : ∀ k, k < 3 → parseFieldDescriptor (TX5 k).2.2.1 = some (tyX5 k) := by decide +kernel
abbrev cX5_init : ByteArray := prog_7_method_1_code
def yX5_init : MethodName := ⟨RX5, "<init>", "()V"⟩
abbrev cX5_copyFrom : ByteArray := prog_7_method_2_code
def yX5_copyFrom : MethodName := ⟨RX5, "copyFrom", "(LSundialWorks$State;)V"⟩
abbrev cX5_keepSnapshot : ByteArray := prog_7_method_3_code
def yX5_keepSnapshot : MethodName := ⟨RX5, "keepSnapshot", "(I)I"⟩
abbrev cX5_fetchSnapshot : ByteArray := prog_7_method_4_code
def yX5_fetchSnapshot : MethodName := ⟨RX5, "fetchSnapshot", "(I)I"⟩
abbrev cX5_snapshots : ByteArray := prog_7_method_5_code
def yX5_snapshots : MethodName := ⟨RX5, "snapshots", "()I"⟩
def RX6 : String := "SundialWorks$Wall"
def TX6 : u_T := fun k => match k with
  | 0 => ("SundialWorks$Wall", "latest", "I", false)
  | _ => ("SundialWorks$Wall", "earlier", "I", false)
def tyX6 : Nat → FieldType := fun k => match k with
  | 0 => .int
  | _ => .int
abbrev wsX60 : List Cond := u_ws RX6 TX6 2
theorem nmX6 : ∀ a, a < 2 → ∀ b, b < 2 → a ≠ b → (TX6 a).2.1 ≠ (TX6 b).2.1 := by decide +kernel
theorem tyX6_ok : ∀ k, k < 2 → parseFieldDescriptor (TX6 k).2.2.1 = some (tyX6 k) := by decide +kernel
abbrev cX6_init : ByteArray := prog_8_method_1_code
def yX6_init : MethodName := ⟨RX6, "<init>", "()V"⟩
abbrev cX6_copyFrom : ByteArray := prog_8_method_2_code
def yX6_copyFrom : MethodName := ⟨RX6, "copyFrom", "(LSundialWorks$Wall;)V"⟩
abbrev cX6_isKnown : ByteArray := prog_8_method_3_code
def yX6_isKnown : MethodName := ⟨RX6, "isKnown", "(I)Z"⟩
def RX7 : String := "SundialWorks"
def TX7 : u_T := fun k => match k with
  | 0 => ("SundialWorks", "state", "LSundialWorks$State;", true)
  | 1 => ("SundialWorks", "history", "LSundialWorks$History;", true)
  | 2 => ("SundialWorks", "program", "LSundialWorks$Program;", true)
  | 3 => ("SundialWorks", "dial", "LSundialWorks$Dial;", true)
  | _ => ("SundialWorks", "shop", "LSundialWorks$Shop;", true)
def tyX7 : Nat → FieldType := fun k => match k with
  | 0 => .object "SundialWorks$State"
  | 1 => .object "SundialWorks$History"
  | 2 => .object "SundialWorks$Program"
  | 3 => .object "SundialWorks$Dial"
  | _ => .object "SundialWorks$Shop"
abbrev wsX70 : List Cond := u_ws RX7 TX7 5
theorem nmX7 : ∀ a, a < 5 → ∀ b, b < 5 → a ≠ b → (TX7 a).2.1 ≠ (TX7 b).2.1 := by decide +kernel
theorem tyX7_ok : ∀ k, k < 5 → parseFieldDescriptor (TX7 k).2.2.1 = some (tyX7 k) := by decide +kernel
abbrev cX7_init : ByteArray := prog_1_method_1_code
def yX7_init : MethodName := ⟨RX7, "<init>", "()V"⟩
abbrev cX7_setCorrection : ByteArray := prog_1_method_2_code
def yX7_setCorrection : MethodName := ⟨RX7, "setCorrection", "(II)I"⟩
abbrev cX7_set : ByteArray := prog_1_method_3_code
def yX7_set : MethodName := ⟨RX7, "set", "(II)I"⟩
abbrev cX7_addWall : ByteArray := prog_1_method_4_code
def yX7_addWall : MethodName := ⟨RX7, "addWall", "()I"⟩
abbrev cX7_measure : ByteArray := prog_1_method_5_code
def yX7_measure : MethodName := ⟨RX7, "measure", "(II)I"⟩
abbrev cX7_ask : ByteArray := prog_1_method_6_code
def yX7_ask : MethodName := ⟨RX7, "ask", "(IIII)I"⟩
abbrev cX7_decide : ByteArray := prog_1_method_7_code
def yX7_decide : MethodName := ⟨RX7, "decide", "(I)I"⟩
abbrev cX7_askAgain : ByteArray := prog_1_method_8_code
def yX7_askAgain : MethodName := ⟨RX7, "askAgain", "(I)I"⟩
abbrev cX7_cast : ByteArray := prog_1_method_9_code
def yX7_cast : MethodName := ⟨RX7, "cast", "()I"⟩
abbrev cX7_deliver : ByteArray := prog_1_method_10_code
def yX7_deliver : MethodName := ⟨RX7, "deliver", "(I)I"⟩
abbrev cX7_take : ByteArray := prog_1_method_11_code
def yX7_take : MethodName := ⟨RX7, "take", "(I)I"⟩
abbrev cX7_restore : ByteArray := prog_1_method_12_code
def yX7_restore : MethodName := ⟨RX7, "restore", "(I)I"⟩
abbrev cX7_undo : ByteArray := prog_1_method_13_code
def yX7_undo : MethodName := ⟨RX7, "undo", "()I"⟩
abbrev cX7_append : ByteArray := prog_1_method_14_code
def yX7_append : MethodName := ⟨RX7, "append", "(I)I"⟩
abbrev cX7_clearText : ByteArray := prog_1_method_15_code
def yX7_clearText : MethodName := ⟨RX7, "clearText", "()I"⟩
abbrev cX7_run : ByteArray := prog_1_method_16_code
def yX7_run : MethodName := ⟨RX7, "run", "()I"⟩
abbrev cX7_count : ByteArray := prog_1_method_17_code
def yX7_count : MethodName := ⟨RX7, "count", "(I)I"⟩
abbrev cX7_wall : ByteArray := prog_1_method_18_code
def yX7_wall : MethodName := ⟨RX7, "wall", "(II)I"⟩
abbrev cX7_commission : ByteArray := prog_1_method_19_code
def yX7_commission : MethodName := ⟨RX7, "commission", "(II)I"⟩
abbrev cX7_correction : ByteArray := prog_1_method_20_code
def yX7_correction : MethodName := ⟨RX7, "correction", "(I)I"⟩
abbrev cX7_sine : ByteArray := prog_1_method_21_code
def yX7_sine : MethodName := ⟨RX7, "sine", "(I)I"⟩
abbrev cX7_offset : ByteArray := prog_1_method_22_code
def yX7_offset : MethodName := ⟨RX7, "offset", "(II)I"⟩
abbrev cX7_lines : ByteArray := prog_1_method_23_code
def yX7_lines : MethodName := ⟨RX7, "lines", "(II)I"⟩
abbrev cX7_read : ByteArray := prog_1_method_24_code
def yX7_read : MethodName := ⟨RX7, "read", "(IIII)I"⟩
abbrev cX7_apart : ByteArray := prog_1_method_25_code
def yX7_apart : MethodName := ⟨RX7, "apart", "(II)I"⟩
abbrev cX7_reason : ByteArray := prog_1_method_26_code
def yX7_reason : MethodName := ⟨RX7, "reason", "(I)I"⟩
abbrev cX7_bestLatitude : ByteArray := prog_1_method_27_code
def yX7_bestLatitude : MethodName := ⟨RX7, "bestLatitude", "(I)I"⟩
abbrev cX7_melts : ByteArray := prog_1_method_28_code
def yX7_melts : MethodName := ⟨RX7, "melts", "()I"⟩
abbrev cX7_recorded : ByteArray := prog_1_method_29_code
def yX7_recorded : MethodName := ⟨RX7, "recorded", "(I)I"⟩
abbrev cX7_failedAt : ByteArray := prog_1_method_30_code
def yX7_failedAt : MethodName := ⟨RX7, "failedAt", "(I)I"⟩
abbrev cX7_perform : ByteArray := prog_1_method_31_code
def yX7_perform : MethodName := ⟨RX7, "perform", "(I)I"⟩
abbrev cX7_judge : ByteArray := prog_1_method_32_code
def yX7_judge : MethodName := ⟨RX7, "judge", "(I)I"⟩
abbrev cX7_layDial : ByteArray := prog_1_method_33_code
def yX7_layDial : MethodName := ⟨RX7, "layDial", "(I)Z"⟩
abbrev cX7_isError : ByteArray := prog_1_method_34_code
def yX7_isError : MethodName := ⟨RX7, "isError", "(I)Z"⟩
abbrev cX7_isWithin : ByteArray := prog_1_method_35_code
def yX7_isWithin : MethodName := ⟨RX7, "isWithin", "(III)Z"⟩
abbrev cX7_rounded : ByteArray := prog_1_method_36_code
def yX7_rounded : MethodName := ⟨RX7, "rounded", "(JJ)J"⟩
abbrev cX7_sineOf : ByteArray := prog_1_method_37_code
def yX7_sineOf : MethodName := ⟨RX7, "sineOf", "(I)I"⟩
def RX8 : String := "SundialWorksModel"
def TX8 : u_T := fun k => match k with
  | 0 => ("SundialWorksModel", "thrown", "I", false)
  | 1 => ("SundialWorksModel", "s", "[I", true)
  | 2 => ("SundialWorksModel", "aside", "[I", true)
  | 3 => ("SundialWorksModel", "saved", "[I", true)
  | 4 => ("SundialWorksModel", "savedMany", "I", false)
  | 5 => ("SundialWorksModel", "text", "[I", true)
  | 6 => ("SundialWorksModel", "length", "I", false)
  | 7 => ("SundialWorksModel", "numbers", "[I", true)
  | 8 => ("SundialWorksModel", "offsets", "[I", true)
  | 9 => ("SundialWorksModel", "isOn", "[Z", true)
  | 10 => ("SundialWorksModel", "states", "[I", true)
  | 11 => ("SundialWorksModel", "token", "I", false)
  | 12 => ("SundialWorksModel", "from", "I", false)
  | 13 => ("SundialWorksModel", "till", "I", false)
  | _ => ("SundialWorksModel", "fault", "I", false)
def tyX8 : Nat → FieldType := fun k => match k with
  | 0 => .int
  | 1 => .array .int
  | 2 => .array .int
  | 3 => .array .int
  | 4 => .int
  | 5 => .array .int
  | 6 => .int
  | 7 => .array .int
  | 8 => .array .int
  | 9 => .array .boolean
  | 10 => .array .int
  | 11 => .int
  | 12 => .int
  | 13 => .int
  | _ => .int
abbrev wsX80 : List Cond := u_ws RX8 TX8 15
theorem nmX8 : ∀ a, a < 15 → ∀ b, b < 15 → a ≠ b → (TX8 a).2.1 ≠ (TX8 b).2.1 := by decide +kernel
theorem tyX8_ok : ∀ k, k < 15 → parseFieldDescriptor (TX8 k).2.2.1 = some (tyX8 k) := by decide +kernel
abbrev cX8_init : ByteArray := prog_10_method_1_code
def yX8_init : MethodName := ⟨RX8, "<init>", "()V"⟩
abbrev cX8_in : ByteArray := prog_10_method_3_code
def yX8_in : MethodName := ⟨RX8, "in", "(III)Z"⟩
abbrev cX8_size : ByteArray := prog_10_method_4_code
def yX8_size : MethodName := ⟨RX8, "size", "(I)I"⟩
abbrev cX8_act : ByteArray := prog_10_method_5_code
def yX8_act : MethodName := ⟨RX8, "act", "()V"⟩
abbrev cX8_rounded : ByteArray := prog_10_method_6_code
def yX8_rounded : MethodName := ⟨RX8, "rounded", "(JJ)J"⟩
abbrev cX8_sineOf : ByteArray := prog_10_method_7_code
def yX8_sineOf : MethodName := ⟨RX8, "sineOf", "(I)J"⟩
abbrev cX8_cosineOf : ByteArray := prog_10_method_8_code
def yX8_cosineOf : MethodName := ⟨RX8, "cosineOf", "(I)J"⟩
abbrev cX8_sideOf : ByteArray := prog_10_method_9_code
def yX8_sideOf : MethodName := ⟨RX8, "sideOf", "(IZI)J"⟩
abbrev cX8_frontOf : ByteArray := prog_10_method_10_code
def yX8_frontOf : MethodName := ⟨RX8, "frontOf", "(IZII)J"⟩
abbrev cX8_reckon : ByteArray := prog_10_method_11_code
def yX8_reckon : MethodName := ⟨RX8, "reckon", "(IZI)V"⟩
abbrev cX8_has : ByteArray := prog_10_method_12_code
def yX8_has : MethodName := ⟨RX8, "has", "(I)Z"⟩
abbrev cX8_off : ByteArray := prog_10_method_13_code
def yX8_off : MethodName := ⟨RX8, "off", "(I)I"⟩
abbrev cX8_byLines : ByteArray := prog_10_method_14_code
def yX8_byLines : MethodName := ⟨RX8, "byLines", "(I)I"⟩
abbrev cX8_byShadow : ByteArray := prog_10_method_15_code
def yX8_byShadow : MethodName := ⟨RX8, "byShadow", "(I)I"⟩
abbrev cX8_apartOf : ByteArray := prog_10_method_16_code
def yX8_apartOf : MethodName := ⟨RX8, "apartOf", "(I)I"⟩
abbrev cX8_hourLines : ByteArray := prog_10_method_17_code
def yX8_hourLines : MethodName := ⟨RX8, "hourLines", "()I"⟩
abbrev cX8_of : ByteArray := prog_10_method_18_code
def yX8_of : MethodName := ⟨RX8, "of", "(II)I"⟩
abbrev cX8_put : ByteArray := prog_10_method_19_code
def yX8_put : MethodName := ⟨RX8, "put", "(III)V"⟩
abbrev cX8_isWall : ByteArray := prog_10_method_20_code
def yX8_isWall : MethodName := ⟨RX8, "isWall", "(I)Z"⟩
abbrev cX8_isCommission : ByteArray := prog_10_method_21_code
def yX8_isCommission : MethodName := ⟨RX8, "isCommission", "(I)Z"⟩
abbrev cX8_isBit : ByteArray := prog_10_method_22_code
def yX8_isBit : MethodName := ⟨RX8, "isBit", "(I)Z"⟩
abbrev cX8_setCorrection : ByteArray := prog_10_method_23_code
def yX8_setCorrection : MethodName := ⟨RX8, "setCorrection", "(II)I"⟩
abbrev cX8_leastOf : ByteArray := prog_10_method_24_code
def yX8_leastOf : MethodName := ⟨RX8, "leastOf", "(I)I"⟩
abbrev cX8_mostOf : ByteArray := prog_10_method_25_code
def yX8_mostOf : MethodName := ⟨RX8, "mostOf", "(I)I"⟩
abbrev cX8_set : ByteArray := prog_10_method_26_code
def yX8_set : MethodName := ⟨RX8, "set", "(II)I"⟩
abbrev cX8_wallCode : ByteArray := prog_10_method_27_code
def yX8_wallCode : MethodName := ⟨RX8, "wallCode", "()I"⟩
abbrev cX8_wallNow : ByteArray := prog_10_method_28_code
def yX8_wallNow : MethodName := ⟨RX8, "wallNow", "()I"⟩
abbrev cX8_addWall : ByteArray := prog_10_method_29_code
def yX8_addWall : MethodName := ⟨RX8, "addWall", "()I"⟩
abbrev cX8_declinationOfWall : ByteArray := prog_10_method_30_code
def yX8_declinationOfWall : MethodName := ⟨RX8, "declinationOfWall", "(I)I"⟩
abbrev cX8_measureCode : ByteArray := prog_10_method_31_code
def yX8_measureCode : MethodName := ⟨RX8, "measureCode", "(II)I"⟩
abbrev cX8_measureNow : ByteArray := prog_10_method_32_code
def yX8_measureNow : MethodName := ⟨RX8, "measureNow", "(II)I"⟩
abbrev cX8_measure : ByteArray := prog_10_method_33_code
def yX8_measure : MethodName := ⟨RX8, "measure", "(II)I"⟩
abbrev cX8_declinationOf : ByteArray := prog_10_method_34_code
def yX8_declinationOf : MethodName := ⟨RX8, "declinationOf", "(I)I"⟩
abbrev cX8_takeDial : ByteArray := prog_10_method_35_code
def yX8_takeDial : MethodName := ⟨RX8, "takeDial", "(I)Z"⟩
abbrev cX8_weightOf : ByteArray := prog_10_method_36_code
def yX8_weightOf : MethodName := ⟨RX8, "weightOf", "(I)I"⟩
abbrev cX8_reasonFor : ByteArray := prog_10_method_37_code
def yX8_reasonFor : MethodName := ⟨RX8, "reasonFor", "(I)I"⟩
abbrev cX8_askCode : ByteArray := prog_10_method_38_code
def yX8_askCode : MethodName := ⟨RX8, "askCode", "(IIII)I"⟩
abbrev cX8_askNow : ByteArray := prog_10_method_39_code
def yX8_askNow : MethodName := ⟨RX8, "askNow", "(IIII)I"⟩
abbrev cX8_ask : ByteArray := prog_10_method_40_code
def yX8_ask : MethodName := ⟨RX8, "ask", "(IIII)I"⟩
abbrev cX8_stateCode : ByteArray := prog_10_method_41_code
def yX8_stateCode : MethodName := ⟨RX8, "stateCode", "(II)I"⟩
abbrev cX8_decideNow : ByteArray := prog_10_method_42_code
def yX8_decideNow : MethodName := ⟨RX8, "decideNow", "(I)I"⟩
abbrev cX8_decide : ByteArray := prog_10_method_43_code
def yX8_decide : MethodName := ⟨RX8, "decide", "(I)I"⟩
abbrev cX8_askAgain : ByteArray := prog_10_method_44_code
def yX8_askAgain : MethodName := ⟨RX8, "askAgain", "(I)I"⟩
abbrev cX8_melt : ByteArray := prog_10_method_45_code
def yX8_melt : MethodName := ⟨RX8, "melt", "()I"⟩
abbrev cX8_takeStates : ByteArray := prog_10_method_46_code
def yX8_takeStates : MethodName := ⟨RX8, "takeStates", "()V"⟩
abbrev cX8_castCode : ByteArray := prog_10_method_47_code
def yX8_castCode : MethodName := ⟨RX8, "castCode", "()I"⟩
abbrev cX8_castNow : ByteArray := prog_10_method_48_code
def yX8_castNow : MethodName := ⟨RX8, "castNow", "()I"⟩
abbrev cX8_cast : ByteArray := prog_10_method_49_code
def yX8_cast : MethodName := ⟨RX8, "cast", "()I"⟩
abbrev cX8_inState : ByteArray := prog_10_method_50_code
def yX8_inState : MethodName := ⟨RX8, "inState", "(I)I"⟩
abbrev cX8_deliverNow : ByteArray := prog_10_method_51_code
def yX8_deliverNow : MethodName := ⟨RX8, "deliverNow", "(I)I"⟩
abbrev cX8_deliver : ByteArray := prog_10_method_52_code
def yX8_deliver : MethodName := ⟨RX8, "deliver", "(I)I"⟩
abbrev cX8_slotAt : ByteArray := prog_10_method_53_code
def yX8_slotAt : MethodName := ⟨RX8, "slotAt", "(I)I"⟩
abbrev cX8_take : ByteArray := prog_10_method_54_code
def yX8_take : MethodName := ⟨RX8, "take", "(I)I"⟩
abbrev cX8_restore : ByteArray := prog_10_method_55_code
def yX8_restore : MethodName := ⟨RX8, "restore", "(I)I"⟩
abbrev cX8_undo : ByteArray := prog_10_method_56_code
def yX8_undo : MethodName := ⟨RX8, "undo", "()I"⟩
abbrev cX8_append : ByteArray := prog_10_method_57_code
def yX8_append : MethodName := ⟨RX8, "append", "(I)I"⟩
abbrev cX8_clearText : ByteArray := prog_10_method_58_code
def yX8_clearText : MethodName := ⟨RX8, "clearText", "()I"⟩
abbrev cX8_at : ByteArray := prog_10_method_59_code
def yX8_at : MethodName := ⟨RX8, "at", "(I)I"⟩
abbrev cX8_next : ByteArray := prog_10_method_60_code
def yX8_next : MethodName := ⟨RX8, "next", "()V"⟩
abbrev cX8_fail : ByteArray := prog_10_method_61_code
def yX8_fail : MethodName := ⟨RX8, "fail", "(I)V"⟩
abbrev cX8_spelled : ByteArray := prog_10_method_62_code
def yX8_spelled : MethodName := ⟨RX8, "spelled", "(IIIIIII)I"⟩
abbrev cX8_letterOf : ByteArray := prog_10_method_63_code
def yX8_letterOf : MethodName := ⟨RX8, "letterOf", "(II)I"⟩
abbrev cX8_isWord : ByteArray := prog_10_method_64_code
def yX8_isWord : MethodName := ⟨RX8, "isWord", "(I)Z"⟩
abbrev cX8_wordHere : ByteArray := prog_10_method_65_code
def yX8_wordHere : MethodName := ⟨RX8, "wordHere", "()I"⟩
abbrev cX8_numbersOf : ByteArray := prog_10_method_66_code
def yX8_numbersOf : MethodName := ⟨RX8, "numbersOf", "(I)I"⟩
abbrev cX8_readNumber : ByteArray := prog_10_method_67_code
def yX8_readNumber : MethodName := ⟨RX8, "readNumber", "(II)V"⟩
abbrev cX8_codeOf : ByteArray := prog_10_method_68_code
def yX8_codeOf : MethodName := ⟨RX8, "codeOf", "(IIII)I"⟩
abbrev cX8_carry : ByteArray := prog_10_method_69_code
def yX8_carry : MethodName := ⟨RX8, "carry", "(IIII)I"⟩
abbrev cX8_command : ByteArray := prog_10_method_70_code
def yX8_command : MethodName := ⟨RX8, "command", "()I"⟩
abbrev cX8_run : ByteArray := prog_10_method_71_code
def yX8_run : MethodName := ⟨RX8, "run", "()I"⟩
abbrev cX8_knownWalls : ByteArray := prog_10_method_72_code
def yX8_knownWalls : MethodName := ⟨RX8, "knownWalls", "()I"⟩
abbrev cX8_count : ByteArray := prog_10_method_73_code
def yX8_count : MethodName := ⟨RX8, "count", "(I)I"⟩
abbrev cX8_commissionsFor : ByteArray := prog_10_method_74_code
def yX8_commissionsFor : MethodName := ⟨RX8, "commissionsFor", "(I)I"⟩
abbrev cX8_wall : ByteArray := prog_10_method_75_code
def yX8_wall : MethodName := ⟨RX8, "wall", "(II)I"⟩
abbrev cX8_commission : ByteArray := prog_10_method_76_code
def yX8_commission : MethodName := ⟨RX8, "commission", "(II)I"⟩
abbrev cX8_correction : ByteArray := prog_10_method_77_code
def yX8_correction : MethodName := ⟨RX8, "correction", "(I)I"⟩
abbrev cX8_sine : ByteArray := prog_10_method_78_code
def yX8_sine : MethodName := ⟨RX8, "sine", "(I)I"⟩
abbrev cX8_offset : ByteArray := prog_10_method_79_code
def yX8_offset : MethodName := ⟨RX8, "offset", "(II)I"⟩
abbrev cX8_lines : ByteArray := prog_10_method_80_code
def yX8_lines : MethodName := ⟨RX8, "lines", "(II)I"⟩
abbrev cX8_read : ByteArray := prog_10_method_81_code
def yX8_read : MethodName := ⟨RX8, "read", "(IIII)I"⟩
abbrev cX8_apart : ByteArray := prog_10_method_82_code
def yX8_apart : MethodName := ⟨RX8, "apart", "(II)I"⟩
abbrev cX8_reason : ByteArray := prog_10_method_83_code
def yX8_reason : MethodName := ⟨RX8, "reason", "(I)I"⟩
abbrev cX8_bestLatitude : ByteArray := prog_10_method_84_code
def yX8_bestLatitude : MethodName := ⟨RX8, "bestLatitude", "(I)I"⟩
abbrev cX8_melts : ByteArray := prog_10_method_85_code
def yX8_melts : MethodName := ⟨RX8, "melts", "()I"⟩
def RJ6 : String := "java/lang/Integer"
def TJ6 : u_T := fun k => match k with
  | _ => ("", "", "", false)
def tyJ6 : Nat → FieldType := fun k => match k with
  | _ => .int
abbrev wsJ60 : List Cond := u_ws RJ6 TJ6 0
theorem nmJ6 : ∀ a, a < 0 → ∀ b, b < 0 → a ≠ b → (TJ6 a).2.1 ≠ (TJ6 b).2.1 := by decide +kernel
theorem tyJ6_ok : ∀ k, k < 0 → parseFieldDescriptor (TJ6 k).2.2.1 = some (tyJ6 k) := by decide +kernel
abbrev cJ6_bitCount_0f7a4 : ByteArray := prog_11_method_49_code
def yJ6_bitCount_0f7a4 : MethodName := ⟨RJ6, "bitCount", "(I)I"⟩
def RJ9 : String := "java/lang/Math"
def TJ9 : u_T := fun k => match k with
  | _ => ("", "", "", false)
def tyJ9 : Nat → FieldType := fun k => match k with
  | _ => .int
abbrev wsJ90 : List Cond := u_ws RJ9 TJ9 0
theorem nmJ9 : ∀ a, a < 0 → ∀ b, b < 0 → a ≠ b → (TJ9 a).2.1 ≠ (TJ9 b).2.1 := by decide +kernel
theorem tyJ9_ok : ∀ k, k < 0 → parseFieldDescriptor (TJ9 k).2.2.1 = some (tyJ9 k) := by decide +kernel
abbrev cJ9_abs_0f7a4 : ByteArray := prog_12_method_59_code
def yJ9_abs_0f7a4 : MethodName := ⟨RJ9, "abs", "(I)I"⟩
abbrev cJ9_min_7cf53 : ByteArray := prog_12_method_69_code
def yJ9_min_7cf53 : MethodName := ⟨RJ9, "min", "(II)I"⟩
def RJ0 : String := "java/lang/String"
def TJ0 : u_T := fun k => match k with
  | _ => ("", "", "", false)
def tyJ0 : Nat → FieldType := fun k => match k with
  | _ => .int
abbrev wsJ00 : List Cond := u_ws RJ0 TJ0 0
theorem nmJ0 : ∀ a, a < 0 → ∀ b, b < 0 → a ≠ b → (TJ0 a).2.1 ≠ (TJ0 b).2.1 := by decide +kernel
theorem tyJ0_ok : ∀ k, k < 0 → parseFieldDescriptor (TJ0 k).2.2.1 = some (tyJ0 k) := by decide +kernel
abbrev cJ0_length_8abf5 : ByteArray := prog_13_method_54_code
def yJ0_length_8abf5 : MethodName := ⟨RJ0, "length", "()I"⟩
abbrev cJ0_charAt_5068e : ByteArray := prog_13_method_56_code
def yJ0_charAt_5068e : MethodName := ⟨RJ0, "charAt", "(I)C"⟩
abbrev cJ0_coder_7d493 : ByteArray := prog_13_method_152_code
def yJ0_coder_7d493 : MethodName := ⟨RJ0, "coder", "()B"⟩
abbrev cJ0_isLatin1_aae02 : ByteArray := prog_13_method_154_code
def yJ0_isLatin1_aae02 : MethodName := ⟨RJ0, "isLatin1", "()Z"⟩
abbrev cJ0_checkIndex_df160 : ByteArray := prog_13_method_155_code
def yJ0_checkIndex_df160 : MethodName := ⟨RJ0, "checkIndex", "(II)V"⟩
def RJ1 : String := "java/lang/StringLatin1"
def TJ1 : u_T := fun k => match k with
  | _ => ("", "", "", false)
def tyJ1 : Nat → FieldType := fun k => match k with
  | _ => .int
abbrev wsJ10 : List Cond := u_ws RJ1 TJ1 0
theorem nmJ1 : ∀ a, a < 0 → ∀ b, b < 0 → a ≠ b → (TJ1 a).2.1 ≠ (TJ1 b).2.1 := by decide +kernel
theorem tyJ1_ok : ∀ k, k < 0 → parseFieldDescriptor (TJ1 k).2.2.1 = some (tyJ1 k) := by decide +kernel
abbrev cJ1_charAt_3b067 : ByteArray := prog_14_method_2_code
def yJ1_charAt_3b067 : MethodName := ⟨RJ1, "charAt", "([BI)C"⟩
def RJ2 : String := "java/lang/StringUTF16"
def TJ2 : u_T := fun k => match k with
  | _ => ("", "", "", false)
def tyJ2 : Nat → FieldType := fun k => match k with
  | _ => .int
abbrev wsJ20 : List Cond := u_ws RJ2 TJ2 0
theorem nmJ2 : ∀ a, a < 0 → ∀ b, b < 0 → a ≠ b → (TJ2 a).2.1 ≠ (TJ2 b).2.1 := by decide +kernel
theorem tyJ2_ok : ∀ k, k < 0 → parseFieldDescriptor (TJ2 k).2.2.1 = some (tyJ2 k) := by decide +kernel
abbrev cJ2_getChar_3b067 : ByteArray := prog_15_method_5_code
def yJ2_getChar_3b067 : MethodName := ⟨RJ2, "getChar", "([BI)C"⟩
abbrev cJ2_length_9d52b : ByteArray := prog_15_method_6_code
def yJ2_length_9d52b : MethodName := ⟨RJ2, "length", "([B)I"⟩
abbrev cJ2_charAt_3b067 : ByteArray := prog_15_method_83_code
def yJ2_charAt_3b067 : MethodName := ⟨RJ2, "charAt", "([BI)C"⟩
abbrev cJ2_checkIndex_2214a : ByteArray := prog_15_method_91_code
def yJ2_checkIndex_2214a : MethodName := ⟨RJ2, "checkIndex", "(I[B)V"⟩
def RJ10 : String := "java/lang/System"
def TJ10 : u_T := fun k => match k with
  | _ => ("", "", "", false)
def tyJ10 : Nat → FieldType := fun k => match k with
  | _ => .int
abbrev wsJ100 : List Cond := u_ws RJ10 TJ10 0
theorem nmJ10 : ∀ a, a < 0 → ∀ b, b < 0 → a ≠ b → (TJ10 a).2.1 ≠ (TJ10 b).2.1 := by decide +kernel
theorem tyJ10_ok : ∀ k, k < 0 → parseFieldDescriptor (TJ10 k).2.2.1 = some (tyJ10 k) := by decide +kernel
def RJ3 : String := "jdk/internal/util/Preconditions"
def TJ3 : u_T := fun k => match k with
  | _ => ("", "", "", false)
def tyJ3 : Nat → FieldType := fun k => match k with
  | _ => .int
abbrev wsJ30 : List Cond := u_ws RJ3 TJ3 0
theorem nmJ3 : ∀ a, a < 0 → ∀ b, b < 0 → a ≠ b → (TJ3 a).2.1 ≠ (TJ3 b).2.1 := by decide +kernel
theorem tyJ3_ok : ∀ k, k < 0 → parseFieldDescriptor (TJ3 k).2.2.1 = some (tyJ3 k) := by decide +kernel
abbrev cJ3_checkIndex_8e157 : ByteArray := prog_17_method_11_code
def yJ3_checkIndex_8e157 : MethodName := ⟨RJ3, "checkIndex", "(IILjava/util/function/BiFunction;)I"⟩
def RL : String := "SundialWorksLaw"
abbrev cL_law : ByteArray := code
def yL_law : MethodName := ⟨RL, "law", "([I)Z"⟩
