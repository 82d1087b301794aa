section
-- ===== PART A: goes FIRST, ahead of the names: the tables' words, and 'selects' of the private methods out of them =====
/-- a private method of a class that the tables say can be made, by its rows of tables_1 -/
def lw_okq (q : MethodName × Nat) : Prop := (q.1.cls ≠ "java/lang/invoke/MethodHandle" ∧ q.1.cls ≠ "java/lang/invoke/VarHandle") ∧ Cond.instantiable q.1.cls q.2 ∈ tables_1 ∧ Cond.privateMethod q.1 ∈ tables_1 ∧ Cond.instanceMethod q.1 ∈ tables_1
theorem lw_p0 : lw_okq (⟨"SundialWorks", "recorded", "(I)I"⟩, 5) := ⟨⟨by decide +kernel, by decide +kernel⟩, List.mem_of_getElem? (i := 18) (by decide +kernel), List.mem_of_getElem? (i := 269) (by decide +kernel), List.mem_of_getElem? (i := 270) (by decide +kernel)⟩
theorem lw_p1 : lw_okq (⟨"SundialWorks", "judge", "(I)I"⟩, 5) := ⟨⟨by decide +kernel, by decide +kernel⟩, List.mem_of_getElem? (i := 18) (by decide +kernel), List.mem_of_getElem? (i := 339) (by decide +kernel), List.mem_of_getElem? (i := 340) (by decide +kernel)⟩
theorem lw_p2 : lw_okq (⟨"SundialWorks", "layDial", "(I)Z"⟩, 5) := ⟨⟨by decide +kernel, by decide +kernel⟩, List.mem_of_getElem? (i := 18) (by decide +kernel), List.mem_of_getElem? (i := 347) (by decide +kernel), List.mem_of_getElem? (i := 348) (by decide +kernel)⟩
theorem lw_p3 : lw_okq (⟨"SundialWorks", "failedAt", "(I)I"⟩, 5) := ⟨⟨by decide +kernel, by decide +kernel⟩, List.mem_of_getElem? (i := 18) (by decide +kernel), List.mem_of_getElem? (i := 609) (by decide +kernel), List.mem_of_getElem? (i := 610) (by decide +kernel)⟩
theorem lw_p4 : lw_okq (⟨"SundialWorks", "perform", "(I)I"⟩, 5) := ⟨⟨by decide +kernel, by decide +kernel⟩, List.mem_of_getElem? (i := 18) (by decide +kernel), List.mem_of_getElem? (i := 614) (by decide +kernel), List.mem_of_getElem? (i := 615) (by decide +kernel)⟩
theorem lw_p5 : lw_okq (⟨"SundialWorksModel", "act", "()V"⟩, 15) := ⟨⟨by decide +kernel, by decide +kernel⟩, List.mem_of_getElem? (i := 702) (by decide +kernel), List.mem_of_getElem? (i := 762) (by decide +kernel), List.mem_of_getElem? (i := 763) (by decide +kernel)⟩
theorem lw_p6 : lw_okq (⟨"SundialWorksModel", "wallCode", "()I"⟩, 15) := ⟨⟨by decide +kernel, by decide +kernel⟩, List.mem_of_getElem? (i := 702) (by decide +kernel), List.mem_of_getElem? (i := 780) (by decide +kernel), List.mem_of_getElem? (i := 781) (by decide +kernel)⟩
theorem lw_p7 : lw_okq (⟨"SundialWorksModel", "wallNow", "()I"⟩, 15) := ⟨⟨by decide +kernel, by decide +kernel⟩, List.mem_of_getElem? (i := 702) (by decide +kernel), List.mem_of_getElem? (i := 785) (by decide +kernel), List.mem_of_getElem? (i := 786) (by decide +kernel)⟩
theorem lw_p8 : lw_okq (⟨"SundialWorksModel", "measureCode", "(II)I"⟩, 15) := ⟨⟨by decide +kernel, by decide +kernel⟩, List.mem_of_getElem? (i := 702) (by decide +kernel), List.mem_of_getElem? (i := 794) (by decide +kernel), List.mem_of_getElem? (i := 795) (by decide +kernel)⟩
theorem lw_p9 : lw_okq (⟨"SundialWorksModel", "isWall", "(I)Z"⟩, 15) := ⟨⟨by decide +kernel, by decide +kernel⟩, List.mem_of_getElem? (i := 702) (by decide +kernel), List.mem_of_getElem? (i := 798) (by decide +kernel), List.mem_of_getElem? (i := 799) (by decide +kernel)⟩
theorem lw_p10 : lw_okq (⟨"SundialWorksModel", "measureNow", "(II)I"⟩, 15) := ⟨⟨by decide +kernel, by decide +kernel⟩, List.mem_of_getElem? (i := 702) (by decide +kernel), List.mem_of_getElem? (i := 802) (by decide +kernel), List.mem_of_getElem? (i := 803) (by decide +kernel)⟩
theorem lw_p11 : lw_okq (⟨"SundialWorksModel", "declinationOfWall", "(I)I"⟩, 15) := ⟨⟨by decide +kernel, by decide +kernel⟩, List.mem_of_getElem? (i := 702) (by decide +kernel), List.mem_of_getElem? (i := 806) (by decide +kernel), List.mem_of_getElem? (i := 807) (by decide +kernel)⟩
theorem lw_p12 : lw_okq (⟨"SundialWorksModel", "askCode", "(IIII)I"⟩, 15) := ⟨⟨by decide +kernel, by decide +kernel⟩, List.mem_of_getElem? (i := 702) (by decide +kernel), List.mem_of_getElem? (i := 821) (by decide +kernel), List.mem_of_getElem? (i := 822) (by decide +kernel)⟩
theorem lw_p13 : lw_okq (⟨"SundialWorksModel", "askNow", "(IIII)I"⟩, 15) := ⟨⟨by decide +kernel, by decide +kernel⟩, List.mem_of_getElem? (i := 702) (by decide +kernel), List.mem_of_getElem? (i := 825) (by decide +kernel), List.mem_of_getElem? (i := 826) (by decide +kernel)⟩
theorem lw_p14 : lw_okq (⟨"SundialWorksModel", "put", "(III)V"⟩, 15) := ⟨⟨by decide +kernel, by decide +kernel⟩, List.mem_of_getElem? (i := 702) (by decide +kernel), List.mem_of_getElem? (i := 829) (by decide +kernel), List.mem_of_getElem? (i := 830) (by decide +kernel)⟩
theorem lw_p15 : lw_okq (⟨"SundialWorksModel", "stateCode", "(II)I"⟩, 15) := ⟨⟨by decide +kernel, by decide +kernel⟩, List.mem_of_getElem? (i := 702) (by decide +kernel), List.mem_of_getElem? (i := 837) (by decide +kernel), List.mem_of_getElem? (i := 838) (by decide +kernel)⟩
def lw_privs_1 : List (MethodName × Nat) := [(⟨"SundialWorks", "recorded", "(I)I"⟩, 5), (⟨"SundialWorks", "judge", "(I)I"⟩, 5), (⟨"SundialWorks", "layDial", "(I)Z"⟩, 5), (⟨"SundialWorks", "failedAt", "(I)I"⟩, 5), (⟨"SundialWorks", "perform", "(I)I"⟩, 5), (⟨"SundialWorksModel", "act", "()V"⟩, 15), (⟨"SundialWorksModel", "wallCode", "()I"⟩, 15), (⟨"SundialWorksModel", "wallNow", "()I"⟩, 15), (⟨"SundialWorksModel", "measureCode", "(II)I"⟩, 15), (⟨"SundialWorksModel", "isWall", "(I)Z"⟩, 15), (⟨"SundialWorksModel", "measureNow", "(II)I"⟩, 15), (⟨"SundialWorksModel", "declinationOfWall", "(I)I"⟩, 15), (⟨"SundialWorksModel", "askCode", "(IIII)I"⟩, 15), (⟨"SundialWorksModel", "askNow", "(IIII)I"⟩, 15), (⟨"SundialWorksModel", "put", "(III)V"⟩, 15), (⟨"SundialWorksModel", "stateCode", "(II)I"⟩, 15)]
theorem lw_r1 : ∀ q ∈ lw_privs_1, lw_okq q := List.forall_mem_cons.mpr ⟨lw_p0, List.forall_mem_cons.mpr ⟨lw_p1, List.forall_mem_cons.mpr ⟨lw_p2, List.forall_mem_cons.mpr ⟨lw_p3, List.forall_mem_cons.mpr ⟨lw_p4, List.forall_mem_cons.mpr ⟨lw_p5, List.forall_mem_cons.mpr ⟨lw_p6, List.forall_mem_cons.mpr ⟨lw_p7, List.forall_mem_cons.mpr ⟨lw_p8, List.forall_mem_cons.mpr ⟨lw_p9, List.forall_mem_cons.mpr ⟨lw_p10, List.forall_mem_cons.mpr ⟨lw_p11, List.forall_mem_cons.mpr ⟨lw_p12, List.forall_mem_cons.mpr ⟨lw_p13, List.forall_mem_cons.mpr ⟨lw_p14, List.forall_mem_cons.mpr ⟨lw_p15, fun _ h => absurd h List.not_mem_nil⟩⟩⟩⟩⟩⟩⟩⟩⟩⟩⟩⟩⟩⟩⟩⟩
theorem lw_p16 : lw_okq (⟨"SundialWorksModel", "isCommission", "(I)Z"⟩, 15) := ⟨⟨by decide +kernel, by decide +kernel⟩, List.mem_of_getElem? (i := 702) (by decide +kernel), List.mem_of_getElem? (i := 841) (by decide +kernel), List.mem_of_getElem? (i := 842) (by decide +kernel)⟩
theorem lw_p17 : lw_okq (⟨"SundialWorksModel", "of", "(II)I"⟩, 15) := ⟨⟨by decide +kernel, by decide +kernel⟩, List.mem_of_getElem? (i := 702) (by decide +kernel), List.mem_of_getElem? (i := 845) (by decide +kernel), List.mem_of_getElem? (i := 846) (by decide +kernel)⟩
theorem lw_p18 : lw_okq (⟨"SundialWorksModel", "decideNow", "(I)I"⟩, 15) := ⟨⟨by decide +kernel, by decide +kernel⟩, List.mem_of_getElem? (i := 702) (by decide +kernel), List.mem_of_getElem? (i := 850) (by decide +kernel), List.mem_of_getElem? (i := 851) (by decide +kernel)⟩
theorem lw_p19 : lw_okq (⟨"SundialWorksModel", "reasonFor", "(I)I"⟩, 15) := ⟨⟨by decide +kernel, by decide +kernel⟩, List.mem_of_getElem? (i := 702) (by decide +kernel), List.mem_of_getElem? (i := 854) (by decide +kernel), List.mem_of_getElem? (i := 855) (by decide +kernel)⟩
theorem lw_p20 : lw_okq (⟨"SundialWorksModel", "takeDial", "(I)Z"⟩, 15) := ⟨⟨by decide +kernel, by decide +kernel⟩, List.mem_of_getElem? (i := 702) (by decide +kernel), List.mem_of_getElem? (i := 858) (by decide +kernel), List.mem_of_getElem? (i := 859) (by decide +kernel)⟩
theorem lw_p21 : lw_okq (⟨"SundialWorksModel", "declinationOf", "(I)I"⟩, 15) := ⟨⟨by decide +kernel, by decide +kernel⟩, List.mem_of_getElem? (i := 702) (by decide +kernel), List.mem_of_getElem? (i := 862) (by decide +kernel), List.mem_of_getElem? (i := 863) (by decide +kernel)⟩
theorem lw_p22 : lw_okq (⟨"SundialWorksModel", "reckon", "(IZI)V"⟩, 15) := ⟨⟨by decide +kernel, by decide +kernel⟩, List.mem_of_getElem? (i := 702) (by decide +kernel), List.mem_of_getElem? (i := 866) (by decide +kernel), List.mem_of_getElem? (i := 867) (by decide +kernel)⟩
theorem lw_p23 : lw_okq (⟨"SundialWorksModel", "hourLines", "()I"⟩, 15) := ⟨⟨by decide +kernel, by decide +kernel⟩, List.mem_of_getElem? (i := 702) (by decide +kernel), List.mem_of_getElem? (i := 888) (by decide +kernel), List.mem_of_getElem? (i := 889) (by decide +kernel)⟩
theorem lw_p24 : lw_okq (⟨"SundialWorksModel", "has", "(I)Z"⟩, 15) := ⟨⟨by decide +kernel, by decide +kernel⟩, List.mem_of_getElem? (i := 702) (by decide +kernel), List.mem_of_getElem? (i := 892) (by decide +kernel), List.mem_of_getElem? (i := 893) (by decide +kernel)⟩
theorem lw_p25 : lw_okq (⟨"SundialWorksModel", "apartOf", "(I)I"⟩, 15) := ⟨⟨by decide +kernel, by decide +kernel⟩, List.mem_of_getElem? (i := 702) (by decide +kernel), List.mem_of_getElem? (i := 896) (by decide +kernel), List.mem_of_getElem? (i := 897) (by decide +kernel)⟩
theorem lw_p26 : lw_okq (⟨"SundialWorksModel", "off", "(I)I"⟩, 15) := ⟨⟨by decide +kernel, by decide +kernel⟩, List.mem_of_getElem? (i := 702) (by decide +kernel), List.mem_of_getElem? (i := 900) (by decide +kernel), List.mem_of_getElem? (i := 901) (by decide +kernel)⟩
theorem lw_p27 : lw_okq (⟨"SundialWorksModel", "byLines", "(I)I"⟩, 15) := ⟨⟨by decide +kernel, by decide +kernel⟩, List.mem_of_getElem? (i := 702) (by decide +kernel), List.mem_of_getElem? (i := 904) (by decide +kernel), List.mem_of_getElem? (i := 905) (by decide +kernel)⟩
theorem lw_p28 : lw_okq (⟨"SundialWorksModel", "weightOf", "(I)I"⟩, 15) := ⟨⟨by decide +kernel, by decide +kernel⟩, List.mem_of_getElem? (i := 702) (by decide +kernel), List.mem_of_getElem? (i := 909) (by decide +kernel), List.mem_of_getElem? (i := 910) (by decide +kernel)⟩
theorem lw_p29 : lw_okq (⟨"SundialWorksModel", "castCode", "()I"⟩, 15) := ⟨⟨by decide +kernel, by decide +kernel⟩, List.mem_of_getElem? (i := 702) (by decide +kernel), List.mem_of_getElem? (i := 922) (by decide +kernel), List.mem_of_getElem? (i := 923) (by decide +kernel)⟩
theorem lw_p30 : lw_okq (⟨"SundialWorksModel", "takeStates", "()V"⟩, 15) := ⟨⟨by decide +kernel, by decide +kernel⟩, List.mem_of_getElem? (i := 702) (by decide +kernel), List.mem_of_getElem? (i := 926) (by decide +kernel), List.mem_of_getElem? (i := 927) (by decide +kernel)⟩
theorem lw_p31 : lw_okq (⟨"SundialWorksModel", "melt", "()I"⟩, 15) := ⟨⟨by decide +kernel, by decide +kernel⟩, List.mem_of_getElem? (i := 702) (by decide +kernel), List.mem_of_getElem? (i := 930) (by decide +kernel), List.mem_of_getElem? (i := 931) (by decide +kernel)⟩
def lw_privs_2 : List (MethodName × Nat) := [(⟨"SundialWorksModel", "isCommission", "(I)Z"⟩, 15), (⟨"SundialWorksModel", "of", "(II)I"⟩, 15), (⟨"SundialWorksModel", "decideNow", "(I)I"⟩, 15), (⟨"SundialWorksModel", "reasonFor", "(I)I"⟩, 15), (⟨"SundialWorksModel", "takeDial", "(I)Z"⟩, 15), (⟨"SundialWorksModel", "declinationOf", "(I)I"⟩, 15), (⟨"SundialWorksModel", "reckon", "(IZI)V"⟩, 15), (⟨"SundialWorksModel", "hourLines", "()I"⟩, 15), (⟨"SundialWorksModel", "has", "(I)Z"⟩, 15), (⟨"SundialWorksModel", "apartOf", "(I)I"⟩, 15), (⟨"SundialWorksModel", "off", "(I)I"⟩, 15), (⟨"SundialWorksModel", "byLines", "(I)I"⟩, 15), (⟨"SundialWorksModel", "weightOf", "(I)I"⟩, 15), (⟨"SundialWorksModel", "castCode", "()I"⟩, 15), (⟨"SundialWorksModel", "takeStates", "()V"⟩, 15), (⟨"SundialWorksModel", "melt", "()I"⟩, 15)]
theorem lw_r2 : ∀ q ∈ lw_privs_2, lw_okq q := List.forall_mem_cons.mpr ⟨lw_p16, List.forall_mem_cons.mpr ⟨lw_p17, List.forall_mem_cons.mpr ⟨lw_p18, List.forall_mem_cons.mpr ⟨lw_p19, List.forall_mem_cons.mpr ⟨lw_p20, List.forall_mem_cons.mpr ⟨lw_p21, List.forall_mem_cons.mpr ⟨lw_p22, List.forall_mem_cons.mpr ⟨lw_p23, List.forall_mem_cons.mpr ⟨lw_p24, List.forall_mem_cons.mpr ⟨lw_p25, List.forall_mem_cons.mpr ⟨lw_p26, List.forall_mem_cons.mpr ⟨lw_p27, List.forall_mem_cons.mpr ⟨lw_p28, List.forall_mem_cons.mpr ⟨lw_p29, List.forall_mem_cons.mpr ⟨lw_p30, List.forall_mem_cons.mpr ⟨lw_p31, fun _ h => absurd h List.not_mem_nil⟩⟩⟩⟩⟩⟩⟩⟩⟩⟩⟩⟩⟩⟩⟩⟩
theorem lw_p32 : lw_okq (⟨"SundialWorksModel", "castNow", "()I"⟩, 15) := ⟨⟨by decide +kernel, by decide +kernel⟩, List.mem_of_getElem? (i := 702) (by decide +kernel), List.mem_of_getElem? (i := 934) (by decide +kernel), List.mem_of_getElem? (i := 935) (by decide +kernel)⟩
theorem lw_p33 : lw_okq (⟨"SundialWorksModel", "deliverNow", "(I)I"⟩, 15) := ⟨⟨by decide +kernel, by decide +kernel⟩, List.mem_of_getElem? (i := 702) (by decide +kernel), List.mem_of_getElem? (i := 942) (by decide +kernel), List.mem_of_getElem? (i := 943) (by decide +kernel)⟩
theorem lw_p34 : lw_okq (⟨"SundialWorksModel", "inState", "(I)I"⟩, 15) := ⟨⟨by decide +kernel, by decide +kernel⟩, List.mem_of_getElem? (i := 702) (by decide +kernel), List.mem_of_getElem? (i := 946) (by decide +kernel), List.mem_of_getElem? (i := 947) (by decide +kernel)⟩
theorem lw_p35 : lw_okq (⟨"SundialWorksModel", "next", "()V"⟩, 15) := ⟨⟨by decide +kernel, by decide +kernel⟩, List.mem_of_getElem? (i := 702) (by decide +kernel), List.mem_of_getElem? (i := 980) (by decide +kernel), List.mem_of_getElem? (i := 981) (by decide +kernel)⟩
theorem lw_p36 : lw_okq (⟨"SundialWorksModel", "at", "(I)I"⟩, 15) := ⟨⟨by decide +kernel, by decide +kernel⟩, List.mem_of_getElem? (i := 702) (by decide +kernel), List.mem_of_getElem? (i := 984) (by decide +kernel), List.mem_of_getElem? (i := 985) (by decide +kernel)⟩
theorem lw_p37 : lw_okq (⟨"SundialWorksModel", "command", "()I"⟩, 15) := ⟨⟨by decide +kernel, by decide +kernel⟩, List.mem_of_getElem? (i := 702) (by decide +kernel), List.mem_of_getElem? (i := 988) (by decide +kernel), List.mem_of_getElem? (i := 989) (by decide +kernel)⟩
theorem lw_p38 : lw_okq (⟨"SundialWorksModel", "wordHere", "()I"⟩, 15) := ⟨⟨by decide +kernel, by decide +kernel⟩, List.mem_of_getElem? (i := 702) (by decide +kernel), List.mem_of_getElem? (i := 992) (by decide +kernel), List.mem_of_getElem? (i := 993) (by decide +kernel)⟩
theorem lw_p39 : lw_okq (⟨"SundialWorksModel", "isWord", "(I)Z"⟩, 15) := ⟨⟨by decide +kernel, by decide +kernel⟩, List.mem_of_getElem? (i := 702) (by decide +kernel), List.mem_of_getElem? (i := 996) (by decide +kernel), List.mem_of_getElem? (i := 997) (by decide +kernel)⟩
theorem lw_p40 : lw_okq (⟨"SundialWorksModel", "fail", "(I)V"⟩, 15) := ⟨⟨by decide +kernel, by decide +kernel⟩, List.mem_of_getElem? (i := 702) (by decide +kernel), List.mem_of_getElem? (i := 1006) (by decide +kernel), List.mem_of_getElem? (i := 1007) (by decide +kernel)⟩
theorem lw_p41 : lw_okq (⟨"SundialWorksModel", "readNumber", "(II)V"⟩, 15) := ⟨⟨by decide +kernel, by decide +kernel⟩, List.mem_of_getElem? (i := 702) (by decide +kernel), List.mem_of_getElem? (i := 1013) (by decide +kernel), List.mem_of_getElem? (i := 1014) (by decide +kernel)⟩
theorem lw_p42 : lw_okq (⟨"SundialWorksModel", "codeOf", "(IIII)I"⟩, 15) := ⟨⟨by decide +kernel, by decide +kernel⟩, List.mem_of_getElem? (i := 702) (by decide +kernel), List.mem_of_getElem? (i := 1017) (by decide +kernel), List.mem_of_getElem? (i := 1018) (by decide +kernel)⟩
theorem lw_p43 : lw_okq (⟨"SundialWorksModel", "carry", "(IIII)I"⟩, 15) := ⟨⟨by decide +kernel, by decide +kernel⟩, List.mem_of_getElem? (i := 702) (by decide +kernel), List.mem_of_getElem? (i := 1021) (by decide +kernel), List.mem_of_getElem? (i := 1022) (by decide +kernel)⟩
theorem lw_p44 : lw_okq (⟨"SundialWorksModel", "knownWalls", "()I"⟩, 15) := ⟨⟨by decide +kernel, by decide +kernel⟩, List.mem_of_getElem? (i := 702) (by decide +kernel), List.mem_of_getElem? (i := 1029) (by decide +kernel), List.mem_of_getElem? (i := 1030) (by decide +kernel)⟩
theorem lw_p45 : lw_okq (⟨"SundialWorksModel", "commissionsFor", "(I)I"⟩, 15) := ⟨⟨by decide +kernel, by decide +kernel⟩, List.mem_of_getElem? (i := 702) (by decide +kernel), List.mem_of_getElem? (i := 1037) (by decide +kernel), List.mem_of_getElem? (i := 1038) (by decide +kernel)⟩
theorem lw_p46 : lw_okq (⟨"SundialWorksModel", "byShadow", "(I)I"⟩, 15) := ⟨⟨by decide +kernel, by decide +kernel⟩, List.mem_of_getElem? (i := 702) (by decide +kernel), List.mem_of_getElem? (i := 1065) (by decide +kernel), List.mem_of_getElem? (i := 1066) (by decide +kernel)⟩
def lw_privs_3 : List (MethodName × Nat) := [(⟨"SundialWorksModel", "castNow", "()I"⟩, 15), (⟨"SundialWorksModel", "deliverNow", "(I)I"⟩, 15), (⟨"SundialWorksModel", "inState", "(I)I"⟩, 15), (⟨"SundialWorksModel", "next", "()V"⟩, 15), (⟨"SundialWorksModel", "at", "(I)I"⟩, 15), (⟨"SundialWorksModel", "command", "()I"⟩, 15), (⟨"SundialWorksModel", "wordHere", "()I"⟩, 15), (⟨"SundialWorksModel", "isWord", "(I)Z"⟩, 15), (⟨"SundialWorksModel", "fail", "(I)V"⟩, 15), (⟨"SundialWorksModel", "readNumber", "(II)V"⟩, 15), (⟨"SundialWorksModel", "codeOf", "(IIII)I"⟩, 15), (⟨"SundialWorksModel", "carry", "(IIII)I"⟩, 15), (⟨"SundialWorksModel", "knownWalls", "()I"⟩, 15), (⟨"SundialWorksModel", "commissionsFor", "(I)I"⟩, 15), (⟨"SundialWorksModel", "byShadow", "(I)I"⟩, 15)]
theorem lw_r3 : ∀ q ∈ lw_privs_3, lw_okq q := List.forall_mem_cons.mpr ⟨lw_p32, List.forall_mem_cons.mpr ⟨lw_p33, List.forall_mem_cons.mpr ⟨lw_p34, List.forall_mem_cons.mpr ⟨lw_p35, List.forall_mem_cons.mpr ⟨lw_p36, List.forall_mem_cons.mpr ⟨lw_p37, List.forall_mem_cons.mpr ⟨lw_p38, List.forall_mem_cons.mpr ⟨lw_p39, List.forall_mem_cons.mpr ⟨lw_p40, List.forall_mem_cons.mpr ⟨lw_p41, List.forall_mem_cons.mpr ⟨lw_p42, List.forall_mem_cons.mpr ⟨lw_p43, List.forall_mem_cons.mpr ⟨lw_p44, List.forall_mem_cons.mpr ⟨lw_p45, List.forall_mem_cons.mpr ⟨lw_p46, fun _ h => absurd h List.not_mem_nil⟩⟩⟩⟩⟩⟩⟩⟩⟩⟩⟩⟩⟩⟩⟩
def lw_privs : List (MethodName × Nat) := lw_privs_1 ++ (lw_privs_2 ++ (lw_privs_3))
def lw_tbl : List Cond := k2_sels lw_privs ++ tables_1
theorem lw_privs_ok : ∀ q ∈ lw_privs, lw_okq q := by
  show ∀ q ∈ lw_privs_1 ++ (lw_privs_2 ++ (lw_privs_3)), lw_okq q
  exact List.forall_mem_append.mpr ⟨lw_r1, List.forall_mem_append.mpr ⟨lw_r2, lw_r3⟩⟩
def RX0 : String := "SundialWorks$Commission"
def TX0 : u_T := fun k => match k with
  | 0 => ("SundialWorks$Commission", "latitude", "I", false)
  | 1 => ("SundialWorks$Commission", "wall", "I", false)
  | 2 => ("SundialWorks$Commission", "size", "I", false)
  | 3 => ("SundialWorks$Commission", "longitude", "I", false)
  | 4 => ("SundialWorks$Commission", "state", "I", false)
  | 5 => ("SundialWorks$Commission", "keptDeclination", "I", false)
  | 6 => ("SundialWorks$Commission", "casting", "I", false)
  | _ => ("SundialWorks$Commission", "refusal", "I", false)
def tyX0 : Nat → FieldType := fun k => match k with
  | 0 => .int
  | 1 => .int
  | 2 => .int
  | 3 => .int
  | 4 => .int
  | 5 => .int
  | 6 => .int
  | _ => .int
abbrev wsX00 : List Cond := u_ws RX0 TX0 8
theorem nmX0 : ∀ a, a < 8 → ∀ b, b < 8 → a ≠ b → (TX0 a).2.1 ≠ (TX0 b).2.1 := by decide +kernel
theorem tyX0_ok : ∀ k, k < 8 → parseFieldDescriptor (TX0 k).2.2.1 = some (tyX0 k) := by decide +kernel
abbrev cX0_init : ByteArray := prog_2_method_1_code
def yX0_init : MethodName := ⟨RX0, "<init>", "()V"⟩
abbrev cX0_copyFrom : ByteArray := prog_2_method_2_code
def yX0_copyFrom : MethodName := ⟨RX0, "copyFrom", "(LSundialWorks$Commission;)V"⟩
abbrev cX0_weight : ByteArray := prog_2_method_3_code
def yX0_weight : MethodName := ⟨RX0, "weight", "()I"⟩
abbrev cX0_isByWallNow : ByteArray := prog_2_method_4_code
def yX0_isByWallNow : MethodName := ⟨RX0, "isByWallNow", "()Z"⟩
def RX1 : String := "SundialWorks$Dial"
def TX1 : u_T := fun k => match k with
  | 0 => ("SundialWorks$Dial", "offsets", "[I", true)
  | 1 => ("SundialWorks$Dial", "farthest", "I", false)
  | _ => ("SundialWorks$Dial", "farthestTime", "I", false)
def tyX1 : Nat → FieldType := fun k => match k with
  | 0 => .array .int
  | 1 => .int
  | _ => .int
abbrev wsX10 : List Cond := u_ws RX1 TX1 3
theorem nmX1 : ∀ a, a < 3 → ∀ b, b < 3 → a ≠ b → (TX1 a).2.1 ≠ (TX1 b).2.1 := by decide +kernel
theorem tyX1_ok : ∀ k, k < 3 → parseFieldDescriptor (TX1 k).2.2.1 = some (tyX1 k) := by decide +kernel
abbrev cX1_init : ByteArray := prog_3_method_1_code
def yX1_init : MethodName := ⟨RX1, "<init>", "()V"⟩
abbrev cX1_lay : ByteArray := prog_3_method_2_code
def yX1_lay : MethodName := ⟨RX1, "lay", "(ZII)V"⟩
abbrev cX1_offsetOfShadow : ByteArray := prog_3_method_3_code
def yX1_offsetOfShadow : MethodName := ⟨RX1, "offsetOfShadow", "(JJ)I"⟩
abbrev cX1_offsetAt : ByteArray := prog_3_method_4_code
def yX1_offsetAt : MethodName := ⟨RX1, "offsetAt", "(I)I"⟩
abbrev cX1_countLines : ByteArray := prog_3_method_5_code
def yX1_countLines : MethodName := ⟨RX1, "countLines", "()I"⟩
abbrev cX1_firstLine : ByteArray := prog_3_method_6_code
def yX1_firstLine : MethodName := ⟨RX1, "firstLine", "()I"⟩
abbrev cX1_lastLine : ByteArray := prog_3_method_7_code
def yX1_lastLine : MethodName := ⟨RX1, "lastLine", "()I"⟩
abbrev cX1_readingByLines : ByteArray := prog_3_method_8_code
def yX1_readingByLines : MethodName := ⟨RX1, "readingByLines", "(I)I"⟩
abbrev cX1_readingByShadow : ByteArray := prog_3_method_9_code
def yX1_readingByShadow : MethodName := ⟨RX1, "readingByShadow", "(I)I"⟩
abbrev cX1_compareReadings : ByteArray := prog_3_method_10_code
def yX1_compareReadings : MethodName := ⟨RX1, "compareReadings", "()V"⟩
def RX2 : String := "SundialWorks$History"
def TX2 : u_T := fun k => match k with
  | 0 => ("SundialWorks$History", "ring", "[LSundialWorks$State;", true)
  | 1 => ("SundialWorks$History", "free", "I", false)
  | _ => ("SundialWorks$History", "kept", "I", false)
def tyX2 : Nat → FieldType := fun k => match k with
  | 0 => .array (.object "SundialWorks$State")
  | 1 => .int
  | _ => .int
abbrev wsX20 : List Cond := u_ws RX2 TX2 3
theorem nmX2 : ∀ a, a < 3 → ∀ b, b < 3 → a ≠ b → (TX2 a).2.1 ≠ (TX2 b).2.1 := by decide +kernel
theorem tyX2_ok : ∀ k, k < 3 → parseFieldDescriptor (TX2 k).2.2.1 = some (tyX2 k) := by decide +kernel
abbrev cX2_init : ByteArray := prog_4_method_1_code
def yX2_init : MethodName := ⟨RX2, "<init>", "()V"⟩
abbrev cX2_mark : ByteArray := prog_4_method_2_code
def yX2_mark : MethodName := ⟨RX2, "mark", "(LSundialWorks$State;)V"⟩
abbrev cX2_keepMarked : ByteArray := prog_4_method_3_code
def yX2_keepMarked : MethodName := ⟨RX2, "keepMarked", "()V"⟩
abbrev cX2_returnToMarked : ByteArray := prog_4_method_4_code
def yX2_returnToMarked : MethodName := ⟨RX2, "returnToMarked", "(LSundialWorks$State;)V"⟩
abbrev cX2_stepBack : ByteArray := prog_4_method_5_code
def yX2_stepBack : MethodName := ⟨RX2, "stepBack", "(LSundialWorks$State;)V"⟩
def RX3 : String := "SundialWorks$Program"
def TX3 : u_T := fun k => match k with
  | 0 => ("SundialWorks$Program", "text", "[C", true)
  | 1 => ("SundialWorks$Program", "numbers", "[I", true)
  | 2 => ("SundialWorks$Program", "length", "I", false)
  | 3 => ("SundialWorks$Program", "tokenStart", "I", false)
  | _ => ("SundialWorks$Program", "tokenEnd", "I", false)
def tyX3 : Nat → FieldType := fun k => match k with
  | 0 => .array .char
  | 1 => .array .int
  | 2 => .int
  | 3 => .int
  | _ => .int
abbrev wsX30 : List Cond := u_ws RX3 TX3 5
theorem nmX3 : ∀ a, a < 5 → ∀ b, b < 5 → a ≠ b → (TX3 a).2.1 ≠ (TX3 b).2.1 := by decide +kernel
theorem tyX3_ok : ∀ k, k < 5 → parseFieldDescriptor (TX3 k).2.2.1 = some (tyX3 k) := by decide +kernel
abbrev cX3_init : ByteArray := prog_5_method_1_code
def yX3_init : MethodName := ⟨RX3, "<init>", "()V"⟩
abbrev cX3_add : ByteArray := prog_5_method_2_code
def yX3_add : MethodName := ⟨RX3, "add", "(I)I"⟩
abbrev cX3_empty : ByteArray := prog_5_method_3_code
def yX3_empty : MethodName := ⟨RX3, "empty", "()I"⟩
abbrev cX3_rewind : ByteArray := prog_5_method_4_code
def yX3_rewind : MethodName := ⟨RX3, "rewind", "()V"⟩
abbrev cX3_advance : ByteArray := prog_5_method_5_code
def yX3_advance : MethodName := ⟨RX3, "advance", "()Z"⟩
abbrev cX3_kindOf : ByteArray := prog_5_method_6_code
def yX3_kindOf : MethodName := ⟨RX3, "kindOf", "(C)I"⟩
abbrev cX3_parseCommand : ByteArray := prog_5_method_7_code
def yX3_parseCommand : MethodName := ⟨RX3, "parseCommand", "()I"⟩
abbrev cX3_commandOfToken : ByteArray := prog_5_method_8_code
def yX3_commandOfToken : MethodName := ⟨RX3, "commandOfToken", "()I"⟩
abbrev cX3_wordOf : ByteArray := prog_5_method_9_code
def yX3_wordOf : MethodName := ⟨RX3, "wordOf", "(I)Ljava/lang/String;"⟩
abbrev cX3_tokenIs : ByteArray := prog_5_method_10_code
def yX3_tokenIs : MethodName := ⟨RX3, "tokenIs", "(Ljava/lang/String;)Z"⟩
abbrev cX3_numberOfToken : ByteArray := prog_5_method_11_code
def yX3_numberOfToken : MethodName := ⟨RX3, "numberOfToken", "()I"⟩
def RX4 : String := "SundialWorks$Shop"
def TX4 : u_T := fun k => match k with
  | 0 => ("SundialWorks$Shop", "walls", "[LSundialWorks$Wall;", true)
  | 1 => ("SundialWorks$Shop", "corrections", "[I", true)
  | 2 => ("SundialWorks$Shop", "settings", "[I", true)
  | 3 => ("SundialWorks$Shop", "commissions", "[LSundialWorks$Commission;", true)
  | 4 => ("SundialWorks$Shop", "wallCount", "I", false)
  | 5 => ("SundialWorks$Shop", "commissionCount", "I", false)
  | 6 => ("SundialWorks$Shop", "castings", "I", false)
  | _ => ("SundialWorks$Shop", "kilograms", "I", false)
def tyX4 : Nat → FieldType := fun k => match k with
  | 0 => .array (.object "SundialWorks$Wall")
  | 1 => .array .int
  | 2 => .array .int
  | 3 => .array (.object "SundialWorks$Commission")
  | 4 => .int
  | 5 => .int
  | 6 => .int
  | _ => .int
abbrev wsX40 : List Cond := u_ws RX4 TX4 8
theorem nmX4 : ∀ a, a < 8 → ∀ b, b < 8 → a ≠ b → (TX4 a).2.1 ≠ (TX4 b).2.1 := by decide +kernel
theorem tyX4_ok : ∀ k, k < 8 → parseFieldDescriptor (TX4 k).2.2.1 = some (tyX4 k) := by decide +kernel
abbrev cX4_init : ByteArray := prog_6_method_1_code
def yX4_init : MethodName := ⟨RX4, "<init>", "()V"⟩
abbrev cX4_copyFrom : ByteArray := prog_6_method_2_code
def yX4_copyFrom : MethodName := ⟨RX4, "copyFrom", "(LSundialWorks$Shop;)V"⟩
abbrev cX4_hasWall : ByteArray := prog_6_method_3_code
def yX4_hasWall : MethodName := ⟨RX4, "hasWall", "(I)Z"⟩
abbrev cX4_hasCommission : ByteArray := prog_6_method_4_code
def yX4_hasCommission : MethodName := ⟨RX4, "hasCommission", "(I)Z"⟩
abbrev cX4_changeCorrection : ByteArray := prog_6_method_5_code
def yX4_changeCorrection : MethodName := ⟨RX4, "changeCorrection", "(II)I"⟩
abbrev cX4_changeSetting : ByteArray := prog_6_method_6_code
def yX4_changeSetting : MethodName := ⟨RX4, "changeSetting", "(II)I"⟩
abbrev cX4_openWall : ByteArray := prog_6_method_7_code
def yX4_openWall : MethodName := ⟨RX4, "openWall", "()I"⟩
abbrev cX4_measureWall : ByteArray := prog_6_method_8_code
def yX4_measureWall : MethodName := ⟨RX4, "measureWall", "(II)I"⟩
abbrev cX4_openCommission : ByteArray := prog_6_method_9_code
def yX4_openCommission : MethodName := ⟨RX4, "openCommission", "(IIII)I"⟩
abbrev cX4_conclude : ByteArray := prog_6_method_10_code
def yX4_conclude : MethodName := ⟨RX4, "conclude", "(II)I"⟩
abbrev cX4_reopen : ByteArray := prog_6_method_11_code
def yX4_reopen : MethodName := ⟨RX4, "reopen", "(II)I"⟩
abbrev cX4_castMelt : ByteArray := prog_6_method_12_code
def yX4_castMelt : MethodName := ⟨RX4, "castMelt", "()I"⟩
abbrev cX4_meltsNeeded : ByteArray := prog_6_method_13_code
def yX4_meltsNeeded : MethodName := ⟨RX4, "meltsNeeded", "()I"⟩
abbrev cX4_acceptedOnes : ByteArray := prog_6_method_14_code
def yX4_acceptedOnes : MethodName := ⟨RX4, "acceptedOnes", "()I"⟩
abbrev cX4_nextMelt : ByteArray := prog_6_method_15_code
def yX4_nextMelt : MethodName := ⟨RX4, "nextMelt", "(I)I"⟩
abbrev cX4_handOver : ByteArray := prog_6_method_16_code
def yX4_handOver : MethodName := ⟨RX4, "handOver", "(I)I"⟩
abbrev cX4_knownWalls : ByteArray := prog_6_method_17_code
def yX4_knownWalls : MethodName := ⟨RX4, "knownWalls", "()I"⟩
abbrev cX4_commissionsInState : ByteArray := prog_6_method_18_code
def yX4_commissionsInState : MethodName := ⟨RX4, "commissionsInState", "(I)I"⟩
abbrev cX4_commissionsForWall : ByteArray := prog_6_method_19_code
def yX4_commissionsForWall : MethodName := ⟨RX4, "commissionsForWall", "(I)I"⟩
abbrev cX4_declinationOfWall : ByteArray := prog_6_method_20_code
def yX4_declinationOfWall : MethodName := ⟨RX4, "declinationOfWall", "(I)I"⟩
abbrev cX4_declinationOfDial : ByteArray := prog_6_method_21_code
def yX4_declinationOfDial : MethodName := ⟨RX4, "declinationOfDial", "(I)I"⟩
def RX5 : String := "SundialWorks$State"
def TX5 : u_T := fun k => match k with
  | 0 => ("SundialWorks$State", "shop", "LSundialWorks$Shop;", true)
  | 1 => ("SundialWorks$State", "slots", "[LSundialWorks$Shop;", true)
  | _ => ("SundialWorks$State", "filled", "[Z", true)
def tyX5 : Nat → FieldType := fun k => match k with
  | 0 => .object "SundialWorks$Shop"
  | 1 => .array (.object "SundialWorks$Shop")
  | _ => .array .boolean
abbrev wsX50 : List Cond := u_ws RX5 TX5 3
theorem nmX5 : ∀ a, a < 3 → ∀ b, b < 3 → a ≠ b → (TX5 a).2.1 ≠ (TX5 b).2.1 := by decide +kernel
theorem tyX5_ok : ∀ k, k < 3 → parseFieldDescriptor (TX5 k).2.2.1 = some (tyX5 k) := by decide +kernel
abbrev cX5_init : ByteArray := prog_7_method_1_code
def yX5_init : MethodName := ⟨RX5, "<init>", "()V"⟩
abbrev cX5_copyFrom : ByteArray := prog_7_method_2_code
def yX5_copyFrom : MethodName := ⟨RX5, "copyFrom", "(LSundialWorks$State;)V"⟩
abbrev cX5_keepSnapshot : ByteArray := prog_7_method_3_code
def yX5_keepSnapshot : MethodName := ⟨RX5, "keepSnapshot", "(I)I"⟩
abbrev cX5_fetchSnapshot : ByteArray := prog_7_method_4_code
def yX5_fetchSnapshot : MethodName := ⟨RX5, "fetchSnapshot", "(I)I"⟩
abbrev cX5_snapshots : ByteArray := prog_7_method_5_code
def yX5_snapshots : MethodName := ⟨RX5, "snapshots", "()I"⟩
def RX6 : String := "SundialWorks$Wall"
def TX6 : u_T := fun k => match k with
  | 0 => ("SundialWorks$Wall", "latest", "I", false)
  | _ => ("SundialWorks$Wall", "earlier", "I", false)
def tyX6 : Nat → FieldType := fun k => match k with
  | 0 => .int
  | _ => .int
abbrev wsX60 : List Cond := u_ws RX6 TX6 2
theorem nmX6 : ∀ a, a < 2 → ∀ b, b < 2 → a ≠ b → (TX6 a).2.1 ≠ (TX6 b).2.1 := by decide +kernel
theorem tyX6_ok : ∀ k, k < 2 → parseFieldDescriptor (TX6 k).2.2.1 = some (tyX6 k) := by decide +kernel
abbrev cX6_init : ByteArray := prog_8_method_1_code
def yX6_init : MethodName := ⟨RX6, "<init>", "()V"⟩
abbrev cX6_copyFrom : ByteArray := prog_8_method_2_code
def yX6_copyFrom : MethodName := ⟨RX6, "copyFrom", "(LSundialWorks$Wall;)V"⟩
abbrev cX6_isKnown : ByteArray := prog_8_method_3_code
def yX6_isKnown : MethodName := ⟨RX6, "isKnown", "(I)Z"⟩
def RX7 : String := "SundialWorks"
def TX7 : u_T := fun k => match k with
  | 0 => ("SundialWorks", "state", "LSundialWorks$State;", true)
  | 1 => ("SundialWorks", "history", "LSundialWorks$History;", true)
  | 2 => ("SundialWorks", "program", "LSundialWorks$Program;", true)
  | 3 => ("SundialWorks", "dial", "LSundialWorks$Dial;", true)
  | _ => ("SundialWorks", "shop", "LSundialWorks$Shop;", true)
def tyX7 : Nat → FieldType := fun k => match k with
  | 0 => .object "SundialWorks$State"
  | 1 => .object "SundialWorks$History"
  | 2 => .object "SundialWorks$Program"
  | 3 => .object "SundialWorks$Dial"
  | _ => .object "SundialWorks$Shop"
abbrev wsX70 : List Cond := u_ws RX7 TX7 5
theorem nmX7 : ∀ a, a < 5 → ∀ b, b < 5 → a ≠ b → (TX7 a).2.1 ≠ (TX7 b).2.1 := by decide +kernel
theorem tyX7_ok : ∀ k, k < 5 → parseFieldDescriptor (TX7 k).2.2.1 = some (tyX7 k) := by decide +kernel
abbrev cX7_init : ByteArray := prog_1_method_1_code
def yX7_init : MethodName := ⟨RX7, "<init>", "()V"⟩
abbrev cX7_setCorrection : ByteArray := prog_1_method_2_code
def yX7_setCorrection : MethodName := ⟨RX7, "setCorrection", "(II)I"⟩
abbrev cX7_set : ByteArray := prog_1_method_3_code
def yX7_set : MethodName := ⟨RX7, "set", "(II)I"⟩
abbrev cX7_addWall : ByteArray := prog_1_method_4_code
def yX7_addWall : MethodName := ⟨RX7, "addWall", "()I"⟩
abbrev cX7_measure : ByteArray := prog_1_method_5_code
def yX7_measure : MethodName := ⟨RX7, "measure", "(II)I"⟩
abbrev cX7_ask : ByteArray := prog_1_method_6_code
def yX7_ask : MethodName := ⟨RX7, "ask", "(IIII)I"⟩
abbrev cX7_decide : ByteArray := prog_1_method_7_code
def yX7_decide : MethodName := ⟨RX7, "decide", "(I)I"⟩
abbrev cX7_askAgain : ByteArray := prog_1_method_8_code
def yX7_askAgain : MethodName := ⟨RX7, "askAgain", "(I)I"⟩
abbrev cX7_cast : ByteArray := prog_1_method_9_code
def yX7_cast : MethodName := ⟨RX7, "cast", "()I"⟩
abbrev cX7_deliver : ByteArray := prog_1_method_10_code
def yX7_deliver : MethodName := ⟨RX7, "deliver", "(I)I"⟩
abbrev cX7_take : ByteArray := prog_1_method_11_code
def yX7_take : MethodName := ⟨RX7, "take", "(I)I"⟩
abbrev cX7_restore : ByteArray := prog_1_method_12_code
def yX7_restore : MethodName := ⟨RX7, "restore", "(I)I"⟩
abbrev cX7_undo : ByteArray := prog_1_method_13_code
def yX7_undo : MethodName := ⟨RX7, "undo", "()I"⟩
abbrev cX7_append : ByteArray := prog_1_method_14_code
def yX7_append : MethodName := ⟨RX7, "append", "(I)I"⟩
abbrev cX7_clearText : ByteArray := prog_1_method_15_code
def yX7_clearText : MethodName := ⟨RX7, "clearText", "()I"⟩
abbrev cX7_run : ByteArray := prog_1_method_16_code
def yX7_run : MethodName := ⟨RX7, "run", "()I"⟩
abbrev cX7_count : ByteArray := prog_1_method_17_code
def yX7_count : MethodName := ⟨RX7, "count", "(I)I"⟩
abbrev cX7_wall : ByteArray := prog_1_method_18_code
def yX7_wall : MethodName := ⟨RX7, "wall", "(II)I"⟩
abbrev cX7_commission : ByteArray := prog_1_method_19_code
def yX7_commission : MethodName := ⟨RX7, "commission", "(II)I"⟩
abbrev cX7_correction : ByteArray := prog_1_method_20_code
def yX7_correction : MethodName := ⟨RX7, "correction", "(I)I"⟩
abbrev cX7_sine : ByteArray := prog_1_method_21_code
def yX7_sine : MethodName := ⟨RX7, "sine", "(I)I"⟩
abbrev cX7_offset : ByteArray := prog_1_method_22_code
def yX7_offset : MethodName := ⟨RX7, "offset", "(II)I"⟩
abbrev cX7_lines : ByteArray := prog_1_method_23_code
def yX7_lines : MethodName := ⟨RX7, "lines", "(II)I"⟩
abbrev cX7_read : ByteArray := prog_1_method_24_code
def yX7_read : MethodName := ⟨RX7, "read", "(IIII)I"⟩
abbrev cX7_apart : ByteArray := prog_1_method_25_code
def yX7_apart : MethodName := ⟨RX7, "apart", "(II)I"⟩
abbrev cX7_reason : ByteArray := prog_1_method_26_code
def yX7_reason : MethodName := ⟨RX7, "reason", "(I)I"⟩
abbrev cX7_bestLatitude : ByteArray := prog_1_method_27_code
def yX7_bestLatitude : MethodName := ⟨RX7, "bestLatitude", "(I)I"⟩
abbrev cX7_melts : ByteArray := prog_1_method_28_code
def yX7_melts : MethodName := ⟨RX7, "melts", "()I"⟩
abbrev cX7_recorded : ByteArray := prog_1_method_29_code
def yX7_recorded : MethodName := ⟨RX7, "recorded", "(I)I"⟩
abbrev cX7_failedAt : ByteArray := prog_1_method_30_code
def yX7_failedAt : MethodName := ⟨RX7, "failedAt", "(I)I"⟩
abbrev cX7_perform : ByteArray := prog_1_method_31_code
def yX7_perform : MethodName := ⟨RX7, "perform", "(I)I"⟩
abbrev cX7_judge : ByteArray := prog_1_method_32_code
def yX7_judge : MethodName := ⟨RX7, "judge", "(I)I"⟩
abbrev cX7_layDial : ByteArray := prog_1_method_33_code
def yX7_layDial : MethodName := ⟨RX7, "layDial", "(I)Z"⟩
abbrev cX7_isError : ByteArray := prog_1_method_34_code
def yX7_isError : MethodName := ⟨RX7, "isError", "(I)Z"⟩
abbrev cX7_isWithin : ByteArray := prog_1_method_35_code
def yX7_isWithin : MethodName := ⟨RX7, "isWithin", "(III)Z"⟩
abbrev cX7_rounded : ByteArray := prog_1_method_36_code
def yX7_rounded : MethodName := ⟨RX7, "rounded", "(JJ)J"⟩
abbrev cX7_sineOf : ByteArray := prog_1_method_37_code
def yX7_sineOf : MethodName := ⟨RX7, "sineOf", "(I)I"⟩
def RX8 : String := "SundialWorksModel"
def TX8 : u_T := fun k => match k with
  | 0 => ("SundialWorksModel", "thrown", "I", false)
  | 1 => ("SundialWorksModel", "s", "[I", true)
  | 2 => ("SundialWorksModel", "aside", "[I", true)
  | 3 => ("SundialWorksModel", "saved", "[I", true)
  | 4 => ("SundialWorksModel", "savedMany", "I", false)
  | 5 => ("SundialWorksModel", "text", "[I", true)
  | 6 => ("SundialWorksModel", "length", "I", false)
  | 7 => ("SundialWorksModel", "numbers", "[I", true)
  | 8 => ("SundialWorksModel", "offsets", "[I", true)
  | 9 => ("SundialWorksModel", "isOn", "[Z", true)
  | 10 => ("SundialWorksModel", "states", "[I", true)
  | 11 => ("SundialWorksModel", "token", "I", false)
  | 12 => ("SundialWorksModel", "from", "I", false)
  | 13 => ("SundialWorksModel", "till", "I", false)
  | _ => ("SundialWorksModel", "fault", "I", false)
def tyX8 : Nat → FieldType := fun k => match k with
  | 0 => .int
  | 1 => .array .int
  | 2 => .array .int
  | 3 => .array .int
  | 4 => .int
  | 5 => .array .int
  | 6 => .int
  | 7 => .array .int
  | 8 => .array .int
  | 9 => .array .boolean
  | 10 => .array .int
  | 11 => .int
  | 12 => .int
  | 13 => .int
  | _ => .int
abbrev wsX80 : List Cond := u_ws RX8 TX8 15
theorem nmX8 : ∀ a, a < 15 → ∀ b, b < 15 → a ≠ b → (TX8 a).2.1 ≠ (TX8 b).2.1 := by decide +kernel
theorem tyX8_ok : ∀ k, k < 15 → parseFieldDescriptor (TX8 k).2.2.1 = some (tyX8 k) := by decide +kernel
abbrev cX8_init : ByteArray := prog_10_method_1_code
def yX8_init : MethodName := ⟨RX8, "<init>", "()V"⟩
abbrev cX8_in : ByteArray := prog_10_method_3_code
def yX8_in : MethodName := ⟨RX8, "in", "(III)Z"⟩
abbrev cX8_size : ByteArray := prog_10_method_4_code
def yX8_size : MethodName := ⟨RX8, "size", "(I)I"⟩
abbrev cX8_act : ByteArray := prog_10_method_5_code
def yX8_act : MethodName := ⟨RX8, "act", "()V"⟩
abbrev cX8_rounded : ByteArray := prog_10_method_6_code
def yX8_rounded : MethodName := ⟨RX8, "rounded", "(JJ)J"⟩
abbrev cX8_sineOf : ByteArray := prog_10_method_7_code
def yX8_sineOf : MethodName := ⟨RX8, "sineOf", "(I)J"⟩
abbrev cX8_cosineOf : ByteArray := prog_10_method_8_code
def yX8_cosineOf : MethodName := ⟨RX8, "cosineOf", "(I)J"⟩
abbrev cX8_sideOf : ByteArray := prog_10_method_9_code
def yX8_sideOf : MethodName := ⟨RX8, "sideOf", "(IZI)J"⟩
abbrev cX8_frontOf : ByteArray := prog_10_method_10_code
def yX8_frontOf : MethodName := ⟨RX8, "frontOf", "(IZII)J"⟩
abbrev cX8_reckon : ByteArray := prog_10_method_11_code
def yX8_reckon : MethodName := ⟨RX8, "reckon", "(IZI)V"⟩
abbrev cX8_has : ByteArray := prog_10_method_12_code
def yX8_has : MethodName := ⟨RX8, "has", "(I)Z"⟩
abbrev cX8_off : ByteArray := prog_10_method_13_code
def yX8_off : MethodName := ⟨RX8, "off", "(I)I"⟩
abbrev cX8_byLines : ByteArray := prog_10_method_14_code
def yX8_byLines : MethodName := ⟨RX8, "byLines", "(I)I"⟩
abbrev cX8_byShadow : ByteArray := prog_10_method_15_code
def yX8_byShadow : MethodName := ⟨RX8, "byShadow", "(I)I"⟩
abbrev cX8_apartOf : ByteArray := prog_10_method_16_code
def yX8_apartOf : MethodName := ⟨RX8, "apartOf", "(I)I"⟩
abbrev cX8_hourLines : ByteArray := prog_10_method_17_code
def yX8_hourLines : MethodName := ⟨RX8, "hourLines", "()I"⟩
abbrev cX8_of : ByteArray := prog_10_method_18_code
def yX8_of : MethodName := ⟨RX8, "of", "(II)I"⟩
abbrev cX8_put : ByteArray := prog_10_method_19_code
def yX8_put : MethodName := ⟨RX8, "put", "(III)V"⟩
abbrev cX8_isWall : ByteArray := prog_10_method_20_code
def yX8_isWall : MethodName := ⟨RX8, "isWall", "(I)Z"⟩
abbrev cX8_isCommission : ByteArray := prog_10_method_21_code
def yX8_isCommission : MethodName := ⟨RX8, "isCommission", "(I)Z"⟩
abbrev cX8_isBit : ByteArray := prog_10_method_22_code
def yX8_isBit : MethodName := ⟨RX8, "isBit", "(I)Z"⟩
abbrev cX8_setCorrection : ByteArray := prog_10_method_23_code
def yX8_setCorrection : MethodName := ⟨RX8, "setCorrection", "(II)I"⟩
abbrev cX8_leastOf : ByteArray := prog_10_method_24_code
def yX8_leastOf : MethodName := ⟨RX8, "leastOf", "(I)I"⟩
abbrev cX8_mostOf : ByteArray := prog_10_method_25_code
def yX8_mostOf : MethodName := ⟨RX8, "mostOf", "(I)I"⟩
abbrev cX8_set : ByteArray := prog_10_method_26_code
def yX8_set : MethodName := ⟨RX8, "set", "(II)I"⟩
abbrev cX8_wallCode : ByteArray := prog_10_method_27_code
def yX8_wallCode : MethodName := ⟨RX8, "wallCode", "()I"⟩
abbrev cX8_wallNow : ByteArray := prog_10_method_28_code
def yX8_wallNow : MethodName := ⟨RX8, "wallNow", "()I"⟩
abbrev cX8_addWall : ByteArray := prog_10_method_29_code
def yX8_addWall : MethodName := ⟨RX8, "addWall", "()I"⟩
abbrev cX8_declinationOfWall : ByteArray := prog_10_method_30_code
def yX8_declinationOfWall : MethodName := ⟨RX8, "declinationOfWall", "(I)I"⟩
abbrev cX8_measureCode : ByteArray := prog_10_method_31_code
def yX8_measureCode : MethodName := ⟨RX8, "measureCode", "(II)I"⟩
abbrev cX8_measureNow : ByteArray := prog_10_method_32_code
def yX8_measureNow : MethodName := ⟨RX8, "measureNow", "(II)I"⟩
abbrev cX8_measure : ByteArray := prog_10_method_33_code
def yX8_measure : MethodName := ⟨RX8, "measure", "(II)I"⟩
abbrev cX8_declinationOf : ByteArray := prog_10_method_34_code
def yX8_declinationOf : MethodName := ⟨RX8, "declinationOf", "(I)I"⟩
abbrev cX8_takeDial : ByteArray := prog_10_method_35_code
def yX8_takeDial : MethodName := ⟨RX8, "takeDial", "(I)Z"⟩
abbrev cX8_weightOf : ByteArray := prog_10_method_36_code
def yX8_weightOf : MethodName := ⟨RX8, "weightOf", "(I)I"⟩
abbrev cX8_reasonFor : ByteArray := prog_10_method_37_code
def yX8_reasonFor : MethodName := ⟨RX8, "reasonFor", "(I)I"⟩
abbrev cX8_askCode : ByteArray := prog_10_method_38_code
def yX8_askCode : MethodName := ⟨RX8, "askCode", "(IIII)I"⟩
abbrev cX8_askNow : ByteArray := prog_10_method_39_code
def yX8_askNow : MethodName := ⟨RX8, "askNow", "(IIII)I"⟩
abbrev cX8_ask : ByteArray := prog_10_method_40_code
def yX8_ask : MethodName := ⟨RX8, "ask", "(IIII)I"⟩
abbrev cX8_stateCode : ByteArray := prog_10_method_41_code
def yX8_stateCode : MethodName := ⟨RX8, "stateCode", "(II)I"⟩
abbrev cX8_decideNow : ByteArray := prog_10_method_42_code
def yX8_decideNow : MethodName := ⟨RX8, "decideNow", "(I)I"⟩
abbrev cX8_decide : ByteArray := prog_10_method_43_code
def yX8_decide : MethodName := ⟨RX8, "decide", "(I)I"⟩
abbrev cX8_askAgain : ByteArray := prog_10_method_44_code
def yX8_askAgain : MethodName := ⟨RX8, "askAgain", "(I)I"⟩
abbrev cX8_melt : ByteArray := prog_10_method_45_code
def yX8_melt : MethodName := ⟨RX8, "melt", "()I"⟩
abbrev cX8_takeStates : ByteArray := prog_10_method_46_code
def yX8_takeStates : MethodName := ⟨RX8, "takeStates", "()V"⟩
abbrev cX8_castCode : ByteArray := prog_10_method_47_code
def yX8_castCode : MethodName := ⟨RX8, "castCode", "()I"⟩
abbrev cX8_castNow : ByteArray := prog_10_method_48_code
def yX8_castNow : MethodName := ⟨RX8, "castNow", "()I"⟩
abbrev cX8_cast : ByteArray := prog_10_method_49_code
def yX8_cast : MethodName := ⟨RX8, "cast", "()I"⟩
abbrev cX8_inState : ByteArray := prog_10_method_50_code
def yX8_inState : MethodName := ⟨RX8, "inState", "(I)I"⟩
abbrev cX8_deliverNow : ByteArray := prog_10_method_51_code
def yX8_deliverNow : MethodName := ⟨RX8, "deliverNow", "(I)I"⟩
abbrev cX8_deliver : ByteArray := prog_10_method_52_code
def yX8_deliver : MethodName := ⟨RX8, "deliver", "(I)I"⟩
abbrev cX8_slotAt : ByteArray := prog_10_method_53_code
def yX8_slotAt : MethodName := ⟨RX8, "slotAt", "(I)I"⟩
abbrev cX8_take : ByteArray := prog_10_method_54_code
def yX8_take : MethodName := ⟨RX8, "take", "(I)I"⟩
abbrev cX8_restore : ByteArray := prog_10_method_55_code
def yX8_restore : MethodName := ⟨RX8, "restore", "(I)I"⟩
abbrev cX8_undo : ByteArray := prog_10_method_56_code
def yX8_undo : MethodName := ⟨RX8, "undo", "()I"⟩
abbrev cX8_append : ByteArray := prog_10_method_57_code
def yX8_append : MethodName := ⟨RX8, "append", "(I)I"⟩
abbrev cX8_clearText : ByteArray := prog_10_method_58_code
def yX8_clearText : MethodName := ⟨RX8, "clearText", "()I"⟩
abbrev cX8_at : ByteArray := prog_10_method_59_code
def yX8_at : MethodName := ⟨RX8, "at", "(I)I"⟩
abbrev cX8_next : ByteArray := prog_10_method_60_code
def yX8_next : MethodName := ⟨RX8, "next", "()V"⟩
abbrev cX8_fail : ByteArray := prog_10_method_61_code
def yX8_fail : MethodName := ⟨RX8, "fail", "(I)V"⟩
abbrev cX8_spelled : ByteArray := prog_10_method_62_code
def yX8_spelled : MethodName := ⟨RX8, "spelled", "(IIIIIII)I"⟩
abbrev cX8_letterOf : ByteArray := prog_10_method_63_code
def yX8_letterOf : MethodName := ⟨RX8, "letterOf", "(II)I"⟩
abbrev cX8_isWord : ByteArray := prog_10_method_64_code
def yX8_isWord : MethodName := ⟨RX8, "isWord", "(I)Z"⟩
abbrev cX8_wordHere : ByteArray := prog_10_method_65_code
def yX8_wordHere : MethodName := ⟨RX8, "wordHere", "()I"⟩
abbrev cX8_numbersOf : ByteArray := prog_10_method_66_code
def yX8_numbersOf : MethodName := ⟨RX8, "numbersOf", "(I)I"⟩
abbrev cX8_readNumber : ByteArray := prog_10_method_67_code
def yX8_readNumber : MethodName := ⟨RX8, "readNumber", "(II)V"⟩
abbrev cX8_codeOf : ByteArray := prog_10_method_68_code
def yX8_codeOf : MethodName := ⟨RX8, "codeOf", "(IIII)I"⟩
abbrev cX8_carry : ByteArray := prog_10_method_69_code
def yX8_carry : MethodName := ⟨RX8, "carry", "(IIII)I"⟩
abbrev cX8_command : ByteArray := prog_10_method_70_code
def yX8_command : MethodName := ⟨RX8, "command", "()I"⟩
abbrev cX8_run : ByteArray := prog_10_method_71_code
def yX8_run : MethodName := ⟨RX8, "run", "()I"⟩
abbrev cX8_knownWalls : ByteArray := prog_10_method_72_code
def yX8_knownWalls : MethodName := ⟨RX8, "knownWalls", "()I"⟩
abbrev cX8_count : ByteArray := prog_10_method_73_code
def yX8_count : MethodName := ⟨RX8, "count", "(I)I"⟩
abbrev cX8_commissionsFor : ByteArray := prog_10_method_74_code
def yX8_commissionsFor : MethodName := ⟨RX8, "commissionsFor", "(I)I"⟩
abbrev cX8_wall : ByteArray := prog_10_method_75_code
def yX8_wall : MethodName := ⟨RX8, "wall", "(II)I"⟩
abbrev cX8_commission : ByteArray := prog_10_method_76_code
def yX8_commission : MethodName := ⟨RX8, "commission", "(II)I"⟩
abbrev cX8_correction : ByteArray := prog_10_method_77_code
def yX8_correction : MethodName := ⟨RX8, "correction", "(I)I"⟩
abbrev cX8_sine : ByteArray := prog_10_method_78_code
def yX8_sine : MethodName := ⟨RX8, "sine", "(I)I"⟩
abbrev cX8_offset : ByteArray := prog_10_method_79_code
def yX8_offset : MethodName := ⟨RX8, "offset", "(II)I"⟩
abbrev cX8_lines : ByteArray := prog_10_method_80_code
def yX8_lines : MethodName := ⟨RX8, "lines", "(II)I"⟩
abbrev cX8_read : ByteArray := prog_10_method_81_code
def yX8_read : MethodName := ⟨RX8, "read", "(IIII)I"⟩
abbrev cX8_apart : ByteArray := prog_10_method_82_code
def yX8_apart : MethodName := ⟨RX8, "apart", "(II)I"⟩
abbrev cX8_reason : ByteArray := prog_10_method_83_code
def yX8_reason : MethodName := ⟨RX8, "reason", "(I)I"⟩
abbrev cX8_bestLatitude : ByteArray := prog_10_method_84_code
def yX8_bestLatitude : MethodName := ⟨RX8, "bestLatitude", "(I)I"⟩
abbrev cX8_melts : ByteArray := prog_10_method_85_code
def yX8_melts : MethodName := ⟨RX8, "melts", "()I"⟩
def RJ6 : String := "java/lang/Integer"
def TJ6 : u_T := fun k => match k with
  | _ => ("", "", "", false)
def tyJ6 : Nat → FieldType := fun k => match k with
  | _ => .int
abbrev wsJ60 : List Cond := u_ws RJ6 TJ6 0
theorem nmJ6 : ∀ a, a < 0 → ∀ b, b < 0 → a ≠ b → (TJ6 a).2.1 ≠ (TJ6 b).2.1 := by decide +kernel
theorem tyJ6_ok : ∀ k, k < 0 → parseFieldDescriptor (TJ6 k).2.2.1 = some (tyJ6 k) := by decide +kernel
abbrev cJ6_bitCount_0f7a4 : ByteArray := prog_11_method_49_code
def yJ6_bitCount_0f7a4 : MethodName := ⟨RJ6, "bitCount", "(I)I"⟩
def RJ9 : String := "java/lang/Math"
def TJ9 : u_T := fun k => match k with
  | _ => ("", "", "", false)
def tyJ9 : Nat → FieldType := fun k => match k with
  | _ => .int
abbrev wsJ90 : List Cond := u_ws RJ9 TJ9 0
theorem nmJ9 : ∀ a, a < 0 → ∀ b, b < 0 → a ≠ b → (TJ9 a).2.1 ≠ (TJ9 b).2.1 := by decide +kernel
theorem tyJ9_ok : ∀ k, k < 0 → parseFieldDescriptor (TJ9 k).2.2.1 = some (tyJ9 k) := by decide +kernel
abbrev cJ9_abs_0f7a4 : ByteArray := prog_12_method_59_code
def yJ9_abs_0f7a4 : MethodName := ⟨RJ9, "abs", "(I)I"⟩
abbrev cJ9_min_7cf53 : ByteArray := prog_12_method_69_code
def yJ9_min_7cf53 : MethodName := ⟨RJ9, "min", "(II)I"⟩
def RJ0 : String := "java/lang/String"
def TJ0 : u_T := fun k => match k with
  | _ => ("", "", "", false)
def tyJ0 : Nat → FieldType := fun k => match k with
  | _ => .int
abbrev wsJ00 : List Cond := u_ws RJ0 TJ0 0
theorem nmJ0 : ∀ a, a < 0 → ∀ b, b < 0 → a ≠ b → (TJ0 a).2.1 ≠ (TJ0 b).2.1 := by decide +kernel
theorem tyJ0_ok : ∀ k, k < 0 → parseFieldDescriptor (TJ0 k).2.2.1 = some (tyJ0 k) := by decide +kernel
abbrev cJ0_length_8abf5 : ByteArray := prog_13_method_54_code
def yJ0_length_8abf5 : MethodName := ⟨RJ0, "length", "()I"⟩
abbrev cJ0_charAt_5068e : ByteArray := prog_13_method_56_code
def yJ0_charAt_5068e : MethodName := ⟨RJ0, "charAt", "(I)C"⟩
abbrev cJ0_coder_7d493 : ByteArray := prog_13_method_152_code
def yJ0_coder_7d493 : MethodName := ⟨RJ0, "coder", "()B"⟩
abbrev cJ0_isLatin1_aae02 : ByteArray := prog_13_method_154_code
def yJ0_isLatin1_aae02 : MethodName := ⟨RJ0, "isLatin1", "()Z"⟩
abbrev cJ0_checkIndex_df160 : ByteArray := prog_13_method_155_code
def yJ0_checkIndex_df160 : MethodName := ⟨RJ0, "checkIndex", "(II)V"⟩
def RJ1 : String := "java/lang/StringLatin1"
def TJ1 : u_T := fun k => match k with
  | _ => ("", "", "", false)
def tyJ1 : Nat → FieldType := fun k => match k with
  | _ => .int
abbrev wsJ10 : List Cond := u_ws RJ1 TJ1 0
theorem nmJ1 : ∀ a, a < 0 → ∀ b, b < 0 → a ≠ b → (TJ1 a).2.1 ≠ (TJ1 b).2.1 := by decide +kernel
theorem tyJ1_ok : ∀ k, k < 0 → parseFieldDescriptor (TJ1 k).2.2.1 = some (tyJ1 k) := by decide +kernel
abbrev cJ1_charAt_3b067 : ByteArray := prog_14_method_2_code
def yJ1_charAt_3b067 : MethodName := ⟨RJ1, "charAt", "([BI)C"⟩
def RJ2 : String := "java/lang/StringUTF16"
def TJ2 : u_T := fun k => match k with
  | _ => ("", "", "", false)
def tyJ2 : Nat → FieldType := fun k => match k with
  | _ => .int
abbrev wsJ20 : List Cond := u_ws RJ2 TJ2 0
theorem nmJ2 : ∀ a, a < 0 → ∀ b, b < 0 → a ≠ b → (TJ2 a).2.1 ≠ (TJ2 b).2.1 := by decide +kernel
theorem tyJ2_ok : ∀ k, k < 0 → parseFieldDescriptor (TJ2 k).2.2.1 = some (tyJ2 k) := by decide +kernel
abbrev cJ2_getChar_3b067 : ByteArray := prog_15_method_5_code
def yJ2_getChar_3b067 : MethodName := ⟨RJ2, "getChar", "([BI)C"⟩
abbrev cJ2_length_9d52b : ByteArray := prog_15_method_6_code
def yJ2_length_9d52b : MethodName := ⟨RJ2, "length", "([B)I"⟩
abbrev cJ2_charAt_3b067 : ByteArray := prog_15_method_83_code
def yJ2_charAt_3b067 : MethodName := ⟨RJ2, "charAt", "([BI)C"⟩
abbrev cJ2_checkIndex_2214a : ByteArray := prog_15_method_91_code
def yJ2_checkIndex_2214a : MethodName := ⟨RJ2, "checkIndex", "(I[B)V"⟩
def RJ10 : String := "java/lang/System"
def TJ10 : u_T := fun k => match k with
  | _ => ("", "", "", false)
def tyJ10 : Nat → FieldType := fun k => match k with
  | _ => .int
abbrev wsJ100 : List Cond := u_ws RJ10 TJ10 0
theorem nmJ10 : ∀ a, a < 0 → ∀ b, b < 0 → a ≠ b → (TJ10 a).2.1 ≠ (TJ10 b).2.1 := by decide +kernel
theorem tyJ10_ok : ∀ k, k < 0 → parseFieldDescriptor (TJ10 k).2.2.1 = some (tyJ10 k) := by decide +kernel
def RJ3 : String := "jdk/internal/util/Preconditions"
def TJ3 : u_T := fun k => match k with
  | _ => ("", "", "", false)
def tyJ3 : Nat → FieldType := fun k => match k with
  | _ => .int
abbrev wsJ30 : List Cond := u_ws RJ3 TJ3 0
theorem nmJ3 : ∀ a, a < 0 → ∀ b, b < 0 → a ≠ b → (TJ3 a).2.1 ≠ (TJ3 b).2.1 := by decide +kernel
theorem tyJ3_ok : ∀ k, k < 0 → parseFieldDescriptor (TJ3 k).2.2.1 = some (tyJ3 k) := by decide +kernel
abbrev cJ3_checkIndex_8e157 : ByteArray := prog_17_method_11_code
def yJ3_checkIndex_8e157 : MethodName := ⟨RJ3, "checkIndex", "(IILjava/util/function/BiFunction;)I"⟩
def RL : String := "SundialWorksLaw"
abbrev cL_law : ByteArray := code
def yL_law : MethodName := ⟨RL, "law", "([I)Z"⟩
end
section
/-! THE ABSTRACT MEMORY. Cells are numbered from 0 by the order in which they are made; their contents are ints (ZI) and numbers of cells (in ZE). -/
abbrev ZE : Type := Nat × (Nat → Nat × Nat) × (Nat → Nat → Option Nat)
abbrev ZI : Type := Nat → Nat → Int32
abbrev ZG : Type := va_G × (Nat → ClassId) × Nat × (Nat → Nat)
abbrev ZL : Type := List (Option Value)
/-- the address of a cell by its number; from 1000 on: the tables and texts that nobody writes -/
def zz_b (G : ZG) (k : Nat) : Nat := if k < 1000 then G.2.2.1 + k else G.2.2.2 (k - 1000)
def zz_v (G : ZG) (v : Value) : Value := match v with
  | .ref k => .ref (zz_b G k)
  | w => w
theorem zz_v_cat (G : ZG) (v : Value) : (zz_v G v).category = v.category := by cases v <;> rfl
theorem zz_v_int (G : ZG) (x : Int32) : zz_v G (.int x) = .int x := rfl
theorem zz_v_long (G : ZG) (x : Int64) : zz_v G (.long x) = .long x := rfl
theorem zz_v_ref (G : ZG) (k : Nat) : zz_v G (.ref k) = .ref (zz_b G k) := rfl
theorem zz_sum (G : ZG) (st : List Value) : ((st.map (zz_v G)).map fun v => v.category).sum = (st.map fun v => v.category).sum := by
  rw [List.map_map]
  congr 1
  exact List.map_congr_left fun v _ => zz_v_cat G v
/-! locals, by place -/
def zz_l (G : ZG) : Nat → ZL → List (Nat × Value)
  | _, [] => []
  | i, none :: L => zz_l G (i + 1) L
  | i, some v :: L => (i, zz_v G v) :: zz_l G (i + 1) L
theorem zz_l_mem {G : ZG} {q : Nat × Value} : ∀ {L : ZL} {i : Nat}, q ∈ zz_l G i L ↔ ∃ (k : Nat) (v : Value), L[k]? = some (some v) ∧ q = (i + k, zz_v G v)
  | [], i => by simp [zz_l]
  | none :: L, i => by
    rw [zz_l, zz_l_mem (L := L) (i := i + 1)]
    constructor
    · rintro ⟨k, v, h, rfl⟩
      exact ⟨k + 1, v, by simpa using h, by rw [show i + 1 + k = i + (k + 1) by omega]⟩
    · rintro ⟨k, v, h, rfl⟩
      cases k with
      | zero => simp at h
      | succ k => exact ⟨k, v, by simpa using h, by rw [show i + 1 + k = i + (k + 1) by omega]⟩
  | some u :: L, i => by
    rw [zz_l, List.mem_cons, zz_l_mem (L := L) (i := i + 1)]
    constructor
    · rintro (rfl | ⟨k, v, h, rfl⟩)
      · exact ⟨0, u, rfl, rfl⟩
      · exact ⟨k + 1, v, by simpa using h, by rw [show i + 1 + k = i + (k + 1) by omega]⟩
    · rintro ⟨k, v, h, rfl⟩
      cases k with
      | zero =>
        left
        have h2 : u = v := by simpa using h
        rw [h2]; rfl
      | succ k => exact Or.inr ⟨k, v, by simpa using h, by rw [show i + 1 + k = i + (k + 1) by omega]⟩
def zz_h (G : ZG) (ls : Array Slot) (nL : Nat) (L : ZL) : Prop := lv_has ls nL (zz_l G 0 L) ∧ L.length ≤ nL
theorem zz_ld {G : ZG} {ls : Array Slot} {nL : Nat} {L : ZL} (h : zz_h G ls nL L) {i : Nat} {v : Value} (hL : L[i]? = some (some v)) : ls[i]? = some (.val (zz_v G v)) :=
  h.1.2.2 (i, zz_v G v) (zz_l_mem.mpr ⟨i, v, hL, by rw [Nat.zero_add]⟩)
theorem zz_set1 {G : ZG} {ls' : Array Slot} {nL i : Nat} {L : ZL} {v : Value} (hn : L.length ≤ nL) (hp : ∀ (j : Nat) (w : Value), j + 1 = i → L[j]? = some (some w) → w.category = 1)
    (h : lv_has ls' nL ((i, zz_v G v) :: (zz_l G 0 L).filter (fun q => !(q.1 == i) && !(q.1 + 1 == i && q.2.category == 2)))) : zz_h G ls' nL (L.set i (some v)) := by
  refine ⟨⟨h.1, h.2.1, fun q hq => ?_⟩, by rw [List.length_set]; exact hn⟩
  obtain ⟨k, w, h1, rfl⟩ := zz_l_mem.mp hq
  rw [Nat.zero_add] at *
  apply h.2.2
  by_cases hk : k = i
  · subst hk
    rw [List.getElem?_set] at h1
    by_cases hl : k < L.length
    · simp [hl] at h1
      subst h1
      exact List.mem_cons_self
    · simp [hl] at h1
  · rw [List.getElem?_set_ne (Ne.symm hk)] at h1
    refine List.mem_cons_of_mem _ (List.mem_filter.mpr ⟨zz_l_mem.mpr ⟨k, w, h1, by rw [Nat.zero_add]⟩, ?_⟩)
    simp only [Bool.and_eq_true, Bool.not_eq_true', beq_eq_false_iff_ne, ne_eq, Bool.and_eq_false_iff]
    refine ⟨hk, ?_⟩
    by_cases hk1 : k + 1 = i
    · right
      rw [zz_v_cat, hp k w hk1 h1]
      decide
    · exact Or.inl hk1
theorem zz_set2 {G : ZG} {ls' : Array Slot} {nL i : Nat} {L : ZL} {v : Value} (hn : L.length ≤ nL) (hp : ∀ (j : Nat) (w : Value), j + 1 = i → L[j]? = some (some w) → w.category = 1)
    (h : lv_has ls' nL ((i, zz_v G v) :: (zz_l G 0 L).filter (fun q => !(q.1 == i) && (!(q.1 == i + 1) && !(q.1 + 1 == i && q.2.category == 2))))) : zz_h G ls' nL ((L.set i (some v)).set (i + 1) none) := by
  refine ⟨⟨h.1, h.2.1, fun q hq => ?_⟩, by rw [List.length_set, List.length_set]; exact hn⟩
  obtain ⟨k, w, h1, rfl⟩ := zz_l_mem.mp hq
  rw [Nat.zero_add] at *
  apply h.2.2
  by_cases hk2 : k = i + 1
  · subst hk2
    rw [List.getElem?_set] at h1
    simp at h1
  · rw [List.getElem?_set_ne (Ne.symm hk2)] at h1
    by_cases hk : k = i
    · subst hk
      rw [List.getElem?_set] at h1
      by_cases hl : k < L.length
      · simp [hl] at h1
        subst h1
        exact List.mem_cons_self
      · simp [hl] at h1
    · rw [List.getElem?_set_ne (Ne.symm hk)] at h1
      refine List.mem_cons_of_mem _ (List.mem_filter.mpr ⟨zz_l_mem.mpr ⟨k, w, h1, by rw [Nat.zero_add]⟩, ?_⟩)
      simp only [Bool.and_eq_true, Bool.not_eq_true', beq_eq_false_iff_ne, ne_eq, Bool.and_eq_false_iff]
      refine ⟨hk, hk2, ?_⟩
      by_cases hk1 : k + 1 = i
      · right
        rw [zz_v_cat, hp k w hk1 h1]
        decide
      · exact Or.inl hk1
theorem zz_drop {G : ZG} {ls : Array Slot} {nL : Nat} {L L' : ZL} (h : zz_h G ls nL L) (hl : L'.length ≤ L.length) (hs : ∀ (k : Nat) (v : Value), L'[k]? = some (some v) → L[k]? = some (some v)) : zz_h G ls nL L' := by
  refine ⟨⟨h.1.1, h.1.2.1, fun q hq => ?_⟩, Nat.le_trans hl h.2⟩
  obtain ⟨k, w, h1, rfl⟩ := zz_l_mem.mp hq
  exact h.1.2.2 _ (zz_l_mem.mpr ⟨k, w, hs k w h1, rfl⟩)
/-! cells -/
abbrev zz_cl : List vw_C := [(RX0, TX0, 8), (RX1, TX1, 3), (RX2, TX2, 3), (RX3, TX3, 5), (RX4, TX4, 8), (RX5, TX5, 3), (RX6, TX6, 2), (RX7, TX7, 5), (RX8, TX8, 15)]
def zz_n : Nat → Nat
  | 0 => 8
  | 1 => 3
  | 2 => 3
  | 3 => 5
  | 4 => 8
  | 5 => 3
  | 6 => 2
  | 7 => 5
  | _ => 15
def zz_ty : Nat → Nat → FieldType
  | 0 => tyX0
  | 1 => tyX1
  | 2 => tyX2
  | 3 => tyX3
  | 4 => tyX4
  | 5 => tyX5
  | 6 => tyX6
  | 7 => tyX7
  | _ => tyX8
def zz_ir (ty : FieldType) : Bool := match ty with
  | .object _ => true
  | .array _ => true
  | _ => false
def zz_r (c j : Nat) : Bool := zz_ir (zz_ty c j)
/-- kinds of arrays -/
def zz_at : Nat → FieldType
  | 1 => .int
  | 2 => .boolean
  | 3 => .char
  | 4 => .object RX6
  | 5 => .object RX0
  | 6 => .object RX4
  | _ => .object RX5
def zz_fv (G : ZG) (ci : Nat) (r : Nat → Int32) (o : Nat → Option Nat) (j : Nat) : Value := if zz_r ci j = true then va_rf ((o j).map (zz_b G)) else .int (r j)
def zz_fs (G : ZG) (ci : Nat) (r : Nat → Int32) (o : Nat → Option Nat) : List Value := (List.range (zz_n ci)).map (zz_fv G ci r o)
/-- a cell of the kind kd (0: an object of the class kd.2; 1 to 3: numbers; from 4 on: cells) -/
def zz_c (G : ZG) (kd : Nat × Nat) (r : Nat → Int32) (o : Nat → Option Nat) : va_E :=
  if kd.1 = 0 then .inr (kd.2, zz_fs G kd.2 r o)
  else if kd.1 ≤ 3 then .inl (G.2.1 kd.1, kd.2, .inl r)
  else .inl (G.2.1 kd.1, kd.2, .inr (.inr (.inr (.inr (fun j => (o j).map (zz_b G))))))
def zz_w (G : ZG) (E : ZE) (im : ZI) : va_W := (List.range E.1).map (fun k => (zz_b G k, zz_c G (E.2.1 k) (im k) (E.2.2 k)))
def zz_tys (G : ZG) : List (ClassId × FieldType) := [(G.2.1 0, .byte), (G.2.1 1, .int), (G.2.1 2, .boolean), (G.2.1 3, .char), (G.2.1 4, .object RX6), (G.2.1 5, .object RX0), (G.2.1 6, .object RX4), (G.2.1 7, .object RX5)]
def zz_A (G : ZG) : Nat → Prop := fun q => G.2.2.1 ≤ q
def zz_R (G : ZG) (H : Heap) (E : ZE) (im : ZI) : Prop := E.1 ≤ 1000 ∧ va_P G.1 zz_cl (zz_w G E im) H
theorem zz_w_get {G : ZG} {E : ZE} {im : ZI} {k : Nat} (hk : k < E.1) : (zz_w G E im)[k]? = some (zz_b G k, zz_c G (E.2.1 k) (im k) (E.2.2 k)) := by
  simp [zz_w, List.getElem?_map, List.getElem?_range hk]
theorem zz_w_some {G : ZG} {E : ZE} {im : ZI} {k : Nat} {q : Nat × va_E} (h : (zz_w G E im)[k]? = some q) : k < E.1 ∧ q = (zz_b G k, zz_c G (E.2.1 k) (im k) (E.2.2 k)) := by
  have hl := (List.getElem?_eq_some_iff.mp h).1
  have hk : k < E.1 := by simpa [zz_w] using hl
  rw [zz_w_get hk] at h
  exact ⟨hk, (Option.some.inj h).symm⟩
theorem zz_w_D {G : ZG} {E : ZE} {im : ZI} (h : E.1 ≤ 1000) : va_D (zz_A G) (zz_w G E im) := by
  refine ⟨fun i j p q hi hj hpq => ?_, fun k q hk => ?_⟩
  · obtain ⟨h1, rfl⟩ := zz_w_some hi
    obtain ⟨h2, rfl⟩ := zz_w_some hj
    have e : zz_b G i = zz_b G j := hpq
    unfold zz_b at e
    rw [if_pos (by omega), if_pos (by omega)] at e
    omega
  · obtain ⟨h1, rfl⟩ := zz_w_some hk
    show G.2.2.1 ≤ zz_b G k
    unfold zz_b
    rw [if_pos (by omega)]
    omega
theorem zz_w_set {G : ZG} {E E' : ZE} {im im' : ZI} {q : Nat} (h0 : E'.1 = E.1) (hq : q < E.1) (h1 : ∀ k, k ≠ q → E'.2.1 k = E.2.1 k) (h2 : ∀ k, k ≠ q → im' k = im k) (h3 : ∀ k, k ≠ q → E'.2.2 k = E.2.2 k) :
    (zz_w G E im).set q (zz_b G q, zz_c G (E'.2.1 q) (im' q) (E'.2.2 q)) = zz_w G E' im' := by
  apply List.ext_getElem?
  intro k
  have hlen : (zz_w G E im).length = E.1 := by simp [zz_w]
  by_cases hk : k = q
  · subst hk
    rw [List.getElem?_set_self (by rw [hlen]; exact hq), zz_w_get (by rw [h0]; exact hq)]
  · rw [List.getElem?_set_ne (Ne.symm hk)]
    by_cases hl : k < E.1
    · rw [zz_w_get hl, zz_w_get (by rw [h0]; exact hl), h1 k hk, h2 k hk, h3 k hk]
    · rw [List.getElem?_eq_none (by rw [hlen]; omega), List.getElem?_eq_none (by simp [zz_w]; omega)]
theorem zz_w_push {G : ZG} {E E' : ZE} {im im' : ZI} {kd : Nat × Nat} {r : Nat → Int32} {o : Nat → Option Nat} (h0 : E'.1 = E.1 + 1) (h1 : ∀ k, k < E.1 → E'.2.1 k = E.2.1 k) (h2 : ∀ k, k < E.1 → im' k = im k) (h3 : ∀ k, k < E.1 → E'.2.2 k = E.2.2 k)
    (e1 : E'.2.1 E.1 = kd) (e2 : im' E.1 = r) (e3 : E'.2.2 E.1 = o) : zz_w G E im ++ [(zz_b G E.1, zz_c G kd r o)] = zz_w G E' im' := by
  have hr : List.range E'.1 = List.range E.1 ++ [E.1] := by rw [h0, List.range_succ]
  unfold zz_w
  rw [hr, List.map_append, List.map_cons, List.map_nil, e1, e2, e3]
  congr 1
  exact List.map_congr_left fun k hk => by
    have hk' := List.mem_range.mp hk
    rw [h1 k hk', h2 k hk', h3 k hk']
/-- the memory with one int, one reference written -/
def zz_u (im : ZI) (k j : Nat) (v : Int32) : ZI := fun k' j' => if k' = k ∧ j' = j then v else im k' j'
theorem zz_u_row (im : ZI) (k j : Nat) (v : Int32) : zz_u im k j v k = upd (im k) j v := by
  funext j'
  simp [zz_u, upd]
theorem zz_u_off (im : ZI) (k j : Nat) (v : Int32) {q : Nat} (h : q ≠ k) : zz_u im k j v q = im q := by
  funext j'
  simp [zz_u, h]
def zz_ru (o : Nat → Nat → Option Nat) (k j : Nat) (v : Option Nat) : Nat → Nat → Option Nat := fun k' j' => if k' = k ∧ j' = j then v else o k' j'
theorem zz_ru_row (o : Nat → Nat → Option Nat) (k j : Nat) (v : Option Nat) : zz_ru o k j v k = va_up (o k) j v := by
  funext j'
  simp [zz_ru, va_up]
theorem zz_ru_off (o : Nat → Nat → Option Nat) (k j : Nat) (v : Option Nat) {q : Nat} (h : q ≠ k) : zz_ru o k j v q = o q := by
  funext j'
  simp [zz_ru, h]
theorem zz_fs_get {G : ZG} {ci j : Nat} {r : Nat → Int32} {o : Nat → Option Nat} (hj : j < zz_n ci) : (zz_fs G ci r o)[j]? = some (zz_fv G ci r o j) := by
  simp [zz_fs, List.getElem?_map, List.getElem?_range hj]
theorem zz_fs_len {G : ZG} {ci : Nat} {r : Nat → Int32} {o : Nat → Option Nat} : (zz_fs G ci r o).length = zz_n ci := by simp [zz_fs]
theorem zz_fs_setI {G : ZG} {ci j : Nat} {r : Nat → Int32} {o : Nat → Option Nat} {x : Int32} (hj : j < zz_n ci) (hr : zz_r ci j = false) : (zz_fs G ci r o).set j (.int x) = zz_fs G ci (upd r j x) o := by
  apply List.ext_getElem?
  intro k
  by_cases hk : k = j
  · subst hk
    rw [List.getElem?_set_self (by rw [zz_fs_len]; exact hj), zz_fs_get hj]
    simp [zz_fv, hr, upd]
  · rw [List.getElem?_set_ne (Ne.symm hk)]
    by_cases hl : k < zz_n ci
    · rw [zz_fs_get hl, zz_fs_get hl]
      simp [zz_fv, upd, hk]
    · rw [List.getElem?_eq_none (by rw [zz_fs_len]; omega), List.getElem?_eq_none (by rw [zz_fs_len]; omega)]
theorem zz_fs_setR {G : ZG} {ci j : Nat} {r : Nat → Int32} {o : Nat → Option Nat} {x : Nat} (hj : j < zz_n ci) (hr : zz_r ci j = true) : (zz_fs G ci r o).set j (.ref (zz_b G x)) = zz_fs G ci r (va_up o j (some x)) := by
  apply List.ext_getElem?
  intro k
  by_cases hk : k = j
  · subst hk
    rw [List.getElem?_set_self (by rw [zz_fs_len]; exact hj), zz_fs_get hj]
    simp [zz_fv, hr, va_up, va_rf]
  · rw [List.getElem?_set_ne (Ne.symm hk)]
    by_cases hl : k < zz_n ci
    · rw [zz_fs_get hl, zz_fs_get hl]
      simp [zz_fv, va_up, hk]
    · rw [List.getElem?_eq_none (by rw [zz_fs_len]; omega), List.getElem?_eq_none (by rw [zz_fs_len]; omega)]
end
section
/-! THE WALK OVER THE ABSTRACT MEMORY: 'w' says of a place in a method that the machine comes to its end from there -/
def zz_isN : Cond → Bool
  | .methodLinkNest .. => true
  | .fieldLinkNest .. => true
  | _ => false
def zz_t : List Cond := lw_tbl.filter goodWord
def zz_nw : List Cond := lw_tbl.filter zz_isN
theorem zz_in {w : Cond} {i : Nat} (h : lw_tbl[i]? = some w) (g : goodWord w = true) : w ∈ zz_t := List.mem_filter.mpr ⟨List.mem_of_getElem? h, g⟩
theorem zz_inN {w : Cond} {i : Nat} (h : lw_tbl[i]? = some w) (g : zz_isN w = true) : w ∈ zz_nw := List.mem_filter.mpr ⟨List.mem_of_getElem? h, g⟩
theorem zz_pl {ws : List Cond} (ps : List Nat) (hp : ws = ps.filterMap (fun i => lw_tbl[i]?)) (h : ws.all goodWord = true) : ∀ w ∈ ws, w ∈ zz_t := by
  intro w hw
  have h1 := List.all_eq_true.mp h w hw
  rw [hp] at hw
  obtain ⟨i, -, hi⟩ := List.mem_filterMap.mp hw
  exact zz_in hi h1
theorem zz_good : ∀ w ∈ zz_t, w ∈ zz_t ∧ ((w.onTables && w.keeps) = true ∨ ∃ ty, w = .arrayClass ty) := fun w h => ⟨h, good_of_word (List.mem_filter.mp h).2⟩
theorem zz_goodIn {c : Cond} (hc : c ∈ zz_t) : GoodIn zz_t (c :: zz_t) := fun w h => by
  rcases List.mem_cons.mp h with rfl | h
  · exact zz_good _ hc
  · exact zz_good _ h
theorem zz_nw_cases {w : Cond} (h : w ∈ zz_nw) : (∃ a i x d, w = .methodLinkNest a i x d) ∨ ∃ a i b n d e, w = .fieldLinkNest a i b n d e := by
  have h1 := (List.mem_filter.mp h).2
  cases w with
  | methodLinkNest a i x d => exact Or.inl ⟨a, i, x, d, rfl⟩
  | fieldLinkNest a i b n d e => exact Or.inr ⟨a, i, b, n, d, e, rfl⟩
  | _ => simp [zz_isN] at h1
def zz_sn : Nat → String
  | 0 => "LEAST_VALUES"
  | 1 => "GREATEST_VALUES"
  | 2 => "FIRST_VALUES"
  | _ => "NUMBERS_OF_COMMANDS"
def zz_st : Nat → List Int32
  | 0 => [0, 1, 0, 1]
  | 1 => [10, 13, 60, 100]
  | 2 => [2, 5, 10, 20]
  | _ => [0, 2, 2, 3, 1, 0, 1]
def zz_xi : Nat → Nat
  | 0 => 65
  | 1 => 67
  | 2 => 69
  | 3 => 71
  | 4 => 73
  | 5 => 75
  | 6 => 77
  | 7 => 79
  | 8 => 50
  | _ => 59
def zz_xt : Nat → String
  | 0 => "wall"
  | 1 => "measure"
  | 2 => "flat"
  | 3 => "upright"
  | 4 => "decide"
  | 5 => "cast"
  | 6 => "deliver"
  | 7 => ""
  | 8 => "-"
  | _ => ";"
def zz_xl : List Nat := [4, 7, 4, 7, 6, 4, 7, 0, 1, 1]
def zz_xb : List (List Int32) := [[119, 97, 108, 108], [109, 101, 97, 115, 117, 114, 101], [102, 108, 97, 116], [117, 112, 114, 105, 103, 104, 116], [100, 101, 99, 105, 100, 101], [99, 97, 115, 116], [100, 101, 108, 105, 118, 101, 114], [], [45], [59]]
/-- what is known of the tables, the arrays that nobody writes and the texts -/
def zz_K (G : ZG) (U : State) (H : Heap) : Prop :=
  (va_K G.1 zz_cl (zz_tys G) U ∧ (∀ w ∈ zz_nw, va_Nw w U) ∧ va_AO RX6 U ∧ va_AO RX0 U ∧ va_AO RX4 U ∧ va_AO RX5 U) ∧
  (∀ i, i < 4 → va_Z "SundialWorks" (zz_sn i) "[I" (.ref (zz_b G (1000 + i))) (zz_A G) U H ∧ va_T .int (zz_b G (1000 + i)) (zz_st i).length (fun j => .int ((zz_st i).getD j 0)) (zz_A G) U H) ∧
  va_Z "java/lang/String" "COMPACT_STRINGS" "Z" (.int 1) (zz_A G) U H ∧
  vk_S 10 zz_xl zz_xb (fun i => zz_b G (1010 + i)) (fun i => zz_b G (1030 + i)) (zz_A G) U H ∧
  ∀ i, i < 10 → vk_R RX3 (zz_xi i) (zz_xt i) (zz_b G (1010 + i)) U
theorem zz_K.warm {G : ZG} {s U : State} {H : Heap} {locs : List Loc} (h : zz_K G s s.heap) (hS : va_S (zz_A G) s.heap H locs) (hU : U.heap = H) (hW : s.WarmedH U.vm) : zz_K G U U.heap := by
  obtain ⟨⟨h1, h2, h3, h4, h5, h6⟩, h7, h8, h9, h10⟩ := h
  have hv : s.vm.Alike U.vm := hW.alike
  rw [hU]
  refine ⟨⟨va_K.moved hv h1, fun w hw => ?_, va_AO.moved hv h3, va_AO.moved hv h4, va_AO.moved hv h5, va_AO.moved hv h6⟩, fun i hi => ⟨(va_Z.moved hv (h7 i hi).1).kept hS.2.1, (va_T.moved hv (h7 i hi).2).kept hS.2.1⟩, (va_Z.moved hv h8).kept hS.2.1, (vk_S.moved hv h9).kept hS.2.1, fun i hi => vk_R.warm hW (h10 i hi)⟩
  have hn := h2 w hw
  rcases zz_nw_cases hw with ⟨a, i, x, d, rfl⟩ | ⟨a, i, b, n, d, e, rfl⟩
  · exact va_Nw.warmM hW hn
  · exact va_Nw.warmF hW hn
theorem zz_K.call {G : ZG} {U : State} {g : JFrame} {mk : MethodId} {a : Array Value} (h : zz_K G U U.heap) : zz_K G (U.calling g mk a) (U.calling g mk a).heap := by
  obtain ⟨⟨h1, h2, h3, h4, h5, h6⟩, h7, h8, h9, h10⟩ := h
  have hv : U.vm.Alike (U.calling g mk a).vm := Vm.Alike.refl U.vm
  refine ⟨⟨va_K.moved hv h1, fun w hw => ?_, va_AO.moved hv h3, va_AO.moved hv h4, va_AO.moved hv h5, va_AO.moved hv h6⟩, fun i hi => ⟨va_Z.moved hv (h7 i hi).1, va_T.moved hv (h7 i hi).2⟩, va_Z.moved hv h8, vk_S.moved hv h9, fun i hi => vk_R.same rfl (h10 i hi)⟩
  have hn := h2 w hw
  rcases zz_nw_cases hw with ⟨a, i, x, d, rfl⟩ | ⟨a, i, b, n, d, e, rfl⟩
  · exact va_Nw.same (u := U) rfl rfl hn
  · exact va_Nw.same (u := U) rfl rfl hn
def zz_W (G : ZG) (p : Program) (l : Launch) (e : Env) (R : Room) (s : State) (m : MethodId) (args : Array Value) (below : List Frame) (meth : Method) (c : Code) (nL n0 mcT msT : Nat) (Q : State → Prop) (pc : Nat) (L : ZL) (st : List Value) (z : Nat) (E : ZE) (im : ZI) : Prop :=
  ∀ (H : Heap) (locs : List Loc) (ls : Array Slot), zz_R G H E im → n0 ≤ E.1 → E.1 ≤ n0 + mcT → z ≤ msT → va_S (zz_A G) s.heap H locs → zz_h G ls nL L →
    W p l e R s m args below meth c H locs (E.1 - n0) z Q (F0 m pc ls (st.map (zz_v G)))
/-- a method's end -/
def zz_ret (rt : Option FieldType) (cc : ByteArray) (pc : Nat) (st : List Value) (v : Option Value) : Prop := match rt with
  | none => decode cc pc = .ok (.return_, 1) ∧ st = [] ∧ v = none
  | some .long => decode cc pc = .ok (.lreturn, 1) ∧ ∃ r, st = [.long r] ∧ v = some (.long r)
  | some (.object _) => decode cc pc = .ok (.areturn, 1) ∧ ∃ k, st = [.ref k] ∧ v = some (.ref k)
  | some ty => decode cc pc = .ok (.ireturn, 1) ∧ ∃ r, st = [.int r] ∧ v = some (.int r) ∧ narrow ty (.int r) = .int r
def zz_S (G : ZG) (l : Launch) (own : String) (cc : ByteArray) (nL d n0 mcT msT : Nat) (isI : Bool) (rt : Option FieldType) (Qf : Option Value → ZE → ZI → Prop) (w : Nat → ZL → List Value → Nat → ZE → ZI → Prop) : Prop :=
  ∃ (p : Program) (e : Env) (R : Room) (s : State) (m : MethodId) (args : Array Value) (below : List Frame) (meth : Method) (c : Code) (Q : State → Prop),
    CallFix p m c cc nL s args zz_t own ∧ (d ≤ R.frames ∧ 36 * d ≤ R.locals ∧ mcT ≤ R.cells ∧ msT ≤ R.slots) ∧ (isI = true → meth.name = "<init>") ∧ zz_K G s s.heap ∧ s.heap.size = G.2.2.1 + n0 ∧
    (∀ (pc : Nat) (H : Heap) (locs : List Loc) (ls : Array Slot) (st : List Value) (v : Option Value) (z : Nat) (E : ZE) (im : ZI), zz_ret rt cc pc st v → zz_R G H E im → n0 ≤ E.1 → E.1 ≤ n0 + mcT → z ≤ msT → va_S (zz_A G) s.heap H locs → Qf v E im →
      W p l e R s m args below meth c H locs (E.1 - n0) z Q (F0 m pc ls (st.map (zz_v G)))) ∧
    w = zz_W G p l e R s m args below meth c nL n0 mcT msT Q
/-! contracts -/
abbrev ZY : Type := MethodName × ByteArray × Nat × Option FieldType
def zz_rm (d mc ms : Nat) : Room := { frames := d, cells := mc, slots := ms, locals := 36 * d }
def zz_Pre (G : ZG) (as : List Value) (E : ZE) (im : ZI) : Array Value → State → Prop := va_Pc (as.map (zz_v G)) (fun U => zz_R G U.heap E im ∧ zz_K G U U.heap ∧ U.heap.size = G.2.2.1 + E.1)
def zz_Post (G : ZG) (mc : Nat) (E : ZE) (Qf : Option Value → ZE → ZI → Prop) : Array Value → State → Outcome → State → Prop := fun _ st o t =>
  (∃ (v : Option Value) (E' : ZE) (im' : ZI), o = .returned (v.map (zz_v G)) ∧ E'.1 = E.1 + mc ∧ zz_R G t.heap E' im' ∧ Qf v E' im') ∧ va_F (zz_A G) st t
def zz_O (G : ZG) (l : Launch) (d : Nat) (y : ZY) (as : List Value) (E : ZE) (im : ZI) (mc ms : Nat) (Qf : Option Value → ZE → ZI → Prop) : Prop :=
  Met l y.1 (.code y.1 y.2.1 y.2.2.1 y.2.2.2 :: zz_t) (zz_rm d mc ms) (zz_Pre G as E im) (zz_Post G mc E Qf) mc ms (zz_A G)
/-- the locals with which a method begins -/
def zz_el : List Value → ZL
  | [] => []
  | v :: vs => if v.category = 2 then some v :: none :: zz_el vs else some v :: zz_el vs
theorem zz_l_rep (G : ZG) : ∀ (n i : Nat), zz_l G i (List.replicate n none) = []
  | 0, _ => rfl
  | n + 1, i => by rw [List.replicate_succ, zz_l, zz_l_rep G n (i + 1)]
theorem zz_l_el (G : ZG) (n : Nat) : ∀ (vs : List Value) (i : Nat), zz_l G i (zz_el vs ++ List.replicate n none) = lv_args i (vs.map (zz_v G))
  | [], i => zz_l_rep G n i
  | v :: vs, i => by
    rw [zz_el, List.map_cons, lv_args, zz_v_cat]
    by_cases h : v.category = 2
    · rw [if_pos h, if_pos h, List.cons_append, List.cons_append, zz_l, zz_l, zz_l_el G n vs]
    · rw [if_neg h, if_neg h, List.cons_append, zz_l, zz_l_el G n vs]
theorem zz_el_len (G : ZG) : ∀ vs : List Value, (lg_sl (vs.map (zz_v G))).length = (zz_el vs).length
  | [] => rfl
  | v :: vs => by
    have ih := zz_el_len G vs
    simp only [lg_sl] at ih
    simp only [lg_sl, List.map_cons, List.flatMap_cons, List.length_append, ih, zz_el, zz_v_cat]
    by_cases h : v.category = 2
    · simp [h]; omega
    · simp [h]; omega
theorem zz_intro {G : ZG} {l : Launch} {d : Nat} {y : ZY} {as : List Value} {E : ZE} {im : ZI} {mc ms : Nat} {Qf : Option Value → ZE → ZI → Prop} {L : ZL} {isI : Bool} (hpn : plainName y.1.cls = true) (hL : zz_el as ++ List.replicate (y.2.2.1 - (zz_el as).length) none = L) (hn : (zz_el as).length ≤ y.2.2.1) (hI : isI = true → y.1.name = "<init>")
    (h : ∀ w, zz_S G l y.1.cls y.2.1 y.2.2.1 d E.1 mc ms isI y.2.2.2 (fun v E' im' => E'.1 = E.1 + mc ∧ Qf v E' im') w → w 0 L [] 0 E im) : zz_O G l d y as E im mc ms Qf := by
  refine Met.ofW (cc := y.2.1) (maxL := y.2.2.1) (ret := y.2.2.2) hpn rfl ?_
  intro p e s m args below meth c s₁ B hml hv
  obtain ⟨rfl, hR, hK, hsz⟩ := hv
  have hx := B.exec
  have hb := B.bytes
  have hr := B.returns
  have hts := atoms_spec (ws := .code y.1 y.2.1 y.2.2.1 y.2.2.2 :: zz_t) B.pre
  have hown : s.vm.findClass y.1.cls = some m.cls := findClass_of_methodNamed B.named
  have hlocks := B.notSynchronized
  have hin : meth.name = y.1.name := (name_of_methodNamed B.named B.method).1
  have hent := lv_entry (as.map (zz_v G)) (n := y.2.2.1) (by rw [zz_el_len]; exact hn)
  rw [lg_entry_eq]
  generalize (lg_sl (as.map (zz_v G)) ++ List.replicate (y.2.2.1 - (lg_sl (as.map (zz_v G))).length) Slot.unset).toArray = ls at hent ⊢
  have hS : va_S (zz_A G) s.heap s.heap [] := va_S.rf
  have key := h _ ⟨p, e, (zz_rm d mc ms), s, m, (as.map (zz_v G)).toArray, below, meth, c, MQ below (zz_Post G mc E Qf) (as.map (zz_v G)).toArray s mc ms (zz_A G), ⟨hx, hb, hml, hown, fun w hw => hts w (List.mem_cons_of_mem _ hw)⟩, ⟨Nat.le_refl _, Nat.le_refl _, Nat.le_refl _, Nat.le_refl _⟩, fun q => hin.trans (hI q), hK, hsz, ?_, rfl⟩ s.heap [] ls hR (Nat.le_refl _) (Nat.le_add_right _ _) (Nat.zero_le _) hS ⟨?_, ?_⟩
  · rw [Nat.sub_self] at key
    exact key
  · intro pc H locs ls st v z E' im' hret hR' h1 h2 h3 hS' hQ
    refine W.widen (k := mc) (n := ms) (by omega) h3 ?_
    have hq : ∀ t : State, t.heap = H → s.WarmedH t.vm → zz_Post G mc E Qf (as.map (zz_v G)).toArray s (.returned (v.map (zz_v G))) t := fun t ht hW => ⟨⟨v, E', im', rfl, hQ.1, by rw [ht]; exact hR', hQ.2⟩, hS'.F ht⟩
    generalize hrt : y.2.2.2 = rt at hr hret
    unfold zz_ret at hret
    split at hret
    · obtain ⟨hd, rfl, rfl⟩ := hret
      exact W.vret hx hb hr hq hS'.2.2 hd
    · obtain ⟨hd, r, rfl, rfl⟩ := hret
      exact W.lret hx hb hr hq hS'.2.2 hd
    · obtain ⟨hd, k, rfl, rfl⟩ := hret
      exact W.aret hx hb hr (Or.inl ⟨_, rfl⟩) (Or.inr ⟨_, rfl⟩) hq hS'.2.2 hd
    · obtain ⟨hd, r, rfl, rfl, hnr⟩ := hret
      exact W.zret hx hb hr hnr hq hS'.2.2 hd
  · rw [← hL, zz_l_el]
    exact hent
  · rw [← hL, List.length_append, List.length_replicate]
    omega
end
section
/-! ROWS: instructions that touch no cell -/
section ZR
variable {G : ZG} {l : Launch} {own : String} {cc : ByteArray} {nL d n0 mcT msT : Nat} {isI : Bool} {rt : Option FieldType} {Qf : Option Value → ZE → ZI → Prop} {w : Nat → ZL → List Value → Nat → ZE → ZI → Prop}
variable {pc q t : Nat} {L L' : ZL} {st st' : List Value} {z : Nat} {E : ZE} {im : ZI}
theorem zz_pure (S : zz_S G l own cc nL d n0 mcT msT isI rt Qf w)
    (h : ∀ (p : Program) (e : Env) (R : Room) (s : State) (m : MethodId) (args : Array Value) (below : List Frame) (meth : Method) (c : Code) (Q : State → Prop) (H : Heap) (locs : List Loc) (cells slots : Nat) (ls : Array Slot), p.tables.exec = Jvm.exec → c.code = cc → s.vm.findClass own = some m.cls → (∀ x ∈ zz_t, x.before args s = true) → zz_h G ls nL L →
      (∀ ls', zz_h G ls' nL L' → W p l e R s m args below meth c H locs cells slots Q (F0 m q ls' (st'.map (zz_v G)))) → W p l e R s m args below meth c H locs cells slots Q (F0 m pc ls (st.map (zz_v G))))
    (k : w q L' st' z E im) : w pc L st z E im := by
  obtain ⟨p, e, R, s, m, args, below, meth, c, Q, ⟨hx, hb, hml, hown, hts⟩, -, -, -, -, -, rfl⟩ := S
  intro H locs ls h1 h2 h3 h4 h5 h6
  exact h p e R s m args below meth c Q H locs _ _ ls hx hb hown hts h6 (fun ls' h7 => k H locs ls' h1 h2 h3 h4 h5 h7)
theorem zz_br {c1 : Prop} (S : zz_S G l own cc nL d n0 mcT msT isI rt Qf w)
    (h : ∀ (p : Program) (e : Env) (R : Room) (s : State) (m : MethodId) (args : Array Value) (below : List Frame) (meth : Method) (c : Code) (Q : State → Prop) (H : Heap) (locs : List Loc) (cells slots : Nat) (ls : Array Slot), p.tables.exec = Jvm.exec → c.code = cc →
      (c1 → W p l e R s m args below meth c H locs cells slots Q (F0 m t ls (st'.map (zz_v G)))) → (¬ c1 → W p l e R s m args below meth c H locs cells slots Q (F0 m q ls (st'.map (zz_v G)))) → W p l e R s m args below meth c H locs cells slots Q (F0 m pc ls (st.map (zz_v G))))
    (kt : c1 → w t L st' z E im) (kf : ¬ c1 → w q L st' z E im) : w pc L st z E im := by
  obtain ⟨p, e, R, s, m, args, below, meth, c, Q, ⟨hx, hb, hml, hown, hts⟩, -, -, -, -, -, rfl⟩ := S
  intro H locs ls h1 h2 h3 h4 h5 h6
  exact h p e R s m args below meth c Q H locs _ _ ls hx hb (fun hc => kt hc H locs ls h1 h2 h3 h4 h5 h6) (fun hc => kf hc H locs ls h1 h2 h3 h4 h5 h6)
/-- fewer locals known -/
theorem zz_lok (S : zz_S G l own cc nL d n0 mcT msT isI rt Qf w) (hl : L'.length ≤ L.length) (hs : ∀ (k : Nat) (v : Value), L'[k]? = some (some v) → L[k]? = some (some v)) (k : w pc L' st z E im) : w pc L st z E im := by
  obtain ⟨p, e, R, s, m, args, below, meth, c, Q, ⟨hx, hb, hml, hown, hts⟩, -, -, -, -, -, rfl⟩ := S
  intro H locs ls h1 h2 h3 h4 h5 h6
  exact k H locs ls h1 h2 h3 h4 h5 (zz_drop h6 hl hs)

theorem zz_iconst (S : zz_S G l own cc nL d n0 mcT msT isI rt Qf w) {n : Int} {v : Int32} (hv : Int32.ofInt n = v) (hd : decode cc pc = .ok (.iconst n, 1)) (hq : pc + 1 = q) (k : w q (L) (.int v :: st) z E im) : w pc (L) (st) z E im := by
  subst hq
  exact zz_pure S (fun _ _ _ _ _ _ _ _ _ _ _ _ _ _ _ hx hb hown hts hl kk => lv_iconst hx hb hd hv (kk _ hl)) k
theorem zz_bipush (S : zz_S G l own cc nL d n0 mcT msT isI rt Qf w) {n : Int} {v : Int32} (hv : (Int8.ofInt n).toInt32 = v) (hd : decode cc pc = .ok (.bipush n, 2)) (hq : pc + 2 = q) (k : w q (L) (.int v :: st) z E im) : w pc (L) (st) z E im := by
  subst hq
  exact zz_pure S (fun _ _ _ _ _ _ _ _ _ _ _ _ _ _ _ hx hb hown hts hl kk => lv_bipush hx hb hd hv (kk _ hl)) k
theorem zz_sipush (S : zz_S G l own cc nL d n0 mcT msT isI rt Qf w) {n : Int} {v : Int32} (hv : (Int16.ofInt n).toInt32 = v) (hd : decode cc pc = .ok (.sipush n, 3)) (hq : pc + 3 = q) (k : w q (L) (.int v :: st) z E im) : w pc (L) (st) z E im := by
  subst hq
  exact zz_pure S (fun _ _ _ _ _ _ _ _ _ _ _ _ _ _ _ hx hb hown hts hl kk => lv_sipush hx hb hd hv (kk _ hl)) k
theorem zz_lconst (S : zz_S G l own cc nL d n0 mcT msT isI rt Qf w) {n : Fin 2} {v : Int64} (hv : Int64.ofNat (n : Nat) = v) (hd : decode cc pc = .ok (.lconst n, 1)) (hq : pc + 1 = q) (k : w q (L) (.long v :: st) z E im) : w pc (L) (st) z E im := by
  subst hq
  exact zz_pure S (fun _ _ _ _ _ _ _ _ _ _ _ _ _ _ _ hx hb hown hts hl kk => lv_lconst hx hb hd hv (kk _ hl)) k
theorem zz_ldc (S : zz_S G l own cc nL d n0 mcT msT isI rt Qf w) {index : Nat} {v : Int32} (hc : Cond.constant own index v ∈ zz_t) (hd : decode cc pc = .ok (.ldc index, 2)) (hq : pc + 2 = q) (k : w q (L) (.int v :: st) z E im) : w pc (L) (st) z E im := by
  subst hq
  exact zz_pure S (fun _ _ _ _ _ _ _ _ _ _ _ _ _ _ _ hx hb hown hts hl kk => lv_ldc hx hb hown (hts _ hc) hd (kk _ hl)) k
theorem zz_ldcw (S : zz_S G l own cc nL d n0 mcT msT isI rt Qf w) {index : Nat} {v : Int32} (hc : Cond.constant own index v ∈ zz_t) (hd : decode cc pc = .ok (.ldc_w index, 3)) (hq : pc + 3 = q) (k : w q (L) (.int v :: st) z E im) : w pc (L) (st) z E im := by
  subst hq
  exact zz_pure S (fun _ _ _ _ _ _ _ _ _ _ _ _ _ _ _ hx hb hown hts hl kk => lv_ldcw hx hb hown (hts _ hc) hd (kk _ hl)) k
theorem zz_ldc2 (S : zz_S G l own cc nL d n0 mcT msT isI rt Qf w) {index : Nat} {v : Int64} (hc : Cond.constantLong own index v ∈ zz_t) (hd : decode cc pc = .ok (.ldc2_w index, 3)) (hq : pc + 3 = q) (k : w q (L) (.long v :: st) z E im) : w pc (L) (st) z E im := by
  subst hq
  exact zz_pure S (fun _ _ _ _ _ _ _ _ _ _ _ _ _ _ _ hx hb hown hts hl kk => lv_ldc2 hx hb hown (hts _ hc) hd (kk _ hl)) k
theorem zz_iadd (S : zz_S G l own cc nL d n0 mcT msT isI rt Qf w) {x y : Int32} (hd : decode cc pc = .ok (.iadd, 1)) (hq : pc + 1 = q) (k : w q (L) (.int (x + y) :: st) z E im) : w pc (L) (.int y :: .int x :: st) z E im := by
  subst hq
  exact zz_pure S (fun _ _ _ _ _ _ _ _ _ _ _ _ _ _ _ hx hb hown hts hl kk => lv_iadd hx hb hd (kk _ hl)) k
theorem zz_isub (S : zz_S G l own cc nL d n0 mcT msT isI rt Qf w) {x y : Int32} (hd : decode cc pc = .ok (.isub, 1)) (hq : pc + 1 = q) (k : w q (L) (.int (x - y) :: st) z E im) : w pc (L) (.int y :: .int x :: st) z E im := by
  subst hq
  exact zz_pure S (fun _ _ _ _ _ _ _ _ _ _ _ _ _ _ _ hx hb hown hts hl kk => lv_isub hx hb hd (kk _ hl)) k
theorem zz_imul (S : zz_S G l own cc nL d n0 mcT msT isI rt Qf w) {x y : Int32} (hd : decode cc pc = .ok (.imul, 1)) (hq : pc + 1 = q) (k : w q (L) (.int (x * y) :: st) z E im) : w pc (L) (.int y :: .int x :: st) z E im := by
  subst hq
  exact zz_pure S (fun _ _ _ _ _ _ _ _ _ _ _ _ _ _ _ hx hb hown hts hl kk => lv_imul hx hb hd (kk _ hl)) k
theorem zz_iand (S : zz_S G l own cc nL d n0 mcT msT isI rt Qf w) {x y : Int32} (hd : decode cc pc = .ok (.iand, 1)) (hq : pc + 1 = q) (k : w q (L) (.int (x &&& y) :: st) z E im) : w pc (L) (.int y :: .int x :: st) z E im := by
  subst hq
  exact zz_pure S (fun _ _ _ _ _ _ _ _ _ _ _ _ _ _ _ hx hb hown hts hl kk => lv_iand hx hb hd (kk _ hl)) k
theorem zz_ior (S : zz_S G l own cc nL d n0 mcT msT isI rt Qf w) {x y : Int32} (hd : decode cc pc = .ok (.ior, 1)) (hq : pc + 1 = q) (k : w q (L) (.int (x ||| y) :: st) z E im) : w pc (L) (.int y :: .int x :: st) z E im := by
  subst hq
  exact zz_pure S (fun _ _ _ _ _ _ _ _ _ _ _ _ _ _ _ hx hb hown hts hl kk => lv_ior hx hb hd (kk _ hl)) k
theorem zz_ixor (S : zz_S G l own cc nL d n0 mcT msT isI rt Qf w) {x y : Int32} (hd : decode cc pc = .ok (.ixor, 1)) (hq : pc + 1 = q) (k : w q (L) (.int (x ^^^ y) :: st) z E im) : w pc (L) (.int y :: .int x :: st) z E im := by
  subst hq
  exact zz_pure S (fun _ _ _ _ _ _ _ _ _ _ _ _ _ _ _ hx hb hown hts hl kk => lv_ixor hx hb hd (kk _ hl)) k
theorem zz_ishl (S : zz_S G l own cc nL d n0 mcT msT isI rt Qf w) {x y : Int32} (hd : decode cc pc = .ok (.ishl, 1)) (hq : pc + 1 = q) (k : w q (L) (.int (x <<< (y &&& 31)) :: st) z E im) : w pc (L) (.int y :: .int x :: st) z E im := by
  subst hq
  exact zz_pure S (fun _ _ _ _ _ _ _ _ _ _ _ _ _ _ _ hx hb hown hts hl kk => lv_ishl hx hb hd (kk _ hl)) k
theorem zz_ishr (S : zz_S G l own cc nL d n0 mcT msT isI rt Qf w) {x y : Int32} (hd : decode cc pc = .ok (.ishr, 1)) (hq : pc + 1 = q) (k : w q (L) (.int (x >>> (y &&& 31)) :: st) z E im) : w pc (L) (.int y :: .int x :: st) z E im := by
  subst hq
  exact zz_pure S (fun _ _ _ _ _ _ _ _ _ _ _ _ _ _ _ hx hb hown hts hl kk => lv_ishr hx hb hd (kk _ hl)) k
theorem zz_iushr (S : zz_S G l own cc nL d n0 mcT msT isI rt Qf w) {x y : Int32} (hd : decode cc pc = .ok (.iushr, 1)) (hq : pc + 1 = q) (k : w q (L) (.int ((x.toUInt32 >>> (y.toUInt32 &&& Int32.toUInt32 31)).toInt32) :: st) z E im) : w pc (L) (.int y :: .int x :: st) z E im := by
  subst hq
  exact zz_pure S (fun _ _ _ _ _ _ _ _ _ _ _ _ _ _ _ hx hb hown hts hl kk => lv_iushr hx hb hd rfl (kk _ hl)) k
theorem zz_idiv (S : zz_S G l own cc nL d n0 mcT msT isI rt Qf w) {x y : Int32} (hne : ¬ y = 0) (hd : decode cc pc = .ok (.idiv, 1)) (hq : pc + 1 = q) (k : w q (L) (.int (x / y) :: st) z E im) : w pc (L) (.int y :: .int x :: st) z E im := by
  subst hq
  exact zz_pure S (fun _ _ _ _ _ _ _ _ _ _ _ _ _ _ _ hx hb hown hts hl kk => lv_idiv hx hb hd hne (kk _ hl)) k
theorem zz_irem (S : zz_S G l own cc nL d n0 mcT msT isI rt Qf w) {x y : Int32} (hne : ¬ y = 0) (hd : decode cc pc = .ok (.irem, 1)) (hq : pc + 1 = q) (k : w q (L) (.int (x - x / y * y) :: st) z E im) : w pc (L) (.int y :: .int x :: st) z E im := by
  subst hq
  exact zz_pure S (fun _ _ _ _ _ _ _ _ _ _ _ _ _ _ _ hx hb hown hts hl kk => lv_irem hx hb hd hne (kk _ hl)) k
theorem zz_ineg (S : zz_S G l own cc nL d n0 mcT msT isI rt Qf w) {x : Int32} (hd : decode cc pc = .ok (.ineg, 1)) (hq : pc + 1 = q) (k : w q (L) (.int (-x) :: st) z E im) : w pc (L) (.int x :: st) z E im := by
  subst hq
  exact zz_pure S (fun _ _ _ _ _ _ _ _ _ _ _ _ _ _ _ hx hb hown hts hl kk => lv_ineg hx hb hd (kk _ hl)) k
theorem zz_ladd (S : zz_S G l own cc nL d n0 mcT msT isI rt Qf w) {x y : Int64} (hd : decode cc pc = .ok (.ladd, 1)) (hq : pc + 1 = q) (k : w q (L) (.long (x + y) :: st) z E im) : w pc (L) (.long y :: .long x :: st) z E im := by
  subst hq
  exact zz_pure S (fun _ _ _ _ _ _ _ _ _ _ _ _ _ _ _ hx hb hown hts hl kk => lv_ladd hx hb hd (kk _ hl)) k
theorem zz_lsub (S : zz_S G l own cc nL d n0 mcT msT isI rt Qf w) {x y : Int64} (hd : decode cc pc = .ok (.lsub, 1)) (hq : pc + 1 = q) (k : w q (L) (.long (x - y) :: st) z E im) : w pc (L) (.long y :: .long x :: st) z E im := by
  subst hq
  exact zz_pure S (fun _ _ _ _ _ _ _ _ _ _ _ _ _ _ _ hx hb hown hts hl kk => lv_lsub hx hb hd (kk _ hl)) k
theorem zz_lmul (S : zz_S G l own cc nL d n0 mcT msT isI rt Qf w) {x y : Int64} (hd : decode cc pc = .ok (.lmul, 1)) (hq : pc + 1 = q) (k : w q (L) (.long (x * y) :: st) z E im) : w pc (L) (.long y :: .long x :: st) z E im := by
  subst hq
  exact zz_pure S (fun _ _ _ _ _ _ _ _ _ _ _ _ _ _ _ hx hb hown hts hl kk => lv_lmul hx hb hd (kk _ hl)) k
theorem zz_ldiv (S : zz_S G l own cc nL d n0 mcT msT isI rt Qf w) {x y : Int64} (hne : ¬ y = 0) (hd : decode cc pc = .ok (.ldiv, 1)) (hq : pc + 1 = q) (k : w q (L) (.long (x / y) :: st) z E im) : w pc (L) (.long y :: .long x :: st) z E im := by
  subst hq
  exact zz_pure S (fun _ _ _ _ _ _ _ _ _ _ _ _ _ _ _ hx hb hown hts hl kk => lv_ldiv hx hb hd hne (kk _ hl)) k
theorem zz_lrem (S : zz_S G l own cc nL d n0 mcT msT isI rt Qf w) {x y : Int64} (hne : ¬ y = 0) (hd : decode cc pc = .ok (.lrem, 1)) (hq : pc + 1 = q) (k : w q (L) (.long (x - x / y * y) :: st) z E im) : w pc (L) (.long y :: .long x :: st) z E im := by
  subst hq
  exact zz_pure S (fun _ _ _ _ _ _ _ _ _ _ _ _ _ _ _ hx hb hown hts hl kk => lv_lrem hx hb hd hne (kk _ hl)) k
theorem zz_lneg (S : zz_S G l own cc nL d n0 mcT msT isI rt Qf w) {x : Int64} (hd : decode cc pc = .ok (.lneg, 1)) (hq : pc + 1 = q) (k : w q (L) (.long (-x) :: st) z E im) : w pc (L) (.long x :: st) z E im := by
  subst hq
  exact zz_pure S (fun _ _ _ _ _ _ _ _ _ _ _ _ _ _ _ hx hb hown hts hl kk => lv_lneg hx hb hd (kk _ hl)) k
theorem zz_lcmp (S : zz_S G l own cc nL d n0 mcT msT isI rt Qf w) {x y : Int64} (hd : decode cc pc = .ok (.lcmp, 1)) (hq : pc + 1 = q) (k : w q (L) (.int (lg_cmp x y) :: st) z E im) : w pc (L) (.long y :: .long x :: st) z E im := by
  subst hq
  exact zz_pure S (fun _ _ _ _ _ _ _ _ _ _ _ _ _ _ _ hx hb hown hts hl kk => W.lcmp hx hb hd (kk _ hl)) k
theorem zz_i2l (S : zz_S G l own cc nL d n0 mcT msT isI rt Qf w) {x : Int32} (hd : decode cc pc = .ok (.i2l, 1)) (hq : pc + 1 = q) (k : w q (L) (.long x.toInt64 :: st) z E im) : w pc (L) (.int x :: st) z E im := by
  subst hq
  exact zz_pure S (fun _ _ _ _ _ _ _ _ _ _ _ _ _ _ _ hx hb hown hts hl kk => lv_i2l hx hb hd rfl (kk _ hl)) k
theorem zz_l2i (S : zz_S G l own cc nL d n0 mcT msT isI rt Qf w) {x : Int64} (hd : decode cc pc = .ok (.l2i, 1)) (hq : pc + 1 = q) (k : w q (L) (.int x.toInt32 :: st) z E im) : w pc (L) (.long x :: st) z E im := by
  subst hq
  exact zz_pure S (fun _ _ _ _ _ _ _ _ _ _ _ _ _ _ _ hx hb hown hts hl kk => lv_l2i hx hb hd rfl (kk _ hl)) k
theorem zz_i2c (S : zz_S G l own cc nL d n0 mcT msT isI rt Qf w) {x : Int32} (hd : decode cc pc = .ok (.i2c, 1)) (hq : pc + 1 = q) (k : w q (L) (.int ((x.toUInt32 % 65536).toInt32) :: st) z E im) : w pc (L) (.int x :: st) z E im := by
  subst hq
  exact zz_pure S (fun _ _ _ _ _ _ _ _ _ _ _ _ _ _ _ hx hb hown hts hl kk => lv_i2c hx hb hd rfl (kk _ hl)) k
theorem zz_dup (S : zz_S G l own cc nL d n0 mcT msT isI rt Qf w) {v : Value} (hc : v.category = 1) (hd : decode cc pc = .ok (.dup, 1)) (hq : pc + 1 = q) (k : w q (L) (v :: v :: st) z E im) : w pc (L) (v :: st) z E im := by
  subst hq
  exact zz_pure S (fun _ _ _ _ _ _ _ _ _ _ _ _ _ _ _ hx hb hown hts hl kk => lv_dup hx hb hd ((zz_v_cat _ _).trans hc) (kk _ hl)) k
theorem zz_pop (S : zz_S G l own cc nL d n0 mcT msT isI rt Qf w) {v : Value} (hc : v.category = 1) (hd : decode cc pc = .ok (.pop, 1)) (hq : pc + 1 = q) (k : w q (L) (st) z E im) : w pc (L) (v :: st) z E im := by
  subst hq
  exact zz_pure S (fun _ _ _ _ _ _ _ _ _ _ _ _ _ _ _ hx hb hown hts hl kk => lv_pop hx hb hd ((zz_v_cat _ _).trans hc) (kk _ hl)) k
theorem zz_dup2 (S : zz_S G l own cc nL d n0 mcT msT isI rt Qf w) {v u : Value} (hc : v.category = 1) (hc2 : u.category = 1) (hd : decode cc pc = .ok (.dup2, 1)) (hq : pc + 1 = q) (k : w q (L) (v :: u :: v :: u :: st) z E im) : w pc (L) (v :: u :: st) z E im := by
  subst hq
  exact zz_pure S (fun _ _ _ _ _ _ _ _ _ _ _ _ _ _ _ hx hb hown hts hl kk => lv_dup2_11 hx hb hd ((zz_v_cat _ _).trans hc) ((zz_v_cat _ _).trans hc2) (kk _ hl)) k
theorem zz_iload_0 (S : zz_S G l own cc nL d n0 mcT msT isI rt Qf w) {x : Int32} (hd : decode cc pc = .ok (.iload_n 0, 1)) (hq : pc + 1 = q) (k : w q (some (.int x) :: L) (.int x :: st) z E im) : w pc (some (.int x) :: L) (st) z E im := by
  subst hq
  exact zz_pure S (fun _ _ _ _ _ _ _ _ _ _ _ _ _ _ _ hx hb hown hts hl kk => lv_iload_n (i := 0) hx hb hd rfl (zz_ld (i := 0) (v := .int x) hl rfl) (kk _ hl)) k
theorem zz_iload_1 (S : zz_S G l own cc nL d n0 mcT msT isI rt Qf w) {a0 : Option Value} {x : Int32} (hd : decode cc pc = .ok (.iload_n 1, 1)) (hq : pc + 1 = q) (k : w q (a0 :: some (.int x) :: L) (.int x :: st) z E im) : w pc (a0 :: some (.int x) :: L) (st) z E im := by
  subst hq
  exact zz_pure S (fun _ _ _ _ _ _ _ _ _ _ _ _ _ _ _ hx hb hown hts hl kk => lv_iload_n (i := 1) hx hb hd rfl (zz_ld (i := 1) (v := .int x) hl rfl) (kk _ hl)) k
theorem zz_iload_2 (S : zz_S G l own cc nL d n0 mcT msT isI rt Qf w) {a0 a1 : Option Value} {x : Int32} (hd : decode cc pc = .ok (.iload_n 2, 1)) (hq : pc + 1 = q) (k : w q (a0 :: a1 :: some (.int x) :: L) (.int x :: st) z E im) : w pc (a0 :: a1 :: some (.int x) :: L) (st) z E im := by
  subst hq
  exact zz_pure S (fun _ _ _ _ _ _ _ _ _ _ _ _ _ _ _ hx hb hown hts hl kk => lv_iload_n (i := 2) hx hb hd rfl (zz_ld (i := 2) (v := .int x) hl rfl) (kk _ hl)) k
theorem zz_iload_3 (S : zz_S G l own cc nL d n0 mcT msT isI rt Qf w) {a0 a1 a2 : Option Value} {x : Int32} (hd : decode cc pc = .ok (.iload_n 3, 1)) (hq : pc + 1 = q) (k : w q (a0 :: a1 :: a2 :: some (.int x) :: L) (.int x :: st) z E im) : w pc (a0 :: a1 :: a2 :: some (.int x) :: L) (st) z E im := by
  subst hq
  exact zz_pure S (fun _ _ _ _ _ _ _ _ _ _ _ _ _ _ _ hx hb hown hts hl kk => lv_iload_n (i := 3) hx hb hd rfl (zz_ld (i := 3) (v := .int x) hl rfl) (kk _ hl)) k
theorem zz_iload_4 (S : zz_S G l own cc nL d n0 mcT msT isI rt Qf w) {a0 a1 a2 a3 : Option Value} {x : Int32} (hd : decode cc pc = .ok (.iload 4, 2)) (hq : pc + 2 = q) (k : w q (a0 :: a1 :: a2 :: a3 :: some (.int x) :: L) (.int x :: st) z E im) : w pc (a0 :: a1 :: a2 :: a3 :: some (.int x) :: L) (st) z E im := by
  subst hq
  exact zz_pure S (fun _ _ _ _ _ _ _ _ _ _ _ _ _ _ _ hx hb hown hts hl kk => lv_iload hx hb hd (zz_ld (i := 4) (v := .int x) hl rfl) (kk _ hl)) k
theorem zz_iload_5 (S : zz_S G l own cc nL d n0 mcT msT isI rt Qf w) {a0 a1 a2 a3 a4 : Option Value} {x : Int32} (hd : decode cc pc = .ok (.iload 5, 2)) (hq : pc + 2 = q) (k : w q (a0 :: a1 :: a2 :: a3 :: a4 :: some (.int x) :: L) (.int x :: st) z E im) : w pc (a0 :: a1 :: a2 :: a3 :: a4 :: some (.int x) :: L) (st) z E im := by
  subst hq
  exact zz_pure S (fun _ _ _ _ _ _ _ _ _ _ _ _ _ _ _ hx hb hown hts hl kk => lv_iload hx hb hd (zz_ld (i := 5) (v := .int x) hl rfl) (kk _ hl)) k
theorem zz_iload_6 (S : zz_S G l own cc nL d n0 mcT msT isI rt Qf w) {a0 a1 a2 a3 a4 a5 : Option Value} {x : Int32} (hd : decode cc pc = .ok (.iload 6, 2)) (hq : pc + 2 = q) (k : w q (a0 :: a1 :: a2 :: a3 :: a4 :: a5 :: some (.int x) :: L) (.int x :: st) z E im) : w pc (a0 :: a1 :: a2 :: a3 :: a4 :: a5 :: some (.int x) :: L) (st) z E im := by
  subst hq
  exact zz_pure S (fun _ _ _ _ _ _ _ _ _ _ _ _ _ _ _ hx hb hown hts hl kk => lv_iload hx hb hd (zz_ld (i := 6) (v := .int x) hl rfl) (kk _ hl)) k
theorem zz_iload_7 (S : zz_S G l own cc nL d n0 mcT msT isI rt Qf w) {a0 a1 a2 a3 a4 a5 a6 : Option Value} {x : Int32} (hd : decode cc pc = .ok (.iload 7, 2)) (hq : pc + 2 = q) (k : w q (a0 :: a1 :: a2 :: a3 :: a4 :: a5 :: a6 :: some (.int x) :: L) (.int x :: st) z E im) : w pc (a0 :: a1 :: a2 :: a3 :: a4 :: a5 :: a6 :: some (.int x) :: L) (st) z E im := by
  subst hq
  exact zz_pure S (fun _ _ _ _ _ _ _ _ _ _ _ _ _ _ _ hx hb hown hts hl kk => lv_iload hx hb hd (zz_ld (i := 7) (v := .int x) hl rfl) (kk _ hl)) k
theorem zz_iload_8 (S : zz_S G l own cc nL d n0 mcT msT isI rt Qf w) {a0 a1 a2 a3 a4 a5 a6 a7 : Option Value} {x : Int32} (hd : decode cc pc = .ok (.iload 8, 2)) (hq : pc + 2 = q) (k : w q (a0 :: a1 :: a2 :: a3 :: a4 :: a5 :: a6 :: a7 :: some (.int x) :: L) (.int x :: st) z E im) : w pc (a0 :: a1 :: a2 :: a3 :: a4 :: a5 :: a6 :: a7 :: some (.int x) :: L) (st) z E im := by
  subst hq
  exact zz_pure S (fun _ _ _ _ _ _ _ _ _ _ _ _ _ _ _ hx hb hown hts hl kk => lv_iload hx hb hd (zz_ld (i := 8) (v := .int x) hl rfl) (kk _ hl)) k
theorem zz_iload_9 (S : zz_S G l own cc nL d n0 mcT msT isI rt Qf w) {a0 a1 a2 a3 a4 a5 a6 a7 a8 : Option Value} {x : Int32} (hd : decode cc pc = .ok (.iload 9, 2)) (hq : pc + 2 = q) (k : w q (a0 :: a1 :: a2 :: a3 :: a4 :: a5 :: a6 :: a7 :: a8 :: some (.int x) :: L) (.int x :: st) z E im) : w pc (a0 :: a1 :: a2 :: a3 :: a4 :: a5 :: a6 :: a7 :: a8 :: some (.int x) :: L) (st) z E im := by
  subst hq
  exact zz_pure S (fun _ _ _ _ _ _ _ _ _ _ _ _ _ _ _ hx hb hown hts hl kk => lv_iload hx hb hd (zz_ld (i := 9) (v := .int x) hl rfl) (kk _ hl)) k
theorem zz_iload_10 (S : zz_S G l own cc nL d n0 mcT msT isI rt Qf w) {a0 a1 a2 a3 a4 a5 a6 a7 a8 a9 : Option Value} {x : Int32} (hd : decode cc pc = .ok (.iload 10, 2)) (hq : pc + 2 = q) (k : w q (a0 :: a1 :: a2 :: a3 :: a4 :: a5 :: a6 :: a7 :: a8 :: a9 :: some (.int x) :: L) (.int x :: st) z E im) : w pc (a0 :: a1 :: a2 :: a3 :: a4 :: a5 :: a6 :: a7 :: a8 :: a9 :: some (.int x) :: L) (st) z E im := by
  subst hq
  exact zz_pure S (fun _ _ _ _ _ _ _ _ _ _ _ _ _ _ _ hx hb hown hts hl kk => lv_iload hx hb hd (zz_ld (i := 10) (v := .int x) hl rfl) (kk _ hl)) k
theorem zz_iload_11 (S : zz_S G l own cc nL d n0 mcT msT isI rt Qf w) {a0 a1 a2 a3 a4 a5 a6 a7 a8 a9 a10 : Option Value} {x : Int32} (hd : decode cc pc = .ok (.iload 11, 2)) (hq : pc + 2 = q) (k : w q (a0 :: a1 :: a2 :: a3 :: a4 :: a5 :: a6 :: a7 :: a8 :: a9 :: a10 :: some (.int x) :: L) (.int x :: st) z E im) : w pc (a0 :: a1 :: a2 :: a3 :: a4 :: a5 :: a6 :: a7 :: a8 :: a9 :: a10 :: some (.int x) :: L) (st) z E im := by
  subst hq
  exact zz_pure S (fun _ _ _ _ _ _ _ _ _ _ _ _ _ _ _ hx hb hown hts hl kk => lv_iload hx hb hd (zz_ld (i := 11) (v := .int x) hl rfl) (kk _ hl)) k
theorem zz_iload_12 (S : zz_S G l own cc nL d n0 mcT msT isI rt Qf w) {a0 a1 a2 a3 a4 a5 a6 a7 a8 a9 a10 a11 : Option Value} {x : Int32} (hd : decode cc pc = .ok (.iload 12, 2)) (hq : pc + 2 = q) (k : w q (a0 :: a1 :: a2 :: a3 :: a4 :: a5 :: a6 :: a7 :: a8 :: a9 :: a10 :: a11 :: some (.int x) :: L) (.int x :: st) z E im) : w pc (a0 :: a1 :: a2 :: a3 :: a4 :: a5 :: a6 :: a7 :: a8 :: a9 :: a10 :: a11 :: some (.int x) :: L) (st) z E im := by
  subst hq
  exact zz_pure S (fun _ _ _ _ _ _ _ _ _ _ _ _ _ _ _ hx hb hown hts hl kk => lv_iload hx hb hd (zz_ld (i := 12) (v := .int x) hl rfl) (kk _ hl)) k
theorem zz_iload_13 (S : zz_S G l own cc nL d n0 mcT msT isI rt Qf w) {a0 a1 a2 a3 a4 a5 a6 a7 a8 a9 a10 a11 a12 : Option Value} {x : Int32} (hd : decode cc pc = .ok (.iload 13, 2)) (hq : pc + 2 = q) (k : w q (a0 :: a1 :: a2 :: a3 :: a4 :: a5 :: a6 :: a7 :: a8 :: a9 :: a10 :: a11 :: a12 :: some (.int x) :: L) (.int x :: st) z E im) : w pc (a0 :: a1 :: a2 :: a3 :: a4 :: a5 :: a6 :: a7 :: a8 :: a9 :: a10 :: a11 :: a12 :: some (.int x) :: L) (st) z E im := by
  subst hq
  exact zz_pure S (fun _ _ _ _ _ _ _ _ _ _ _ _ _ _ _ hx hb hown hts hl kk => lv_iload hx hb hd (zz_ld (i := 13) (v := .int x) hl rfl) (kk _ hl)) k
theorem zz_iload_14 (S : zz_S G l own cc nL d n0 mcT msT isI rt Qf w) {a0 a1 a2 a3 a4 a5 a6 a7 a8 a9 a10 a11 a12 a13 : Option Value} {x : Int32} (hd : decode cc pc = .ok (.iload 14, 2)) (hq : pc + 2 = q) (k : w q (a0 :: a1 :: a2 :: a3 :: a4 :: a5 :: a6 :: a7 :: a8 :: a9 :: a10 :: a11 :: a12 :: a13 :: some (.int x) :: L) (.int x :: st) z E im) : w pc (a0 :: a1 :: a2 :: a3 :: a4 :: a5 :: a6 :: a7 :: a8 :: a9 :: a10 :: a11 :: a12 :: a13 :: some (.int x) :: L) (st) z E im := by
  subst hq
  exact zz_pure S (fun _ _ _ _ _ _ _ _ _ _ _ _ _ _ _ hx hb hown hts hl kk => lv_iload hx hb hd (zz_ld (i := 14) (v := .int x) hl rfl) (kk _ hl)) k
theorem zz_iload_15 (S : zz_S G l own cc nL d n0 mcT msT isI rt Qf w) {a0 a1 a2 a3 a4 a5 a6 a7 a8 a9 a10 a11 a12 a13 a14 : Option Value} {x : Int32} (hd : decode cc pc = .ok (.iload 15, 2)) (hq : pc + 2 = q) (k : w q (a0 :: a1 :: a2 :: a3 :: a4 :: a5 :: a6 :: a7 :: a8 :: a9 :: a10 :: a11 :: a12 :: a13 :: a14 :: some (.int x) :: L) (.int x :: st) z E im) : w pc (a0 :: a1 :: a2 :: a3 :: a4 :: a5 :: a6 :: a7 :: a8 :: a9 :: a10 :: a11 :: a12 :: a13 :: a14 :: some (.int x) :: L) (st) z E im := by
  subst hq
  exact zz_pure S (fun _ _ _ _ _ _ _ _ _ _ _ _ _ _ _ hx hb hown hts hl kk => lv_iload hx hb hd (zz_ld (i := 15) (v := .int x) hl rfl) (kk _ hl)) k
theorem zz_iload_16 (S : zz_S G l own cc nL d n0 mcT msT isI rt Qf w) {a0 a1 a2 a3 a4 a5 a6 a7 a8 a9 a10 a11 a12 a13 a14 a15 : Option Value} {x : Int32} (hd : decode cc pc = .ok (.iload 16, 2)) (hq : pc + 2 = q) (k : w q (a0 :: a1 :: a2 :: a3 :: a4 :: a5 :: a6 :: a7 :: a8 :: a9 :: a10 :: a11 :: a12 :: a13 :: a14 :: a15 :: some (.int x) :: L) (.int x :: st) z E im) : w pc (a0 :: a1 :: a2 :: a3 :: a4 :: a5 :: a6 :: a7 :: a8 :: a9 :: a10 :: a11 :: a12 :: a13 :: a14 :: a15 :: some (.int x) :: L) (st) z E im := by
  subst hq
  exact zz_pure S (fun _ _ _ _ _ _ _ _ _ _ _ _ _ _ _ hx hb hown hts hl kk => lv_iload hx hb hd (zz_ld (i := 16) (v := .int x) hl rfl) (kk _ hl)) k
theorem zz_lload_0 (S : zz_S G l own cc nL d n0 mcT msT isI rt Qf w) {x : Int64} (hd : decode cc pc = .ok (.lload_n 0, 1)) (hq : pc + 1 = q) (k : w q (some (.long x) :: L) (.long x :: st) z E im) : w pc (some (.long x) :: L) (st) z E im := by
  subst hq
  exact zz_pure S (fun _ _ _ _ _ _ _ _ _ _ _ _ _ _ _ hx hb hown hts hl kk => lv_lload_n (i := 0) hx hb hd rfl (zz_ld (i := 0) (v := .long x) hl rfl) (kk _ hl)) k
theorem zz_lload_1 (S : zz_S G l own cc nL d n0 mcT msT isI rt Qf w) {a0 : Option Value} {x : Int64} (hd : decode cc pc = .ok (.lload_n 1, 1)) (hq : pc + 1 = q) (k : w q (a0 :: some (.long x) :: L) (.long x :: st) z E im) : w pc (a0 :: some (.long x) :: L) (st) z E im := by
  subst hq
  exact zz_pure S (fun _ _ _ _ _ _ _ _ _ _ _ _ _ _ _ hx hb hown hts hl kk => lv_lload_n (i := 1) hx hb hd rfl (zz_ld (i := 1) (v := .long x) hl rfl) (kk _ hl)) k
theorem zz_lload_2 (S : zz_S G l own cc nL d n0 mcT msT isI rt Qf w) {a0 a1 : Option Value} {x : Int64} (hd : decode cc pc = .ok (.lload_n 2, 1)) (hq : pc + 1 = q) (k : w q (a0 :: a1 :: some (.long x) :: L) (.long x :: st) z E im) : w pc (a0 :: a1 :: some (.long x) :: L) (st) z E im := by
  subst hq
  exact zz_pure S (fun _ _ _ _ _ _ _ _ _ _ _ _ _ _ _ hx hb hown hts hl kk => lv_lload_n (i := 2) hx hb hd rfl (zz_ld (i := 2) (v := .long x) hl rfl) (kk _ hl)) k
theorem zz_lload_3 (S : zz_S G l own cc nL d n0 mcT msT isI rt Qf w) {a0 a1 a2 : Option Value} {x : Int64} (hd : decode cc pc = .ok (.lload_n 3, 1)) (hq : pc + 1 = q) (k : w q (a0 :: a1 :: a2 :: some (.long x) :: L) (.long x :: st) z E im) : w pc (a0 :: a1 :: a2 :: some (.long x) :: L) (st) z E im := by
  subst hq
  exact zz_pure S (fun _ _ _ _ _ _ _ _ _ _ _ _ _ _ _ hx hb hown hts hl kk => lv_lload_n (i := 3) hx hb hd rfl (zz_ld (i := 3) (v := .long x) hl rfl) (kk _ hl)) k
theorem zz_lload_4 (S : zz_S G l own cc nL d n0 mcT msT isI rt Qf w) {a0 a1 a2 a3 : Option Value} {x : Int64} (hd : decode cc pc = .ok (.lload 4, 2)) (hq : pc + 2 = q) (k : w q (a0 :: a1 :: a2 :: a3 :: some (.long x) :: L) (.long x :: st) z E im) : w pc (a0 :: a1 :: a2 :: a3 :: some (.long x) :: L) (st) z E im := by
  subst hq
  exact zz_pure S (fun _ _ _ _ _ _ _ _ _ _ _ _ _ _ _ hx hb hown hts hl kk => lv_lload hx hb hd (zz_ld (i := 4) (v := .long x) hl rfl) (kk _ hl)) k
theorem zz_lload_5 (S : zz_S G l own cc nL d n0 mcT msT isI rt Qf w) {a0 a1 a2 a3 a4 : Option Value} {x : Int64} (hd : decode cc pc = .ok (.lload 5, 2)) (hq : pc + 2 = q) (k : w q (a0 :: a1 :: a2 :: a3 :: a4 :: some (.long x) :: L) (.long x :: st) z E im) : w pc (a0 :: a1 :: a2 :: a3 :: a4 :: some (.long x) :: L) (st) z E im := by
  subst hq
  exact zz_pure S (fun _ _ _ _ _ _ _ _ _ _ _ _ _ _ _ hx hb hown hts hl kk => lv_lload hx hb hd (zz_ld (i := 5) (v := .long x) hl rfl) (kk _ hl)) k
theorem zz_lload_6 (S : zz_S G l own cc nL d n0 mcT msT isI rt Qf w) {a0 a1 a2 a3 a4 a5 : Option Value} {x : Int64} (hd : decode cc pc = .ok (.lload 6, 2)) (hq : pc + 2 = q) (k : w q (a0 :: a1 :: a2 :: a3 :: a4 :: a5 :: some (.long x) :: L) (.long x :: st) z E im) : w pc (a0 :: a1 :: a2 :: a3 :: a4 :: a5 :: some (.long x) :: L) (st) z E im := by
  subst hq
  exact zz_pure S (fun _ _ _ _ _ _ _ _ _ _ _ _ _ _ _ hx hb hown hts hl kk => lv_lload hx hb hd (zz_ld (i := 6) (v := .long x) hl rfl) (kk _ hl)) k
theorem zz_lload_7 (S : zz_S G l own cc nL d n0 mcT msT isI rt Qf w) {a0 a1 a2 a3 a4 a5 a6 : Option Value} {x : Int64} (hd : decode cc pc = .ok (.lload 7, 2)) (hq : pc + 2 = q) (k : w q (a0 :: a1 :: a2 :: a3 :: a4 :: a5 :: a6 :: some (.long x) :: L) (.long x :: st) z E im) : w pc (a0 :: a1 :: a2 :: a3 :: a4 :: a5 :: a6 :: some (.long x) :: L) (st) z E im := by
  subst hq
  exact zz_pure S (fun _ _ _ _ _ _ _ _ _ _ _ _ _ _ _ hx hb hown hts hl kk => lv_lload hx hb hd (zz_ld (i := 7) (v := .long x) hl rfl) (kk _ hl)) k
theorem zz_lload_8 (S : zz_S G l own cc nL d n0 mcT msT isI rt Qf w) {a0 a1 a2 a3 a4 a5 a6 a7 : Option Value} {x : Int64} (hd : decode cc pc = .ok (.lload 8, 2)) (hq : pc + 2 = q) (k : w q (a0 :: a1 :: a2 :: a3 :: a4 :: a5 :: a6 :: a7 :: some (.long x) :: L) (.long x :: st) z E im) : w pc (a0 :: a1 :: a2 :: a3 :: a4 :: a5 :: a6 :: a7 :: some (.long x) :: L) (st) z E im := by
  subst hq
  exact zz_pure S (fun _ _ _ _ _ _ _ _ _ _ _ _ _ _ _ hx hb hown hts hl kk => lv_lload hx hb hd (zz_ld (i := 8) (v := .long x) hl rfl) (kk _ hl)) k
theorem zz_lload_9 (S : zz_S G l own cc nL d n0 mcT msT isI rt Qf w) {a0 a1 a2 a3 a4 a5 a6 a7 a8 : Option Value} {x : Int64} (hd : decode cc pc = .ok (.lload 9, 2)) (hq : pc + 2 = q) (k : w q (a0 :: a1 :: a2 :: a3 :: a4 :: a5 :: a6 :: a7 :: a8 :: some (.long x) :: L) (.long x :: st) z E im) : w pc (a0 :: a1 :: a2 :: a3 :: a4 :: a5 :: a6 :: a7 :: a8 :: some (.long x) :: L) (st) z E im := by
  subst hq
  exact zz_pure S (fun _ _ _ _ _ _ _ _ _ _ _ _ _ _ _ hx hb hown hts hl kk => lv_lload hx hb hd (zz_ld (i := 9) (v := .long x) hl rfl) (kk _ hl)) k
theorem zz_lload_10 (S : zz_S G l own cc nL d n0 mcT msT isI rt Qf w) {a0 a1 a2 a3 a4 a5 a6 a7 a8 a9 : Option Value} {x : Int64} (hd : decode cc pc = .ok (.lload 10, 2)) (hq : pc + 2 = q) (k : w q (a0 :: a1 :: a2 :: a3 :: a4 :: a5 :: a6 :: a7 :: a8 :: a9 :: some (.long x) :: L) (.long x :: st) z E im) : w pc (a0 :: a1 :: a2 :: a3 :: a4 :: a5 :: a6 :: a7 :: a8 :: a9 :: some (.long x) :: L) (st) z E im := by
  subst hq
  exact zz_pure S (fun _ _ _ _ _ _ _ _ _ _ _ _ _ _ _ hx hb hown hts hl kk => lv_lload hx hb hd (zz_ld (i := 10) (v := .long x) hl rfl) (kk _ hl)) k
theorem zz_lload_11 (S : zz_S G l own cc nL d n0 mcT msT isI rt Qf w) {a0 a1 a2 a3 a4 a5 a6 a7 a8 a9 a10 : Option Value} {x : Int64} (hd : decode cc pc = .ok (.lload 11, 2)) (hq : pc + 2 = q) (k : w q (a0 :: a1 :: a2 :: a3 :: a4 :: a5 :: a6 :: a7 :: a8 :: a9 :: a10 :: some (.long x) :: L) (.long x :: st) z E im) : w pc (a0 :: a1 :: a2 :: a3 :: a4 :: a5 :: a6 :: a7 :: a8 :: a9 :: a10 :: some (.long x) :: L) (st) z E im := by
  subst hq
  exact zz_pure S (fun _ _ _ _ _ _ _ _ _ _ _ _ _ _ _ hx hb hown hts hl kk => lv_lload hx hb hd (zz_ld (i := 11) (v := .long x) hl rfl) (kk _ hl)) k
theorem zz_lload_12 (S : zz_S G l own cc nL d n0 mcT msT isI rt Qf w) {a0 a1 a2 a3 a4 a5 a6 a7 a8 a9 a10 a11 : Option Value} {x : Int64} (hd : decode cc pc = .ok (.lload 12, 2)) (hq : pc + 2 = q) (k : w q (a0 :: a1 :: a2 :: a3 :: a4 :: a5 :: a6 :: a7 :: a8 :: a9 :: a10 :: a11 :: some (.long x) :: L) (.long x :: st) z E im) : w pc (a0 :: a1 :: a2 :: a3 :: a4 :: a5 :: a6 :: a7 :: a8 :: a9 :: a10 :: a11 :: some (.long x) :: L) (st) z E im := by
  subst hq
  exact zz_pure S (fun _ _ _ _ _ _ _ _ _ _ _ _ _ _ _ hx hb hown hts hl kk => lv_lload hx hb hd (zz_ld (i := 12) (v := .long x) hl rfl) (kk _ hl)) k
theorem zz_lload_13 (S : zz_S G l own cc nL d n0 mcT msT isI rt Qf w) {a0 a1 a2 a3 a4 a5 a6 a7 a8 a9 a10 a11 a12 : Option Value} {x : Int64} (hd : decode cc pc = .ok (.lload 13, 2)) (hq : pc + 2 = q) (k : w q (a0 :: a1 :: a2 :: a3 :: a4 :: a5 :: a6 :: a7 :: a8 :: a9 :: a10 :: a11 :: a12 :: some (.long x) :: L) (.long x :: st) z E im) : w pc (a0 :: a1 :: a2 :: a3 :: a4 :: a5 :: a6 :: a7 :: a8 :: a9 :: a10 :: a11 :: a12 :: some (.long x) :: L) (st) z E im := by
  subst hq
  exact zz_pure S (fun _ _ _ _ _ _ _ _ _ _ _ _ _ _ _ hx hb hown hts hl kk => lv_lload hx hb hd (zz_ld (i := 13) (v := .long x) hl rfl) (kk _ hl)) k
theorem zz_lload_14 (S : zz_S G l own cc nL d n0 mcT msT isI rt Qf w) {a0 a1 a2 a3 a4 a5 a6 a7 a8 a9 a10 a11 a12 a13 : Option Value} {x : Int64} (hd : decode cc pc = .ok (.lload 14, 2)) (hq : pc + 2 = q) (k : w q (a0 :: a1 :: a2 :: a3 :: a4 :: a5 :: a6 :: a7 :: a8 :: a9 :: a10 :: a11 :: a12 :: a13 :: some (.long x) :: L) (.long x :: st) z E im) : w pc (a0 :: a1 :: a2 :: a3 :: a4 :: a5 :: a6 :: a7 :: a8 :: a9 :: a10 :: a11 :: a12 :: a13 :: some (.long x) :: L) (st) z E im := by
  subst hq
  exact zz_pure S (fun _ _ _ _ _ _ _ _ _ _ _ _ _ _ _ hx hb hown hts hl kk => lv_lload hx hb hd (zz_ld (i := 14) (v := .long x) hl rfl) (kk _ hl)) k
theorem zz_lload_15 (S : zz_S G l own cc nL d n0 mcT msT isI rt Qf w) {a0 a1 a2 a3 a4 a5 a6 a7 a8 a9 a10 a11 a12 a13 a14 : Option Value} {x : Int64} (hd : decode cc pc = .ok (.lload 15, 2)) (hq : pc + 2 = q) (k : w q (a0 :: a1 :: a2 :: a3 :: a4 :: a5 :: a6 :: a7 :: a8 :: a9 :: a10 :: a11 :: a12 :: a13 :: a14 :: some (.long x) :: L) (.long x :: st) z E im) : w pc (a0 :: a1 :: a2 :: a3 :: a4 :: a5 :: a6 :: a7 :: a8 :: a9 :: a10 :: a11 :: a12 :: a13 :: a14 :: some (.long x) :: L) (st) z E im := by
  subst hq
  exact zz_pure S (fun _ _ _ _ _ _ _ _ _ _ _ _ _ _ _ hx hb hown hts hl kk => lv_lload hx hb hd (zz_ld (i := 15) (v := .long x) hl rfl) (kk _ hl)) k
theorem zz_lload_16 (S : zz_S G l own cc nL d n0 mcT msT isI rt Qf w) {a0 a1 a2 a3 a4 a5 a6 a7 a8 a9 a10 a11 a12 a13 a14 a15 : Option Value} {x : Int64} (hd : decode cc pc = .ok (.lload 16, 2)) (hq : pc + 2 = q) (k : w q (a0 :: a1 :: a2 :: a3 :: a4 :: a5 :: a6 :: a7 :: a8 :: a9 :: a10 :: a11 :: a12 :: a13 :: a14 :: a15 :: some (.long x) :: L) (.long x :: st) z E im) : w pc (a0 :: a1 :: a2 :: a3 :: a4 :: a5 :: a6 :: a7 :: a8 :: a9 :: a10 :: a11 :: a12 :: a13 :: a14 :: a15 :: some (.long x) :: L) (st) z E im := by
  subst hq
  exact zz_pure S (fun _ _ _ _ _ _ _ _ _ _ _ _ _ _ _ hx hb hown hts hl kk => lv_lload hx hb hd (zz_ld (i := 16) (v := .long x) hl rfl) (kk _ hl)) k
theorem zz_aload_0 (S : zz_S G l own cc nL d n0 mcT msT isI rt Qf w) {x : Nat} (hd : decode cc pc = .ok (.aload_n 0, 1)) (hq : pc + 1 = q) (k : w q (some (.ref x) :: L) (.ref x :: st) z E im) : w pc (some (.ref x) :: L) (st) z E im := by
  subst hq
  exact zz_pure S (fun _ _ _ _ _ _ _ _ _ _ _ _ _ _ _ hx hb hown hts hl kk => lv_aload_n (i := 0) hx hb hd rfl (zz_ld (i := 0) (v := .ref x) hl rfl) (kk _ hl)) k
theorem zz_aload_1 (S : zz_S G l own cc nL d n0 mcT msT isI rt Qf w) {a0 : Option Value} {x : Nat} (hd : decode cc pc = .ok (.aload_n 1, 1)) (hq : pc + 1 = q) (k : w q (a0 :: some (.ref x) :: L) (.ref x :: st) z E im) : w pc (a0 :: some (.ref x) :: L) (st) z E im := by
  subst hq
  exact zz_pure S (fun _ _ _ _ _ _ _ _ _ _ _ _ _ _ _ hx hb hown hts hl kk => lv_aload_n (i := 1) hx hb hd rfl (zz_ld (i := 1) (v := .ref x) hl rfl) (kk _ hl)) k
theorem zz_aload_2 (S : zz_S G l own cc nL d n0 mcT msT isI rt Qf w) {a0 a1 : Option Value} {x : Nat} (hd : decode cc pc = .ok (.aload_n 2, 1)) (hq : pc + 1 = q) (k : w q (a0 :: a1 :: some (.ref x) :: L) (.ref x :: st) z E im) : w pc (a0 :: a1 :: some (.ref x) :: L) (st) z E im := by
  subst hq
  exact zz_pure S (fun _ _ _ _ _ _ _ _ _ _ _ _ _ _ _ hx hb hown hts hl kk => lv_aload_n (i := 2) hx hb hd rfl (zz_ld (i := 2) (v := .ref x) hl rfl) (kk _ hl)) k
theorem zz_aload_3 (S : zz_S G l own cc nL d n0 mcT msT isI rt Qf w) {a0 a1 a2 : Option Value} {x : Nat} (hd : decode cc pc = .ok (.aload_n 3, 1)) (hq : pc + 1 = q) (k : w q (a0 :: a1 :: a2 :: some (.ref x) :: L) (.ref x :: st) z E im) : w pc (a0 :: a1 :: a2 :: some (.ref x) :: L) (st) z E im := by
  subst hq
  exact zz_pure S (fun _ _ _ _ _ _ _ _ _ _ _ _ _ _ _ hx hb hown hts hl kk => lv_aload_n (i := 3) hx hb hd rfl (zz_ld (i := 3) (v := .ref x) hl rfl) (kk _ hl)) k
theorem zz_aload_4 (S : zz_S G l own cc nL d n0 mcT msT isI rt Qf w) {a0 a1 a2 a3 : Option Value} {x : Nat} (hd : decode cc pc = .ok (.aload 4, 2)) (hq : pc + 2 = q) (k : w q (a0 :: a1 :: a2 :: a3 :: some (.ref x) :: L) (.ref x :: st) z E im) : w pc (a0 :: a1 :: a2 :: a3 :: some (.ref x) :: L) (st) z E im := by
  subst hq
  exact zz_pure S (fun _ _ _ _ _ _ _ _ _ _ _ _ _ _ _ hx hb hown hts hl kk => lv_aload hx hb hd (zz_ld (i := 4) (v := .ref x) hl rfl) (kk _ hl)) k
theorem zz_aload_5 (S : zz_S G l own cc nL d n0 mcT msT isI rt Qf w) {a0 a1 a2 a3 a4 : Option Value} {x : Nat} (hd : decode cc pc = .ok (.aload 5, 2)) (hq : pc + 2 = q) (k : w q (a0 :: a1 :: a2 :: a3 :: a4 :: some (.ref x) :: L) (.ref x :: st) z E im) : w pc (a0 :: a1 :: a2 :: a3 :: a4 :: some (.ref x) :: L) (st) z E im := by
  subst hq
  exact zz_pure S (fun _ _ _ _ _ _ _ _ _ _ _ _ _ _ _ hx hb hown hts hl kk => lv_aload hx hb hd (zz_ld (i := 5) (v := .ref x) hl rfl) (kk _ hl)) k
theorem zz_aload_6 (S : zz_S G l own cc nL d n0 mcT msT isI rt Qf w) {a0 a1 a2 a3 a4 a5 : Option Value} {x : Nat} (hd : decode cc pc = .ok (.aload 6, 2)) (hq : pc + 2 = q) (k : w q (a0 :: a1 :: a2 :: a3 :: a4 :: a5 :: some (.ref x) :: L) (.ref x :: st) z E im) : w pc (a0 :: a1 :: a2 :: a3 :: a4 :: a5 :: some (.ref x) :: L) (st) z E im := by
  subst hq
  exact zz_pure S (fun _ _ _ _ _ _ _ _ _ _ _ _ _ _ _ hx hb hown hts hl kk => lv_aload hx hb hd (zz_ld (i := 6) (v := .ref x) hl rfl) (kk _ hl)) k
theorem zz_aload_7 (S : zz_S G l own cc nL d n0 mcT msT isI rt Qf w) {a0 a1 a2 a3 a4 a5 a6 : Option Value} {x : Nat} (hd : decode cc pc = .ok (.aload 7, 2)) (hq : pc + 2 = q) (k : w q (a0 :: a1 :: a2 :: a3 :: a4 :: a5 :: a6 :: some (.ref x) :: L) (.ref x :: st) z E im) : w pc (a0 :: a1 :: a2 :: a3 :: a4 :: a5 :: a6 :: some (.ref x) :: L) (st) z E im := by
  subst hq
  exact zz_pure S (fun _ _ _ _ _ _ _ _ _ _ _ _ _ _ _ hx hb hown hts hl kk => lv_aload hx hb hd (zz_ld (i := 7) (v := .ref x) hl rfl) (kk _ hl)) k
theorem zz_aload_8 (S : zz_S G l own cc nL d n0 mcT msT isI rt Qf w) {a0 a1 a2 a3 a4 a5 a6 a7 : Option Value} {x : Nat} (hd : decode cc pc = .ok (.aload 8, 2)) (hq : pc + 2 = q) (k : w q (a0 :: a1 :: a2 :: a3 :: a4 :: a5 :: a6 :: a7 :: some (.ref x) :: L) (.ref x :: st) z E im) : w pc (a0 :: a1 :: a2 :: a3 :: a4 :: a5 :: a6 :: a7 :: some (.ref x) :: L) (st) z E im := by
  subst hq
  exact zz_pure S (fun _ _ _ _ _ _ _ _ _ _ _ _ _ _ _ hx hb hown hts hl kk => lv_aload hx hb hd (zz_ld (i := 8) (v := .ref x) hl rfl) (kk _ hl)) k
theorem zz_aload_9 (S : zz_S G l own cc nL d n0 mcT msT isI rt Qf w) {a0 a1 a2 a3 a4 a5 a6 a7 a8 : Option Value} {x : Nat} (hd : decode cc pc = .ok (.aload 9, 2)) (hq : pc + 2 = q) (k : w q (a0 :: a1 :: a2 :: a3 :: a4 :: a5 :: a6 :: a7 :: a8 :: some (.ref x) :: L) (.ref x :: st) z E im) : w pc (a0 :: a1 :: a2 :: a3 :: a4 :: a5 :: a6 :: a7 :: a8 :: some (.ref x) :: L) (st) z E im := by
  subst hq
  exact zz_pure S (fun _ _ _ _ _ _ _ _ _ _ _ _ _ _ _ hx hb hown hts hl kk => lv_aload hx hb hd (zz_ld (i := 9) (v := .ref x) hl rfl) (kk _ hl)) k
theorem zz_aload_10 (S : zz_S G l own cc nL d n0 mcT msT isI rt Qf w) {a0 a1 a2 a3 a4 a5 a6 a7 a8 a9 : Option Value} {x : Nat} (hd : decode cc pc = .ok (.aload 10, 2)) (hq : pc + 2 = q) (k : w q (a0 :: a1 :: a2 :: a3 :: a4 :: a5 :: a6 :: a7 :: a8 :: a9 :: some (.ref x) :: L) (.ref x :: st) z E im) : w pc (a0 :: a1 :: a2 :: a3 :: a4 :: a5 :: a6 :: a7 :: a8 :: a9 :: some (.ref x) :: L) (st) z E im := by
  subst hq
  exact zz_pure S (fun _ _ _ _ _ _ _ _ _ _ _ _ _ _ _ hx hb hown hts hl kk => lv_aload hx hb hd (zz_ld (i := 10) (v := .ref x) hl rfl) (kk _ hl)) k
theorem zz_aload_11 (S : zz_S G l own cc nL d n0 mcT msT isI rt Qf w) {a0 a1 a2 a3 a4 a5 a6 a7 a8 a9 a10 : Option Value} {x : Nat} (hd : decode cc pc = .ok (.aload 11, 2)) (hq : pc + 2 = q) (k : w q (a0 :: a1 :: a2 :: a3 :: a4 :: a5 :: a6 :: a7 :: a8 :: a9 :: a10 :: some (.ref x) :: L) (.ref x :: st) z E im) : w pc (a0 :: a1 :: a2 :: a3 :: a4 :: a5 :: a6 :: a7 :: a8 :: a9 :: a10 :: some (.ref x) :: L) (st) z E im := by
  subst hq
  exact zz_pure S (fun _ _ _ _ _ _ _ _ _ _ _ _ _ _ _ hx hb hown hts hl kk => lv_aload hx hb hd (zz_ld (i := 11) (v := .ref x) hl rfl) (kk _ hl)) k
theorem zz_aload_12 (S : zz_S G l own cc nL d n0 mcT msT isI rt Qf w) {a0 a1 a2 a3 a4 a5 a6 a7 a8 a9 a10 a11 : Option Value} {x : Nat} (hd : decode cc pc = .ok (.aload 12, 2)) (hq : pc + 2 = q) (k : w q (a0 :: a1 :: a2 :: a3 :: a4 :: a5 :: a6 :: a7 :: a8 :: a9 :: a10 :: a11 :: some (.ref x) :: L) (.ref x :: st) z E im) : w pc (a0 :: a1 :: a2 :: a3 :: a4 :: a5 :: a6 :: a7 :: a8 :: a9 :: a10 :: a11 :: some (.ref x) :: L) (st) z E im := by
  subst hq
  exact zz_pure S (fun _ _ _ _ _ _ _ _ _ _ _ _ _ _ _ hx hb hown hts hl kk => lv_aload hx hb hd (zz_ld (i := 12) (v := .ref x) hl rfl) (kk _ hl)) k
theorem zz_aload_13 (S : zz_S G l own cc nL d n0 mcT msT isI rt Qf w) {a0 a1 a2 a3 a4 a5 a6 a7 a8 a9 a10 a11 a12 : Option Value} {x : Nat} (hd : decode cc pc = .ok (.aload 13, 2)) (hq : pc + 2 = q) (k : w q (a0 :: a1 :: a2 :: a3 :: a4 :: a5 :: a6 :: a7 :: a8 :: a9 :: a10 :: a11 :: a12 :: some (.ref x) :: L) (.ref x :: st) z E im) : w pc (a0 :: a1 :: a2 :: a3 :: a4 :: a5 :: a6 :: a7 :: a8 :: a9 :: a10 :: a11 :: a12 :: some (.ref x) :: L) (st) z E im := by
  subst hq
  exact zz_pure S (fun _ _ _ _ _ _ _ _ _ _ _ _ _ _ _ hx hb hown hts hl kk => lv_aload hx hb hd (zz_ld (i := 13) (v := .ref x) hl rfl) (kk _ hl)) k
theorem zz_aload_14 (S : zz_S G l own cc nL d n0 mcT msT isI rt Qf w) {a0 a1 a2 a3 a4 a5 a6 a7 a8 a9 a10 a11 a12 a13 : Option Value} {x : Nat} (hd : decode cc pc = .ok (.aload 14, 2)) (hq : pc + 2 = q) (k : w q (a0 :: a1 :: a2 :: a3 :: a4 :: a5 :: a6 :: a7 :: a8 :: a9 :: a10 :: a11 :: a12 :: a13 :: some (.ref x) :: L) (.ref x :: st) z E im) : w pc (a0 :: a1 :: a2 :: a3 :: a4 :: a5 :: a6 :: a7 :: a8 :: a9 :: a10 :: a11 :: a12 :: a13 :: some (.ref x) :: L) (st) z E im := by
  subst hq
  exact zz_pure S (fun _ _ _ _ _ _ _ _ _ _ _ _ _ _ _ hx hb hown hts hl kk => lv_aload hx hb hd (zz_ld (i := 14) (v := .ref x) hl rfl) (kk _ hl)) k
theorem zz_aload_15 (S : zz_S G l own cc nL d n0 mcT msT isI rt Qf w) {a0 a1 a2 a3 a4 a5 a6 a7 a8 a9 a10 a11 a12 a13 a14 : Option Value} {x : Nat} (hd : decode cc pc = .ok (.aload 15, 2)) (hq : pc + 2 = q) (k : w q (a0 :: a1 :: a2 :: a3 :: a4 :: a5 :: a6 :: a7 :: a8 :: a9 :: a10 :: a11 :: a12 :: a13 :: a14 :: some (.ref x) :: L) (.ref x :: st) z E im) : w pc (a0 :: a1 :: a2 :: a3 :: a4 :: a5 :: a6 :: a7 :: a8 :: a9 :: a10 :: a11 :: a12 :: a13 :: a14 :: some (.ref x) :: L) (st) z E im := by
  subst hq
  exact zz_pure S (fun _ _ _ _ _ _ _ _ _ _ _ _ _ _ _ hx hb hown hts hl kk => lv_aload hx hb hd (zz_ld (i := 15) (v := .ref x) hl rfl) (kk _ hl)) k
theorem zz_aload_16 (S : zz_S G l own cc nL d n0 mcT msT isI rt Qf w) {a0 a1 a2 a3 a4 a5 a6 a7 a8 a9 a10 a11 a12 a13 a14 a15 : Option Value} {x : Nat} (hd : decode cc pc = .ok (.aload 16, 2)) (hq : pc + 2 = q) (k : w q (a0 :: a1 :: a2 :: a3 :: a4 :: a5 :: a6 :: a7 :: a8 :: a9 :: a10 :: a11 :: a12 :: a13 :: a14 :: a15 :: some (.ref x) :: L) (.ref x :: st) z E im) : w pc (a0 :: a1 :: a2 :: a3 :: a4 :: a5 :: a6 :: a7 :: a8 :: a9 :: a10 :: a11 :: a12 :: a13 :: a14 :: a15 :: some (.ref x) :: L) (st) z E im := by
  subst hq
  exact zz_pure S (fun _ _ _ _ _ _ _ _ _ _ _ _ _ _ _ hx hb hown hts hl kk => lv_aload hx hb hd (zz_ld (i := 16) (v := .ref x) hl rfl) (kk _ hl)) k
def zz_c1 : Option Value → Bool
  | some v => v.category == 1
  | none => true
theorem zz_hp {M : ZL} {i : Nat} {a : Option Value} (hM : M[i]? = some a) (h : zz_c1 a = true) : ∀ (j : Nat) (v : Value), j + 1 = i + 1 → M[j]? = some (some v) → v.category = 1 := by
  intro j v hj hv
  have hj2 : j = i := by omega
  rw [hj2, hM] at hv
  rw [Option.some.inj hv] at h
  simpa [zz_c1] using h
theorem zz_c1_of {a : Option Value} (h : zz_c1 a = true) {v : Value} (e : a = some v) : v.category = 1 := by
  subst e
  simpa [zz_c1] using h
theorem zz_istore_0 (S : zz_S G l own cc nL d n0 mcT msT isI rt Qf w) {b0 : Option Value} {x : Int32}  (hd : decode cc pc = .ok (.istore_n 0, 1)) (hq : pc + 1 = q) (k : w q (some (.int x) :: L) (st) z E im) : w pc (b0 :: L) (.int x :: st) z E im := by
  subst hq
  exact zz_pure S (fun _ _ _ _ _ _ _ _ _ _ _ _ _ _ _ hx hb hown hts hl kk => lv_istore_n (i := 0) hx hb hd rfl hl.1 (by have := hl.2; simp only [List.length_cons] at this; omega) rfl (fun ls9 h9 => kk _ (zz_set1 (v := .int x) (i := 0) hl.2 (fun j v hj _ => absurd hj (Nat.succ_ne_zero j)) h9))) k
theorem zz_istore_1 (S : zz_S G l own cc nL d n0 mcT msT isI rt Qf w) {a0 b0 : Option Value} {x : Int32} (hp : zz_c1 a0 = true) (hd : decode cc pc = .ok (.istore_n 1, 1)) (hq : pc + 1 = q) (k : w q (a0 :: some (.int x) :: L) (st) z E im) : w pc (a0 :: b0 :: L) (.int x :: st) z E im := by
  subst hq
  exact zz_pure S (fun _ _ _ _ _ _ _ _ _ _ _ _ _ _ _ hx hb hown hts hl kk => lv_istore_n (i := 1) hx hb hd rfl hl.1 (by have := hl.2; simp only [List.length_cons] at this; omega) rfl (fun ls9 h9 => kk _ (zz_set1 (v := .int x) (i := 1) hl.2 (zz_hp (i := 0) rfl hp) h9))) k
theorem zz_istore_2 (S : zz_S G l own cc nL d n0 mcT msT isI rt Qf w) {a0 a1 b0 : Option Value} {x : Int32} (hp : zz_c1 a1 = true) (hd : decode cc pc = .ok (.istore_n 2, 1)) (hq : pc + 1 = q) (k : w q (a0 :: a1 :: some (.int x) :: L) (st) z E im) : w pc (a0 :: a1 :: b0 :: L) (.int x :: st) z E im := by
  subst hq
  exact zz_pure S (fun _ _ _ _ _ _ _ _ _ _ _ _ _ _ _ hx hb hown hts hl kk => lv_istore_n (i := 2) hx hb hd rfl hl.1 (by have := hl.2; simp only [List.length_cons] at this; omega) rfl (fun ls9 h9 => kk _ (zz_set1 (v := .int x) (i := 2) hl.2 (zz_hp (i := 1) rfl hp) h9))) k
theorem zz_istore_3 (S : zz_S G l own cc nL d n0 mcT msT isI rt Qf w) {a0 a1 a2 b0 : Option Value} {x : Int32} (hp : zz_c1 a2 = true) (hd : decode cc pc = .ok (.istore_n 3, 1)) (hq : pc + 1 = q) (k : w q (a0 :: a1 :: a2 :: some (.int x) :: L) (st) z E im) : w pc (a0 :: a1 :: a2 :: b0 :: L) (.int x :: st) z E im := by
  subst hq
  exact zz_pure S (fun _ _ _ _ _ _ _ _ _ _ _ _ _ _ _ hx hb hown hts hl kk => lv_istore_n (i := 3) hx hb hd rfl hl.1 (by have := hl.2; simp only [List.length_cons] at this; omega) rfl (fun ls9 h9 => kk _ (zz_set1 (v := .int x) (i := 3) hl.2 (zz_hp (i := 2) rfl hp) h9))) k
theorem zz_istore_4 (S : zz_S G l own cc nL d n0 mcT msT isI rt Qf w) {a0 a1 a2 a3 b0 : Option Value} {x : Int32} (hp : zz_c1 a3 = true) (hd : decode cc pc = .ok (.istore 4, 2)) (hq : pc + 2 = q) (k : w q (a0 :: a1 :: a2 :: a3 :: some (.int x) :: L) (st) z E im) : w pc (a0 :: a1 :: a2 :: a3 :: b0 :: L) (.int x :: st) z E im := by
  subst hq
  exact zz_pure S (fun _ _ _ _ _ _ _ _ _ _ _ _ _ _ _ hx hb hown hts hl kk => lv_istore hx hb hd hl.1 (by have := hl.2; simp only [List.length_cons] at this; omega) rfl (fun ls9 h9 => kk _ (zz_set1 (v := .int x) (i := 4) hl.2 (zz_hp (i := 3) rfl hp) h9))) k
theorem zz_istore_5 (S : zz_S G l own cc nL d n0 mcT msT isI rt Qf w) {a0 a1 a2 a3 a4 b0 : Option Value} {x : Int32} (hp : zz_c1 a4 = true) (hd : decode cc pc = .ok (.istore 5, 2)) (hq : pc + 2 = q) (k : w q (a0 :: a1 :: a2 :: a3 :: a4 :: some (.int x) :: L) (st) z E im) : w pc (a0 :: a1 :: a2 :: a3 :: a4 :: b0 :: L) (.int x :: st) z E im := by
  subst hq
  exact zz_pure S (fun _ _ _ _ _ _ _ _ _ _ _ _ _ _ _ hx hb hown hts hl kk => lv_istore hx hb hd hl.1 (by have := hl.2; simp only [List.length_cons] at this; omega) rfl (fun ls9 h9 => kk _ (zz_set1 (v := .int x) (i := 5) hl.2 (zz_hp (i := 4) rfl hp) h9))) k
theorem zz_istore_6 (S : zz_S G l own cc nL d n0 mcT msT isI rt Qf w) {a0 a1 a2 a3 a4 a5 b0 : Option Value} {x : Int32} (hp : zz_c1 a5 = true) (hd : decode cc pc = .ok (.istore 6, 2)) (hq : pc + 2 = q) (k : w q (a0 :: a1 :: a2 :: a3 :: a4 :: a5 :: some (.int x) :: L) (st) z E im) : w pc (a0 :: a1 :: a2 :: a3 :: a4 :: a5 :: b0 :: L) (.int x :: st) z E im := by
  subst hq
  exact zz_pure S (fun _ _ _ _ _ _ _ _ _ _ _ _ _ _ _ hx hb hown hts hl kk => lv_istore hx hb hd hl.1 (by have := hl.2; simp only [List.length_cons] at this; omega) rfl (fun ls9 h9 => kk _ (zz_set1 (v := .int x) (i := 6) hl.2 (zz_hp (i := 5) rfl hp) h9))) k
theorem zz_istore_7 (S : zz_S G l own cc nL d n0 mcT msT isI rt Qf w) {a0 a1 a2 a3 a4 a5 a6 b0 : Option Value} {x : Int32} (hp : zz_c1 a6 = true) (hd : decode cc pc = .ok (.istore 7, 2)) (hq : pc + 2 = q) (k : w q (a0 :: a1 :: a2 :: a3 :: a4 :: a5 :: a6 :: some (.int x) :: L) (st) z E im) : w pc (a0 :: a1 :: a2 :: a3 :: a4 :: a5 :: a6 :: b0 :: L) (.int x :: st) z E im := by
  subst hq
  exact zz_pure S (fun _ _ _ _ _ _ _ _ _ _ _ _ _ _ _ hx hb hown hts hl kk => lv_istore hx hb hd hl.1 (by have := hl.2; simp only [List.length_cons] at this; omega) rfl (fun ls9 h9 => kk _ (zz_set1 (v := .int x) (i := 7) hl.2 (zz_hp (i := 6) rfl hp) h9))) k
theorem zz_istore_8 (S : zz_S G l own cc nL d n0 mcT msT isI rt Qf w) {a0 a1 a2 a3 a4 a5 a6 a7 b0 : Option Value} {x : Int32} (hp : zz_c1 a7 = true) (hd : decode cc pc = .ok (.istore 8, 2)) (hq : pc + 2 = q) (k : w q (a0 :: a1 :: a2 :: a3 :: a4 :: a5 :: a6 :: a7 :: some (.int x) :: L) (st) z E im) : w pc (a0 :: a1 :: a2 :: a3 :: a4 :: a5 :: a6 :: a7 :: b0 :: L) (.int x :: st) z E im := by
  subst hq
  exact zz_pure S (fun _ _ _ _ _ _ _ _ _ _ _ _ _ _ _ hx hb hown hts hl kk => lv_istore hx hb hd hl.1 (by have := hl.2; simp only [List.length_cons] at this; omega) rfl (fun ls9 h9 => kk _ (zz_set1 (v := .int x) (i := 8) hl.2 (zz_hp (i := 7) rfl hp) h9))) k
theorem zz_istore_9 (S : zz_S G l own cc nL d n0 mcT msT isI rt Qf w) {a0 a1 a2 a3 a4 a5 a6 a7 a8 b0 : Option Value} {x : Int32} (hp : zz_c1 a8 = true) (hd : decode cc pc = .ok (.istore 9, 2)) (hq : pc + 2 = q) (k : w q (a0 :: a1 :: a2 :: a3 :: a4 :: a5 :: a6 :: a7 :: a8 :: some (.int x) :: L) (st) z E im) : w pc (a0 :: a1 :: a2 :: a3 :: a4 :: a5 :: a6 :: a7 :: a8 :: b0 :: L) (.int x :: st) z E im := by
  subst hq
  exact zz_pure S (fun _ _ _ _ _ _ _ _ _ _ _ _ _ _ _ hx hb hown hts hl kk => lv_istore hx hb hd hl.1 (by have := hl.2; simp only [List.length_cons] at this; omega) rfl (fun ls9 h9 => kk _ (zz_set1 (v := .int x) (i := 9) hl.2 (zz_hp (i := 8) rfl hp) h9))) k
theorem zz_istore_10 (S : zz_S G l own cc nL d n0 mcT msT isI rt Qf w) {a0 a1 a2 a3 a4 a5 a6 a7 a8 a9 b0 : Option Value} {x : Int32} (hp : zz_c1 a9 = true) (hd : decode cc pc = .ok (.istore 10, 2)) (hq : pc + 2 = q) (k : w q (a0 :: a1 :: a2 :: a3 :: a4 :: a5 :: a6 :: a7 :: a8 :: a9 :: some (.int x) :: L) (st) z E im) : w pc (a0 :: a1 :: a2 :: a3 :: a4 :: a5 :: a6 :: a7 :: a8 :: a9 :: b0 :: L) (.int x :: st) z E im := by
  subst hq
  exact zz_pure S (fun _ _ _ _ _ _ _ _ _ _ _ _ _ _ _ hx hb hown hts hl kk => lv_istore hx hb hd hl.1 (by have := hl.2; simp only [List.length_cons] at this; omega) rfl (fun ls9 h9 => kk _ (zz_set1 (v := .int x) (i := 10) hl.2 (zz_hp (i := 9) rfl hp) h9))) k
theorem zz_istore_11 (S : zz_S G l own cc nL d n0 mcT msT isI rt Qf w) {a0 a1 a2 a3 a4 a5 a6 a7 a8 a9 a10 b0 : Option Value} {x : Int32} (hp : zz_c1 a10 = true) (hd : decode cc pc = .ok (.istore 11, 2)) (hq : pc + 2 = q) (k : w q (a0 :: a1 :: a2 :: a3 :: a4 :: a5 :: a6 :: a7 :: a8 :: a9 :: a10 :: some (.int x) :: L) (st) z E im) : w pc (a0 :: a1 :: a2 :: a3 :: a4 :: a5 :: a6 :: a7 :: a8 :: a9 :: a10 :: b0 :: L) (.int x :: st) z E im := by
  subst hq
  exact zz_pure S (fun _ _ _ _ _ _ _ _ _ _ _ _ _ _ _ hx hb hown hts hl kk => lv_istore hx hb hd hl.1 (by have := hl.2; simp only [List.length_cons] at this; omega) rfl (fun ls9 h9 => kk _ (zz_set1 (v := .int x) (i := 11) hl.2 (zz_hp (i := 10) rfl hp) h9))) k
theorem zz_istore_12 (S : zz_S G l own cc nL d n0 mcT msT isI rt Qf w) {a0 a1 a2 a3 a4 a5 a6 a7 a8 a9 a10 a11 b0 : Option Value} {x : Int32} (hp : zz_c1 a11 = true) (hd : decode cc pc = .ok (.istore 12, 2)) (hq : pc + 2 = q) (k : w q (a0 :: a1 :: a2 :: a3 :: a4 :: a5 :: a6 :: a7 :: a8 :: a9 :: a10 :: a11 :: some (.int x) :: L) (st) z E im) : w pc (a0 :: a1 :: a2 :: a3 :: a4 :: a5 :: a6 :: a7 :: a8 :: a9 :: a10 :: a11 :: b0 :: L) (.int x :: st) z E im := by
  subst hq
  exact zz_pure S (fun _ _ _ _ _ _ _ _ _ _ _ _ _ _ _ hx hb hown hts hl kk => lv_istore hx hb hd hl.1 (by have := hl.2; simp only [List.length_cons] at this; omega) rfl (fun ls9 h9 => kk _ (zz_set1 (v := .int x) (i := 12) hl.2 (zz_hp (i := 11) rfl hp) h9))) k
theorem zz_istore_13 (S : zz_S G l own cc nL d n0 mcT msT isI rt Qf w) {a0 a1 a2 a3 a4 a5 a6 a7 a8 a9 a10 a11 a12 b0 : Option Value} {x : Int32} (hp : zz_c1 a12 = true) (hd : decode cc pc = .ok (.istore 13, 2)) (hq : pc + 2 = q) (k : w q (a0 :: a1 :: a2 :: a3 :: a4 :: a5 :: a6 :: a7 :: a8 :: a9 :: a10 :: a11 :: a12 :: some (.int x) :: L) (st) z E im) : w pc (a0 :: a1 :: a2 :: a3 :: a4 :: a5 :: a6 :: a7 :: a8 :: a9 :: a10 :: a11 :: a12 :: b0 :: L) (.int x :: st) z E im := by
  subst hq
  exact zz_pure S (fun _ _ _ _ _ _ _ _ _ _ _ _ _ _ _ hx hb hown hts hl kk => lv_istore hx hb hd hl.1 (by have := hl.2; simp only [List.length_cons] at this; omega) rfl (fun ls9 h9 => kk _ (zz_set1 (v := .int x) (i := 13) hl.2 (zz_hp (i := 12) rfl hp) h9))) k
theorem zz_istore_14 (S : zz_S G l own cc nL d n0 mcT msT isI rt Qf w) {a0 a1 a2 a3 a4 a5 a6 a7 a8 a9 a10 a11 a12 a13 b0 : Option Value} {x : Int32} (hp : zz_c1 a13 = true) (hd : decode cc pc = .ok (.istore 14, 2)) (hq : pc + 2 = q) (k : w q (a0 :: a1 :: a2 :: a3 :: a4 :: a5 :: a6 :: a7 :: a8 :: a9 :: a10 :: a11 :: a12 :: a13 :: some (.int x) :: L) (st) z E im) : w pc (a0 :: a1 :: a2 :: a3 :: a4 :: a5 :: a6 :: a7 :: a8 :: a9 :: a10 :: a11 :: a12 :: a13 :: b0 :: L) (.int x :: st) z E im := by
  subst hq
  exact zz_pure S (fun _ _ _ _ _ _ _ _ _ _ _ _ _ _ _ hx hb hown hts hl kk => lv_istore hx hb hd hl.1 (by have := hl.2; simp only [List.length_cons] at this; omega) rfl (fun ls9 h9 => kk _ (zz_set1 (v := .int x) (i := 14) hl.2 (zz_hp (i := 13) rfl hp) h9))) k
theorem zz_istore_15 (S : zz_S G l own cc nL d n0 mcT msT isI rt Qf w) {a0 a1 a2 a3 a4 a5 a6 a7 a8 a9 a10 a11 a12 a13 a14 b0 : Option Value} {x : Int32} (hp : zz_c1 a14 = true) (hd : decode cc pc = .ok (.istore 15, 2)) (hq : pc + 2 = q) (k : w q (a0 :: a1 :: a2 :: a3 :: a4 :: a5 :: a6 :: a7 :: a8 :: a9 :: a10 :: a11 :: a12 :: a13 :: a14 :: some (.int x) :: L) (st) z E im) : w pc (a0 :: a1 :: a2 :: a3 :: a4 :: a5 :: a6 :: a7 :: a8 :: a9 :: a10 :: a11 :: a12 :: a13 :: a14 :: b0 :: L) (.int x :: st) z E im := by
  subst hq
  exact zz_pure S (fun _ _ _ _ _ _ _ _ _ _ _ _ _ _ _ hx hb hown hts hl kk => lv_istore hx hb hd hl.1 (by have := hl.2; simp only [List.length_cons] at this; omega) rfl (fun ls9 h9 => kk _ (zz_set1 (v := .int x) (i := 15) hl.2 (zz_hp (i := 14) rfl hp) h9))) k
theorem zz_istore_16 (S : zz_S G l own cc nL d n0 mcT msT isI rt Qf w) {a0 a1 a2 a3 a4 a5 a6 a7 a8 a9 a10 a11 a12 a13 a14 a15 b0 : Option Value} {x : Int32} (hp : zz_c1 a15 = true) (hd : decode cc pc = .ok (.istore 16, 2)) (hq : pc + 2 = q) (k : w q (a0 :: a1 :: a2 :: a3 :: a4 :: a5 :: a6 :: a7 :: a8 :: a9 :: a10 :: a11 :: a12 :: a13 :: a14 :: a15 :: some (.int x) :: L) (st) z E im) : w pc (a0 :: a1 :: a2 :: a3 :: a4 :: a5 :: a6 :: a7 :: a8 :: a9 :: a10 :: a11 :: a12 :: a13 :: a14 :: a15 :: b0 :: L) (.int x :: st) z E im := by
  subst hq
  exact zz_pure S (fun _ _ _ _ _ _ _ _ _ _ _ _ _ _ _ hx hb hown hts hl kk => lv_istore hx hb hd hl.1 (by have := hl.2; simp only [List.length_cons] at this; omega) rfl (fun ls9 h9 => kk _ (zz_set1 (v := .int x) (i := 16) hl.2 (zz_hp (i := 15) rfl hp) h9))) k
theorem zz_lstore_0 (S : zz_S G l own cc nL d n0 mcT msT isI rt Qf w) {b0 b1 : Option Value} {x : Int64}  (hd : decode cc pc = .ok (.lstore_n 0, 1)) (hq : pc + 1 = q) (k : w q (some (.long x) :: none :: L) (st) z E im) : w pc (b0 :: b1 :: L) (.long x :: st) z E im := by
  subst hq
  exact zz_pure S (fun _ _ _ _ _ _ _ _ _ _ _ _ _ _ _ hx hb hown hts hl kk => lv_lstore_n (i := 0) hx hb hd rfl hl.1 (by have := hl.2; simp only [List.length_cons] at this; omega) rfl (fun ls9 h9 => kk _ (zz_set2 (v := .long x) (i := 0) hl.2 (fun j v hj _ => absurd hj (Nat.succ_ne_zero j)) h9))) k
theorem zz_lstore_1 (S : zz_S G l own cc nL d n0 mcT msT isI rt Qf w) {a0 b0 b1 : Option Value} {x : Int64} (hp : zz_c1 a0 = true) (hd : decode cc pc = .ok (.lstore_n 1, 1)) (hq : pc + 1 = q) (k : w q (a0 :: some (.long x) :: none :: L) (st) z E im) : w pc (a0 :: b0 :: b1 :: L) (.long x :: st) z E im := by
  subst hq
  exact zz_pure S (fun _ _ _ _ _ _ _ _ _ _ _ _ _ _ _ hx hb hown hts hl kk => lv_lstore_n (i := 1) hx hb hd rfl hl.1 (by have := hl.2; simp only [List.length_cons] at this; omega) rfl (fun ls9 h9 => kk _ (zz_set2 (v := .long x) (i := 1) hl.2 (zz_hp (i := 0) rfl hp) h9))) k
theorem zz_lstore_2 (S : zz_S G l own cc nL d n0 mcT msT isI rt Qf w) {a0 a1 b0 b1 : Option Value} {x : Int64} (hp : zz_c1 a1 = true) (hd : decode cc pc = .ok (.lstore_n 2, 1)) (hq : pc + 1 = q) (k : w q (a0 :: a1 :: some (.long x) :: none :: L) (st) z E im) : w pc (a0 :: a1 :: b0 :: b1 :: L) (.long x :: st) z E im := by
  subst hq
  exact zz_pure S (fun _ _ _ _ _ _ _ _ _ _ _ _ _ _ _ hx hb hown hts hl kk => lv_lstore_n (i := 2) hx hb hd rfl hl.1 (by have := hl.2; simp only [List.length_cons] at this; omega) rfl (fun ls9 h9 => kk _ (zz_set2 (v := .long x) (i := 2) hl.2 (zz_hp (i := 1) rfl hp) h9))) k
theorem zz_lstore_3 (S : zz_S G l own cc nL d n0 mcT msT isI rt Qf w) {a0 a1 a2 b0 b1 : Option Value} {x : Int64} (hp : zz_c1 a2 = true) (hd : decode cc pc = .ok (.lstore_n 3, 1)) (hq : pc + 1 = q) (k : w q (a0 :: a1 :: a2 :: some (.long x) :: none :: L) (st) z E im) : w pc (a0 :: a1 :: a2 :: b0 :: b1 :: L) (.long x :: st) z E im := by
  subst hq
  exact zz_pure S (fun _ _ _ _ _ _ _ _ _ _ _ _ _ _ _ hx hb hown hts hl kk => lv_lstore_n (i := 3) hx hb hd rfl hl.1 (by have := hl.2; simp only [List.length_cons] at this; omega) rfl (fun ls9 h9 => kk _ (zz_set2 (v := .long x) (i := 3) hl.2 (zz_hp (i := 2) rfl hp) h9))) k
theorem zz_lstore_4 (S : zz_S G l own cc nL d n0 mcT msT isI rt Qf w) {a0 a1 a2 a3 b0 b1 : Option Value} {x : Int64} (hp : zz_c1 a3 = true) (hd : decode cc pc = .ok (.lstore 4, 2)) (hq : pc + 2 = q) (k : w q (a0 :: a1 :: a2 :: a3 :: some (.long x) :: none :: L) (st) z E im) : w pc (a0 :: a1 :: a2 :: a3 :: b0 :: b1 :: L) (.long x :: st) z E im := by
  subst hq
  exact zz_pure S (fun _ _ _ _ _ _ _ _ _ _ _ _ _ _ _ hx hb hown hts hl kk => lv_lstore hx hb hd hl.1 (by have := hl.2; simp only [List.length_cons] at this; omega) rfl (fun ls9 h9 => kk _ (zz_set2 (v := .long x) (i := 4) hl.2 (zz_hp (i := 3) rfl hp) h9))) k
theorem zz_lstore_5 (S : zz_S G l own cc nL d n0 mcT msT isI rt Qf w) {a0 a1 a2 a3 a4 b0 b1 : Option Value} {x : Int64} (hp : zz_c1 a4 = true) (hd : decode cc pc = .ok (.lstore 5, 2)) (hq : pc + 2 = q) (k : w q (a0 :: a1 :: a2 :: a3 :: a4 :: some (.long x) :: none :: L) (st) z E im) : w pc (a0 :: a1 :: a2 :: a3 :: a4 :: b0 :: b1 :: L) (.long x :: st) z E im := by
  subst hq
  exact zz_pure S (fun _ _ _ _ _ _ _ _ _ _ _ _ _ _ _ hx hb hown hts hl kk => lv_lstore hx hb hd hl.1 (by have := hl.2; simp only [List.length_cons] at this; omega) rfl (fun ls9 h9 => kk _ (zz_set2 (v := .long x) (i := 5) hl.2 (zz_hp (i := 4) rfl hp) h9))) k
theorem zz_lstore_6 (S : zz_S G l own cc nL d n0 mcT msT isI rt Qf w) {a0 a1 a2 a3 a4 a5 b0 b1 : Option Value} {x : Int64} (hp : zz_c1 a5 = true) (hd : decode cc pc = .ok (.lstore 6, 2)) (hq : pc + 2 = q) (k : w q (a0 :: a1 :: a2 :: a3 :: a4 :: a5 :: some (.long x) :: none :: L) (st) z E im) : w pc (a0 :: a1 :: a2 :: a3 :: a4 :: a5 :: b0 :: b1 :: L) (.long x :: st) z E im := by
  subst hq
  exact zz_pure S (fun _ _ _ _ _ _ _ _ _ _ _ _ _ _ _ hx hb hown hts hl kk => lv_lstore hx hb hd hl.1 (by have := hl.2; simp only [List.length_cons] at this; omega) rfl (fun ls9 h9 => kk _ (zz_set2 (v := .long x) (i := 6) hl.2 (zz_hp (i := 5) rfl hp) h9))) k
theorem zz_lstore_7 (S : zz_S G l own cc nL d n0 mcT msT isI rt Qf w) {a0 a1 a2 a3 a4 a5 a6 b0 b1 : Option Value} {x : Int64} (hp : zz_c1 a6 = true) (hd : decode cc pc = .ok (.lstore 7, 2)) (hq : pc + 2 = q) (k : w q (a0 :: a1 :: a2 :: a3 :: a4 :: a5 :: a6 :: some (.long x) :: none :: L) (st) z E im) : w pc (a0 :: a1 :: a2 :: a3 :: a4 :: a5 :: a6 :: b0 :: b1 :: L) (.long x :: st) z E im := by
  subst hq
  exact zz_pure S (fun _ _ _ _ _ _ _ _ _ _ _ _ _ _ _ hx hb hown hts hl kk => lv_lstore hx hb hd hl.1 (by have := hl.2; simp only [List.length_cons] at this; omega) rfl (fun ls9 h9 => kk _ (zz_set2 (v := .long x) (i := 7) hl.2 (zz_hp (i := 6) rfl hp) h9))) k
theorem zz_lstore_8 (S : zz_S G l own cc nL d n0 mcT msT isI rt Qf w) {a0 a1 a2 a3 a4 a5 a6 a7 b0 b1 : Option Value} {x : Int64} (hp : zz_c1 a7 = true) (hd : decode cc pc = .ok (.lstore 8, 2)) (hq : pc + 2 = q) (k : w q (a0 :: a1 :: a2 :: a3 :: a4 :: a5 :: a6 :: a7 :: some (.long x) :: none :: L) (st) z E im) : w pc (a0 :: a1 :: a2 :: a3 :: a4 :: a5 :: a6 :: a7 :: b0 :: b1 :: L) (.long x :: st) z E im := by
  subst hq
  exact zz_pure S (fun _ _ _ _ _ _ _ _ _ _ _ _ _ _ _ hx hb hown hts hl kk => lv_lstore hx hb hd hl.1 (by have := hl.2; simp only [List.length_cons] at this; omega) rfl (fun ls9 h9 => kk _ (zz_set2 (v := .long x) (i := 8) hl.2 (zz_hp (i := 7) rfl hp) h9))) k
theorem zz_lstore_9 (S : zz_S G l own cc nL d n0 mcT msT isI rt Qf w) {a0 a1 a2 a3 a4 a5 a6 a7 a8 b0 b1 : Option Value} {x : Int64} (hp : zz_c1 a8 = true) (hd : decode cc pc = .ok (.lstore 9, 2)) (hq : pc + 2 = q) (k : w q (a0 :: a1 :: a2 :: a3 :: a4 :: a5 :: a6 :: a7 :: a8 :: some (.long x) :: none :: L) (st) z E im) : w pc (a0 :: a1 :: a2 :: a3 :: a4 :: a5 :: a6 :: a7 :: a8 :: b0 :: b1 :: L) (.long x :: st) z E im := by
  subst hq
  exact zz_pure S (fun _ _ _ _ _ _ _ _ _ _ _ _ _ _ _ hx hb hown hts hl kk => lv_lstore hx hb hd hl.1 (by have := hl.2; simp only [List.length_cons] at this; omega) rfl (fun ls9 h9 => kk _ (zz_set2 (v := .long x) (i := 9) hl.2 (zz_hp (i := 8) rfl hp) h9))) k
theorem zz_lstore_10 (S : zz_S G l own cc nL d n0 mcT msT isI rt Qf w) {a0 a1 a2 a3 a4 a5 a6 a7 a8 a9 b0 b1 : Option Value} {x : Int64} (hp : zz_c1 a9 = true) (hd : decode cc pc = .ok (.lstore 10, 2)) (hq : pc + 2 = q) (k : w q (a0 :: a1 :: a2 :: a3 :: a4 :: a5 :: a6 :: a7 :: a8 :: a9 :: some (.long x) :: none :: L) (st) z E im) : w pc (a0 :: a1 :: a2 :: a3 :: a4 :: a5 :: a6 :: a7 :: a8 :: a9 :: b0 :: b1 :: L) (.long x :: st) z E im := by
  subst hq
  exact zz_pure S (fun _ _ _ _ _ _ _ _ _ _ _ _ _ _ _ hx hb hown hts hl kk => lv_lstore hx hb hd hl.1 (by have := hl.2; simp only [List.length_cons] at this; omega) rfl (fun ls9 h9 => kk _ (zz_set2 (v := .long x) (i := 10) hl.2 (zz_hp (i := 9) rfl hp) h9))) k
theorem zz_lstore_11 (S : zz_S G l own cc nL d n0 mcT msT isI rt Qf w) {a0 a1 a2 a3 a4 a5 a6 a7 a8 a9 a10 b0 b1 : Option Value} {x : Int64} (hp : zz_c1 a10 = true) (hd : decode cc pc = .ok (.lstore 11, 2)) (hq : pc + 2 = q) (k : w q (a0 :: a1 :: a2 :: a3 :: a4 :: a5 :: a6 :: a7 :: a8 :: a9 :: a10 :: some (.long x) :: none :: L) (st) z E im) : w pc (a0 :: a1 :: a2 :: a3 :: a4 :: a5 :: a6 :: a7 :: a8 :: a9 :: a10 :: b0 :: b1 :: L) (.long x :: st) z E im := by
  subst hq
  exact zz_pure S (fun _ _ _ _ _ _ _ _ _ _ _ _ _ _ _ hx hb hown hts hl kk => lv_lstore hx hb hd hl.1 (by have := hl.2; simp only [List.length_cons] at this; omega) rfl (fun ls9 h9 => kk _ (zz_set2 (v := .long x) (i := 11) hl.2 (zz_hp (i := 10) rfl hp) h9))) k
theorem zz_lstore_12 (S : zz_S G l own cc nL d n0 mcT msT isI rt Qf w) {a0 a1 a2 a3 a4 a5 a6 a7 a8 a9 a10 a11 b0 b1 : Option Value} {x : Int64} (hp : zz_c1 a11 = true) (hd : decode cc pc = .ok (.lstore 12, 2)) (hq : pc + 2 = q) (k : w q (a0 :: a1 :: a2 :: a3 :: a4 :: a5 :: a6 :: a7 :: a8 :: a9 :: a10 :: a11 :: some (.long x) :: none :: L) (st) z E im) : w pc (a0 :: a1 :: a2 :: a3 :: a4 :: a5 :: a6 :: a7 :: a8 :: a9 :: a10 :: a11 :: b0 :: b1 :: L) (.long x :: st) z E im := by
  subst hq
  exact zz_pure S (fun _ _ _ _ _ _ _ _ _ _ _ _ _ _ _ hx hb hown hts hl kk => lv_lstore hx hb hd hl.1 (by have := hl.2; simp only [List.length_cons] at this; omega) rfl (fun ls9 h9 => kk _ (zz_set2 (v := .long x) (i := 12) hl.2 (zz_hp (i := 11) rfl hp) h9))) k
theorem zz_lstore_13 (S : zz_S G l own cc nL d n0 mcT msT isI rt Qf w) {a0 a1 a2 a3 a4 a5 a6 a7 a8 a9 a10 a11 a12 b0 b1 : Option Value} {x : Int64} (hp : zz_c1 a12 = true) (hd : decode cc pc = .ok (.lstore 13, 2)) (hq : pc + 2 = q) (k : w q (a0 :: a1 :: a2 :: a3 :: a4 :: a5 :: a6 :: a7 :: a8 :: a9 :: a10 :: a11 :: a12 :: some (.long x) :: none :: L) (st) z E im) : w pc (a0 :: a1 :: a2 :: a3 :: a4 :: a5 :: a6 :: a7 :: a8 :: a9 :: a10 :: a11 :: a12 :: b0 :: b1 :: L) (.long x :: st) z E im := by
  subst hq
  exact zz_pure S (fun _ _ _ _ _ _ _ _ _ _ _ _ _ _ _ hx hb hown hts hl kk => lv_lstore hx hb hd hl.1 (by have := hl.2; simp only [List.length_cons] at this; omega) rfl (fun ls9 h9 => kk _ (zz_set2 (v := .long x) (i := 13) hl.2 (zz_hp (i := 12) rfl hp) h9))) k
theorem zz_lstore_14 (S : zz_S G l own cc nL d n0 mcT msT isI rt Qf w) {a0 a1 a2 a3 a4 a5 a6 a7 a8 a9 a10 a11 a12 a13 b0 b1 : Option Value} {x : Int64} (hp : zz_c1 a13 = true) (hd : decode cc pc = .ok (.lstore 14, 2)) (hq : pc + 2 = q) (k : w q (a0 :: a1 :: a2 :: a3 :: a4 :: a5 :: a6 :: a7 :: a8 :: a9 :: a10 :: a11 :: a12 :: a13 :: some (.long x) :: none :: L) (st) z E im) : w pc (a0 :: a1 :: a2 :: a3 :: a4 :: a5 :: a6 :: a7 :: a8 :: a9 :: a10 :: a11 :: a12 :: a13 :: b0 :: b1 :: L) (.long x :: st) z E im := by
  subst hq
  exact zz_pure S (fun _ _ _ _ _ _ _ _ _ _ _ _ _ _ _ hx hb hown hts hl kk => lv_lstore hx hb hd hl.1 (by have := hl.2; simp only [List.length_cons] at this; omega) rfl (fun ls9 h9 => kk _ (zz_set2 (v := .long x) (i := 14) hl.2 (zz_hp (i := 13) rfl hp) h9))) k
theorem zz_lstore_15 (S : zz_S G l own cc nL d n0 mcT msT isI rt Qf w) {a0 a1 a2 a3 a4 a5 a6 a7 a8 a9 a10 a11 a12 a13 a14 b0 b1 : Option Value} {x : Int64} (hp : zz_c1 a14 = true) (hd : decode cc pc = .ok (.lstore 15, 2)) (hq : pc + 2 = q) (k : w q (a0 :: a1 :: a2 :: a3 :: a4 :: a5 :: a6 :: a7 :: a8 :: a9 :: a10 :: a11 :: a12 :: a13 :: a14 :: some (.long x) :: none :: L) (st) z E im) : w pc (a0 :: a1 :: a2 :: a3 :: a4 :: a5 :: a6 :: a7 :: a8 :: a9 :: a10 :: a11 :: a12 :: a13 :: a14 :: b0 :: b1 :: L) (.long x :: st) z E im := by
  subst hq
  exact zz_pure S (fun _ _ _ _ _ _ _ _ _ _ _ _ _ _ _ hx hb hown hts hl kk => lv_lstore hx hb hd hl.1 (by have := hl.2; simp only [List.length_cons] at this; omega) rfl (fun ls9 h9 => kk _ (zz_set2 (v := .long x) (i := 15) hl.2 (zz_hp (i := 14) rfl hp) h9))) k
theorem zz_astore_0 (S : zz_S G l own cc nL d n0 mcT msT isI rt Qf w) {b0 : Option Value} {x : Nat}  (hd : decode cc pc = .ok (.astore_n 0, 1)) (hq : pc + 1 = q) (k : w q (some (.ref x) :: L) (st) z E im) : w pc (b0 :: L) (.ref x :: st) z E im := by
  subst hq
  exact zz_pure S (fun _ _ _ _ _ _ _ _ _ _ _ _ _ _ _ hx hb hown hts hl kk => lv_astore_n (i := 0) hx hb hd rfl hl.1 (by have := hl.2; simp only [List.length_cons] at this; omega) rfl (fun ls9 h9 => kk _ (zz_set1 (v := .ref x) (i := 0) hl.2 (fun j v hj _ => absurd hj (Nat.succ_ne_zero j)) h9))) k
theorem zz_astore_1 (S : zz_S G l own cc nL d n0 mcT msT isI rt Qf w) {a0 b0 : Option Value} {x : Nat} (hp : zz_c1 a0 = true) (hd : decode cc pc = .ok (.astore_n 1, 1)) (hq : pc + 1 = q) (k : w q (a0 :: some (.ref x) :: L) (st) z E im) : w pc (a0 :: b0 :: L) (.ref x :: st) z E im := by
  subst hq
  exact zz_pure S (fun _ _ _ _ _ _ _ _ _ _ _ _ _ _ _ hx hb hown hts hl kk => lv_astore_n (i := 1) hx hb hd rfl hl.1 (by have := hl.2; simp only [List.length_cons] at this; omega) rfl (fun ls9 h9 => kk _ (zz_set1 (v := .ref x) (i := 1) hl.2 (zz_hp (i := 0) rfl hp) h9))) k
theorem zz_astore_2 (S : zz_S G l own cc nL d n0 mcT msT isI rt Qf w) {a0 a1 b0 : Option Value} {x : Nat} (hp : zz_c1 a1 = true) (hd : decode cc pc = .ok (.astore_n 2, 1)) (hq : pc + 1 = q) (k : w q (a0 :: a1 :: some (.ref x) :: L) (st) z E im) : w pc (a0 :: a1 :: b0 :: L) (.ref x :: st) z E im := by
  subst hq
  exact zz_pure S (fun _ _ _ _ _ _ _ _ _ _ _ _ _ _ _ hx hb hown hts hl kk => lv_astore_n (i := 2) hx hb hd rfl hl.1 (by have := hl.2; simp only [List.length_cons] at this; omega) rfl (fun ls9 h9 => kk _ (zz_set1 (v := .ref x) (i := 2) hl.2 (zz_hp (i := 1) rfl hp) h9))) k
theorem zz_astore_3 (S : zz_S G l own cc nL d n0 mcT msT isI rt Qf w) {a0 a1 a2 b0 : Option Value} {x : Nat} (hp : zz_c1 a2 = true) (hd : decode cc pc = .ok (.astore_n 3, 1)) (hq : pc + 1 = q) (k : w q (a0 :: a1 :: a2 :: some (.ref x) :: L) (st) z E im) : w pc (a0 :: a1 :: a2 :: b0 :: L) (.ref x :: st) z E im := by
  subst hq
  exact zz_pure S (fun _ _ _ _ _ _ _ _ _ _ _ _ _ _ _ hx hb hown hts hl kk => lv_astore_n (i := 3) hx hb hd rfl hl.1 (by have := hl.2; simp only [List.length_cons] at this; omega) rfl (fun ls9 h9 => kk _ (zz_set1 (v := .ref x) (i := 3) hl.2 (zz_hp (i := 2) rfl hp) h9))) k
theorem zz_astore_4 (S : zz_S G l own cc nL d n0 mcT msT isI rt Qf w) {a0 a1 a2 a3 b0 : Option Value} {x : Nat} (hp : zz_c1 a3 = true) (hd : decode cc pc = .ok (.astore 4, 2)) (hq : pc + 2 = q) (k : w q (a0 :: a1 :: a2 :: a3 :: some (.ref x) :: L) (st) z E im) : w pc (a0 :: a1 :: a2 :: a3 :: b0 :: L) (.ref x :: st) z E im := by
  subst hq
  exact zz_pure S (fun _ _ _ _ _ _ _ _ _ _ _ _ _ _ _ hx hb hown hts hl kk => lv_astore hx hb hd hl.1 (by have := hl.2; simp only [List.length_cons] at this; omega) rfl (fun ls9 h9 => kk _ (zz_set1 (v := .ref x) (i := 4) hl.2 (zz_hp (i := 3) rfl hp) h9))) k
theorem zz_astore_5 (S : zz_S G l own cc nL d n0 mcT msT isI rt Qf w) {a0 a1 a2 a3 a4 b0 : Option Value} {x : Nat} (hp : zz_c1 a4 = true) (hd : decode cc pc = .ok (.astore 5, 2)) (hq : pc + 2 = q) (k : w q (a0 :: a1 :: a2 :: a3 :: a4 :: some (.ref x) :: L) (st) z E im) : w pc (a0 :: a1 :: a2 :: a3 :: a4 :: b0 :: L) (.ref x :: st) z E im := by
  subst hq
  exact zz_pure S (fun _ _ _ _ _ _ _ _ _ _ _ _ _ _ _ hx hb hown hts hl kk => lv_astore hx hb hd hl.1 (by have := hl.2; simp only [List.length_cons] at this; omega) rfl (fun ls9 h9 => kk _ (zz_set1 (v := .ref x) (i := 5) hl.2 (zz_hp (i := 4) rfl hp) h9))) k
theorem zz_astore_6 (S : zz_S G l own cc nL d n0 mcT msT isI rt Qf w) {a0 a1 a2 a3 a4 a5 b0 : Option Value} {x : Nat} (hp : zz_c1 a5 = true) (hd : decode cc pc = .ok (.astore 6, 2)) (hq : pc + 2 = q) (k : w q (a0 :: a1 :: a2 :: a3 :: a4 :: a5 :: some (.ref x) :: L) (st) z E im) : w pc (a0 :: a1 :: a2 :: a3 :: a4 :: a5 :: b0 :: L) (.ref x :: st) z E im := by
  subst hq
  exact zz_pure S (fun _ _ _ _ _ _ _ _ _ _ _ _ _ _ _ hx hb hown hts hl kk => lv_astore hx hb hd hl.1 (by have := hl.2; simp only [List.length_cons] at this; omega) rfl (fun ls9 h9 => kk _ (zz_set1 (v := .ref x) (i := 6) hl.2 (zz_hp (i := 5) rfl hp) h9))) k
theorem zz_astore_7 (S : zz_S G l own cc nL d n0 mcT msT isI rt Qf w) {a0 a1 a2 a3 a4 a5 a6 b0 : Option Value} {x : Nat} (hp : zz_c1 a6 = true) (hd : decode cc pc = .ok (.astore 7, 2)) (hq : pc + 2 = q) (k : w q (a0 :: a1 :: a2 :: a3 :: a4 :: a5 :: a6 :: some (.ref x) :: L) (st) z E im) : w pc (a0 :: a1 :: a2 :: a3 :: a4 :: a5 :: a6 :: b0 :: L) (.ref x :: st) z E im := by
  subst hq
  exact zz_pure S (fun _ _ _ _ _ _ _ _ _ _ _ _ _ _ _ hx hb hown hts hl kk => lv_astore hx hb hd hl.1 (by have := hl.2; simp only [List.length_cons] at this; omega) rfl (fun ls9 h9 => kk _ (zz_set1 (v := .ref x) (i := 7) hl.2 (zz_hp (i := 6) rfl hp) h9))) k
theorem zz_astore_8 (S : zz_S G l own cc nL d n0 mcT msT isI rt Qf w) {a0 a1 a2 a3 a4 a5 a6 a7 b0 : Option Value} {x : Nat} (hp : zz_c1 a7 = true) (hd : decode cc pc = .ok (.astore 8, 2)) (hq : pc + 2 = q) (k : w q (a0 :: a1 :: a2 :: a3 :: a4 :: a5 :: a6 :: a7 :: some (.ref x) :: L) (st) z E im) : w pc (a0 :: a1 :: a2 :: a3 :: a4 :: a5 :: a6 :: a7 :: b0 :: L) (.ref x :: st) z E im := by
  subst hq
  exact zz_pure S (fun _ _ _ _ _ _ _ _ _ _ _ _ _ _ _ hx hb hown hts hl kk => lv_astore hx hb hd hl.1 (by have := hl.2; simp only [List.length_cons] at this; omega) rfl (fun ls9 h9 => kk _ (zz_set1 (v := .ref x) (i := 8) hl.2 (zz_hp (i := 7) rfl hp) h9))) k
theorem zz_astore_9 (S : zz_S G l own cc nL d n0 mcT msT isI rt Qf w) {a0 a1 a2 a3 a4 a5 a6 a7 a8 b0 : Option Value} {x : Nat} (hp : zz_c1 a8 = true) (hd : decode cc pc = .ok (.astore 9, 2)) (hq : pc + 2 = q) (k : w q (a0 :: a1 :: a2 :: a3 :: a4 :: a5 :: a6 :: a7 :: a8 :: some (.ref x) :: L) (st) z E im) : w pc (a0 :: a1 :: a2 :: a3 :: a4 :: a5 :: a6 :: a7 :: a8 :: b0 :: L) (.ref x :: st) z E im := by
  subst hq
  exact zz_pure S (fun _ _ _ _ _ _ _ _ _ _ _ _ _ _ _ hx hb hown hts hl kk => lv_astore hx hb hd hl.1 (by have := hl.2; simp only [List.length_cons] at this; omega) rfl (fun ls9 h9 => kk _ (zz_set1 (v := .ref x) (i := 9) hl.2 (zz_hp (i := 8) rfl hp) h9))) k
theorem zz_astore_10 (S : zz_S G l own cc nL d n0 mcT msT isI rt Qf w) {a0 a1 a2 a3 a4 a5 a6 a7 a8 a9 b0 : Option Value} {x : Nat} (hp : zz_c1 a9 = true) (hd : decode cc pc = .ok (.astore 10, 2)) (hq : pc + 2 = q) (k : w q (a0 :: a1 :: a2 :: a3 :: a4 :: a5 :: a6 :: a7 :: a8 :: a9 :: some (.ref x) :: L) (st) z E im) : w pc (a0 :: a1 :: a2 :: a3 :: a4 :: a5 :: a6 :: a7 :: a8 :: a9 :: b0 :: L) (.ref x :: st) z E im := by
  subst hq
  exact zz_pure S (fun _ _ _ _ _ _ _ _ _ _ _ _ _ _ _ hx hb hown hts hl kk => lv_astore hx hb hd hl.1 (by have := hl.2; simp only [List.length_cons] at this; omega) rfl (fun ls9 h9 => kk _ (zz_set1 (v := .ref x) (i := 10) hl.2 (zz_hp (i := 9) rfl hp) h9))) k
theorem zz_astore_11 (S : zz_S G l own cc nL d n0 mcT msT isI rt Qf w) {a0 a1 a2 a3 a4 a5 a6 a7 a8 a9 a10 b0 : Option Value} {x : Nat} (hp : zz_c1 a10 = true) (hd : decode cc pc = .ok (.astore 11, 2)) (hq : pc + 2 = q) (k : w q (a0 :: a1 :: a2 :: a3 :: a4 :: a5 :: a6 :: a7 :: a8 :: a9 :: a10 :: some (.ref x) :: L) (st) z E im) : w pc (a0 :: a1 :: a2 :: a3 :: a4 :: a5 :: a6 :: a7 :: a8 :: a9 :: a10 :: b0 :: L) (.ref x :: st) z E im := by
  subst hq
  exact zz_pure S (fun _ _ _ _ _ _ _ _ _ _ _ _ _ _ _ hx hb hown hts hl kk => lv_astore hx hb hd hl.1 (by have := hl.2; simp only [List.length_cons] at this; omega) rfl (fun ls9 h9 => kk _ (zz_set1 (v := .ref x) (i := 11) hl.2 (zz_hp (i := 10) rfl hp) h9))) k
theorem zz_astore_12 (S : zz_S G l own cc nL d n0 mcT msT isI rt Qf w) {a0 a1 a2 a3 a4 a5 a6 a7 a8 a9 a10 a11 b0 : Option Value} {x : Nat} (hp : zz_c1 a11 = true) (hd : decode cc pc = .ok (.astore 12, 2)) (hq : pc + 2 = q) (k : w q (a0 :: a1 :: a2 :: a3 :: a4 :: a5 :: a6 :: a7 :: a8 :: a9 :: a10 :: a11 :: some (.ref x) :: L) (st) z E im) : w pc (a0 :: a1 :: a2 :: a3 :: a4 :: a5 :: a6 :: a7 :: a8 :: a9 :: a10 :: a11 :: b0 :: L) (.ref x :: st) z E im := by
  subst hq
  exact zz_pure S (fun _ _ _ _ _ _ _ _ _ _ _ _ _ _ _ hx hb hown hts hl kk => lv_astore hx hb hd hl.1 (by have := hl.2; simp only [List.length_cons] at this; omega) rfl (fun ls9 h9 => kk _ (zz_set1 (v := .ref x) (i := 12) hl.2 (zz_hp (i := 11) rfl hp) h9))) k
theorem zz_astore_13 (S : zz_S G l own cc nL d n0 mcT msT isI rt Qf w) {a0 a1 a2 a3 a4 a5 a6 a7 a8 a9 a10 a11 a12 b0 : Option Value} {x : Nat} (hp : zz_c1 a12 = true) (hd : decode cc pc = .ok (.astore 13, 2)) (hq : pc + 2 = q) (k : w q (a0 :: a1 :: a2 :: a3 :: a4 :: a5 :: a6 :: a7 :: a8 :: a9 :: a10 :: a11 :: a12 :: some (.ref x) :: L) (st) z E im) : w pc (a0 :: a1 :: a2 :: a3 :: a4 :: a5 :: a6 :: a7 :: a8 :: a9 :: a10 :: a11 :: a12 :: b0 :: L) (.ref x :: st) z E im := by
  subst hq
  exact zz_pure S (fun _ _ _ _ _ _ _ _ _ _ _ _ _ _ _ hx hb hown hts hl kk => lv_astore hx hb hd hl.1 (by have := hl.2; simp only [List.length_cons] at this; omega) rfl (fun ls9 h9 => kk _ (zz_set1 (v := .ref x) (i := 13) hl.2 (zz_hp (i := 12) rfl hp) h9))) k
theorem zz_astore_14 (S : zz_S G l own cc nL d n0 mcT msT isI rt Qf w) {a0 a1 a2 a3 a4 a5 a6 a7 a8 a9 a10 a11 a12 a13 b0 : Option Value} {x : Nat} (hp : zz_c1 a13 = true) (hd : decode cc pc = .ok (.astore 14, 2)) (hq : pc + 2 = q) (k : w q (a0 :: a1 :: a2 :: a3 :: a4 :: a5 :: a6 :: a7 :: a8 :: a9 :: a10 :: a11 :: a12 :: a13 :: some (.ref x) :: L) (st) z E im) : w pc (a0 :: a1 :: a2 :: a3 :: a4 :: a5 :: a6 :: a7 :: a8 :: a9 :: a10 :: a11 :: a12 :: a13 :: b0 :: L) (.ref x :: st) z E im := by
  subst hq
  exact zz_pure S (fun _ _ _ _ _ _ _ _ _ _ _ _ _ _ _ hx hb hown hts hl kk => lv_astore hx hb hd hl.1 (by have := hl.2; simp only [List.length_cons] at this; omega) rfl (fun ls9 h9 => kk _ (zz_set1 (v := .ref x) (i := 14) hl.2 (zz_hp (i := 13) rfl hp) h9))) k
theorem zz_astore_15 (S : zz_S G l own cc nL d n0 mcT msT isI rt Qf w) {a0 a1 a2 a3 a4 a5 a6 a7 a8 a9 a10 a11 a12 a13 a14 b0 : Option Value} {x : Nat} (hp : zz_c1 a14 = true) (hd : decode cc pc = .ok (.astore 15, 2)) (hq : pc + 2 = q) (k : w q (a0 :: a1 :: a2 :: a3 :: a4 :: a5 :: a6 :: a7 :: a8 :: a9 :: a10 :: a11 :: a12 :: a13 :: a14 :: some (.ref x) :: L) (st) z E im) : w pc (a0 :: a1 :: a2 :: a3 :: a4 :: a5 :: a6 :: a7 :: a8 :: a9 :: a10 :: a11 :: a12 :: a13 :: a14 :: b0 :: L) (.ref x :: st) z E im := by
  subst hq
  exact zz_pure S (fun _ _ _ _ _ _ _ _ _ _ _ _ _ _ _ hx hb hown hts hl kk => lv_astore hx hb hd hl.1 (by have := hl.2; simp only [List.length_cons] at this; omega) rfl (fun ls9 h9 => kk _ (zz_set1 (v := .ref x) (i := 15) hl.2 (zz_hp (i := 14) rfl hp) h9))) k
theorem zz_astore_16 (S : zz_S G l own cc nL d n0 mcT msT isI rt Qf w) {a0 a1 a2 a3 a4 a5 a6 a7 a8 a9 a10 a11 a12 a13 a14 a15 b0 : Option Value} {x : Nat} (hp : zz_c1 a15 = true) (hd : decode cc pc = .ok (.astore 16, 2)) (hq : pc + 2 = q) (k : w q (a0 :: a1 :: a2 :: a3 :: a4 :: a5 :: a6 :: a7 :: a8 :: a9 :: a10 :: a11 :: a12 :: a13 :: a14 :: a15 :: some (.ref x) :: L) (st) z E im) : w pc (a0 :: a1 :: a2 :: a3 :: a4 :: a5 :: a6 :: a7 :: a8 :: a9 :: a10 :: a11 :: a12 :: a13 :: a14 :: a15 :: b0 :: L) (.ref x :: st) z E im := by
  subst hq
  exact zz_pure S (fun _ _ _ _ _ _ _ _ _ _ _ _ _ _ _ hx hb hown hts hl kk => lv_astore hx hb hd hl.1 (by have := hl.2; simp only [List.length_cons] at this; omega) rfl (fun ls9 h9 => kk _ (zz_set1 (v := .ref x) (i := 16) hl.2 (zz_hp (i := 15) rfl hp) h9))) k
theorem zz_iinc_0 (S : zz_S G l own cc nL d n0 mcT msT isI rt Qf w) {n : Int} {x : Int32}  (hd : decode cc pc = .ok (.iinc 0 n, 3)) (hq : pc + 3 = q) (k : w q (some (.int (x + Int32.ofInt n)) :: L) (st) z E im) : w pc (some (.int x) :: L) (st) z E im := by
  subst hq
  exact zz_pure S (fun _ _ _ _ _ _ _ _ _ _ _ _ _ _ _ hx hb hown hts hl kk => by
    obtain ⟨k9, hk9⟩ := List.getElem?_of_mem (zz_l_mem (G := G) (i := 0) (L := some (.int x) :: L) (q := (0, .int x)) |>.mpr ⟨0, .int x, rfl, rfl⟩)
    exact lv_iinc (k := k9) hx hb hd hl.1 hk9 rfl (by have := hl.2; simp only [List.length_cons] at this; omega) rfl (fun ls9 h9 => kk _ (zz_set1 (v := .int (x + Int32.ofInt n)) (i := 0) hl.2 (fun j v hj _ => absurd hj (Nat.succ_ne_zero j)) h9))) k
theorem zz_iinc_1 (S : zz_S G l own cc nL d n0 mcT msT isI rt Qf w) {a0 : Option Value} {n : Int} {x : Int32} (hp : zz_c1 a0 = true) (hd : decode cc pc = .ok (.iinc 1 n, 3)) (hq : pc + 3 = q) (k : w q (a0 :: some (.int (x + Int32.ofInt n)) :: L) (st) z E im) : w pc (a0 :: some (.int x) :: L) (st) z E im := by
  subst hq
  exact zz_pure S (fun _ _ _ _ _ _ _ _ _ _ _ _ _ _ _ hx hb hown hts hl kk => by
    obtain ⟨k9, hk9⟩ := List.getElem?_of_mem (zz_l_mem (G := G) (i := 0) (L := a0 :: some (.int x) :: L) (q := (1, .int x)) |>.mpr ⟨1, .int x, rfl, rfl⟩)
    exact lv_iinc (k := k9) hx hb hd hl.1 hk9 rfl (by have := hl.2; simp only [List.length_cons] at this; omega) rfl (fun ls9 h9 => kk _ (zz_set1 (v := .int (x + Int32.ofInt n)) (i := 1) hl.2 (zz_hp (i := 0) rfl hp) h9))) k
theorem zz_iinc_2 (S : zz_S G l own cc nL d n0 mcT msT isI rt Qf w) {a0 a1 : Option Value} {n : Int} {x : Int32} (hp : zz_c1 a1 = true) (hd : decode cc pc = .ok (.iinc 2 n, 3)) (hq : pc + 3 = q) (k : w q (a0 :: a1 :: some (.int (x + Int32.ofInt n)) :: L) (st) z E im) : w pc (a0 :: a1 :: some (.int x) :: L) (st) z E im := by
  subst hq
  exact zz_pure S (fun _ _ _ _ _ _ _ _ _ _ _ _ _ _ _ hx hb hown hts hl kk => by
    obtain ⟨k9, hk9⟩ := List.getElem?_of_mem (zz_l_mem (G := G) (i := 0) (L := a0 :: a1 :: some (.int x) :: L) (q := (2, .int x)) |>.mpr ⟨2, .int x, rfl, rfl⟩)
    exact lv_iinc (k := k9) hx hb hd hl.1 hk9 rfl (by have := hl.2; simp only [List.length_cons] at this; omega) rfl (fun ls9 h9 => kk _ (zz_set1 (v := .int (x + Int32.ofInt n)) (i := 2) hl.2 (zz_hp (i := 1) rfl hp) h9))) k
theorem zz_iinc_3 (S : zz_S G l own cc nL d n0 mcT msT isI rt Qf w) {a0 a1 a2 : Option Value} {n : Int} {x : Int32} (hp : zz_c1 a2 = true) (hd : decode cc pc = .ok (.iinc 3 n, 3)) (hq : pc + 3 = q) (k : w q (a0 :: a1 :: a2 :: some (.int (x + Int32.ofInt n)) :: L) (st) z E im) : w pc (a0 :: a1 :: a2 :: some (.int x) :: L) (st) z E im := by
  subst hq
  exact zz_pure S (fun _ _ _ _ _ _ _ _ _ _ _ _ _ _ _ hx hb hown hts hl kk => by
    obtain ⟨k9, hk9⟩ := List.getElem?_of_mem (zz_l_mem (G := G) (i := 0) (L := a0 :: a1 :: a2 :: some (.int x) :: L) (q := (3, .int x)) |>.mpr ⟨3, .int x, rfl, rfl⟩)
    exact lv_iinc (k := k9) hx hb hd hl.1 hk9 rfl (by have := hl.2; simp only [List.length_cons] at this; omega) rfl (fun ls9 h9 => kk _ (zz_set1 (v := .int (x + Int32.ofInt n)) (i := 3) hl.2 (zz_hp (i := 2) rfl hp) h9))) k
theorem zz_iinc_4 (S : zz_S G l own cc nL d n0 mcT msT isI rt Qf w) {a0 a1 a2 a3 : Option Value} {n : Int} {x : Int32} (hp : zz_c1 a3 = true) (hd : decode cc pc = .ok (.iinc 4 n, 3)) (hq : pc + 3 = q) (k : w q (a0 :: a1 :: a2 :: a3 :: some (.int (x + Int32.ofInt n)) :: L) (st) z E im) : w pc (a0 :: a1 :: a2 :: a3 :: some (.int x) :: L) (st) z E im := by
  subst hq
  exact zz_pure S (fun _ _ _ _ _ _ _ _ _ _ _ _ _ _ _ hx hb hown hts hl kk => by
    obtain ⟨k9, hk9⟩ := List.getElem?_of_mem (zz_l_mem (G := G) (i := 0) (L := a0 :: a1 :: a2 :: a3 :: some (.int x) :: L) (q := (4, .int x)) |>.mpr ⟨4, .int x, rfl, rfl⟩)
    exact lv_iinc (k := k9) hx hb hd hl.1 hk9 rfl (by have := hl.2; simp only [List.length_cons] at this; omega) rfl (fun ls9 h9 => kk _ (zz_set1 (v := .int (x + Int32.ofInt n)) (i := 4) hl.2 (zz_hp (i := 3) rfl hp) h9))) k
theorem zz_iinc_5 (S : zz_S G l own cc nL d n0 mcT msT isI rt Qf w) {a0 a1 a2 a3 a4 : Option Value} {n : Int} {x : Int32} (hp : zz_c1 a4 = true) (hd : decode cc pc = .ok (.iinc 5 n, 3)) (hq : pc + 3 = q) (k : w q (a0 :: a1 :: a2 :: a3 :: a4 :: some (.int (x + Int32.ofInt n)) :: L) (st) z E im) : w pc (a0 :: a1 :: a2 :: a3 :: a4 :: some (.int x) :: L) (st) z E im := by
  subst hq
  exact zz_pure S (fun _ _ _ _ _ _ _ _ _ _ _ _ _ _ _ hx hb hown hts hl kk => by
    obtain ⟨k9, hk9⟩ := List.getElem?_of_mem (zz_l_mem (G := G) (i := 0) (L := a0 :: a1 :: a2 :: a3 :: a4 :: some (.int x) :: L) (q := (5, .int x)) |>.mpr ⟨5, .int x, rfl, rfl⟩)
    exact lv_iinc (k := k9) hx hb hd hl.1 hk9 rfl (by have := hl.2; simp only [List.length_cons] at this; omega) rfl (fun ls9 h9 => kk _ (zz_set1 (v := .int (x + Int32.ofInt n)) (i := 5) hl.2 (zz_hp (i := 4) rfl hp) h9))) k
theorem zz_iinc_6 (S : zz_S G l own cc nL d n0 mcT msT isI rt Qf w) {a0 a1 a2 a3 a4 a5 : Option Value} {n : Int} {x : Int32} (hp : zz_c1 a5 = true) (hd : decode cc pc = .ok (.iinc 6 n, 3)) (hq : pc + 3 = q) (k : w q (a0 :: a1 :: a2 :: a3 :: a4 :: a5 :: some (.int (x + Int32.ofInt n)) :: L) (st) z E im) : w pc (a0 :: a1 :: a2 :: a3 :: a4 :: a5 :: some (.int x) :: L) (st) z E im := by
  subst hq
  exact zz_pure S (fun _ _ _ _ _ _ _ _ _ _ _ _ _ _ _ hx hb hown hts hl kk => by
    obtain ⟨k9, hk9⟩ := List.getElem?_of_mem (zz_l_mem (G := G) (i := 0) (L := a0 :: a1 :: a2 :: a3 :: a4 :: a5 :: some (.int x) :: L) (q := (6, .int x)) |>.mpr ⟨6, .int x, rfl, rfl⟩)
    exact lv_iinc (k := k9) hx hb hd hl.1 hk9 rfl (by have := hl.2; simp only [List.length_cons] at this; omega) rfl (fun ls9 h9 => kk _ (zz_set1 (v := .int (x + Int32.ofInt n)) (i := 6) hl.2 (zz_hp (i := 5) rfl hp) h9))) k
theorem zz_iinc_7 (S : zz_S G l own cc nL d n0 mcT msT isI rt Qf w) {a0 a1 a2 a3 a4 a5 a6 : Option Value} {n : Int} {x : Int32} (hp : zz_c1 a6 = true) (hd : decode cc pc = .ok (.iinc 7 n, 3)) (hq : pc + 3 = q) (k : w q (a0 :: a1 :: a2 :: a3 :: a4 :: a5 :: a6 :: some (.int (x + Int32.ofInt n)) :: L) (st) z E im) : w pc (a0 :: a1 :: a2 :: a3 :: a4 :: a5 :: a6 :: some (.int x) :: L) (st) z E im := by
  subst hq
  exact zz_pure S (fun _ _ _ _ _ _ _ _ _ _ _ _ _ _ _ hx hb hown hts hl kk => by
    obtain ⟨k9, hk9⟩ := List.getElem?_of_mem (zz_l_mem (G := G) (i := 0) (L := a0 :: a1 :: a2 :: a3 :: a4 :: a5 :: a6 :: some (.int x) :: L) (q := (7, .int x)) |>.mpr ⟨7, .int x, rfl, rfl⟩)
    exact lv_iinc (k := k9) hx hb hd hl.1 hk9 rfl (by have := hl.2; simp only [List.length_cons] at this; omega) rfl (fun ls9 h9 => kk _ (zz_set1 (v := .int (x + Int32.ofInt n)) (i := 7) hl.2 (zz_hp (i := 6) rfl hp) h9))) k
theorem zz_iinc_8 (S : zz_S G l own cc nL d n0 mcT msT isI rt Qf w) {a0 a1 a2 a3 a4 a5 a6 a7 : Option Value} {n : Int} {x : Int32} (hp : zz_c1 a7 = true) (hd : decode cc pc = .ok (.iinc 8 n, 3)) (hq : pc + 3 = q) (k : w q (a0 :: a1 :: a2 :: a3 :: a4 :: a5 :: a6 :: a7 :: some (.int (x + Int32.ofInt n)) :: L) (st) z E im) : w pc (a0 :: a1 :: a2 :: a3 :: a4 :: a5 :: a6 :: a7 :: some (.int x) :: L) (st) z E im := by
  subst hq
  exact zz_pure S (fun _ _ _ _ _ _ _ _ _ _ _ _ _ _ _ hx hb hown hts hl kk => by
    obtain ⟨k9, hk9⟩ := List.getElem?_of_mem (zz_l_mem (G := G) (i := 0) (L := a0 :: a1 :: a2 :: a3 :: a4 :: a5 :: a6 :: a7 :: some (.int x) :: L) (q := (8, .int x)) |>.mpr ⟨8, .int x, rfl, rfl⟩)
    exact lv_iinc (k := k9) hx hb hd hl.1 hk9 rfl (by have := hl.2; simp only [List.length_cons] at this; omega) rfl (fun ls9 h9 => kk _ (zz_set1 (v := .int (x + Int32.ofInt n)) (i := 8) hl.2 (zz_hp (i := 7) rfl hp) h9))) k
theorem zz_iinc_9 (S : zz_S G l own cc nL d n0 mcT msT isI rt Qf w) {a0 a1 a2 a3 a4 a5 a6 a7 a8 : Option Value} {n : Int} {x : Int32} (hp : zz_c1 a8 = true) (hd : decode cc pc = .ok (.iinc 9 n, 3)) (hq : pc + 3 = q) (k : w q (a0 :: a1 :: a2 :: a3 :: a4 :: a5 :: a6 :: a7 :: a8 :: some (.int (x + Int32.ofInt n)) :: L) (st) z E im) : w pc (a0 :: a1 :: a2 :: a3 :: a4 :: a5 :: a6 :: a7 :: a8 :: some (.int x) :: L) (st) z E im := by
  subst hq
  exact zz_pure S (fun _ _ _ _ _ _ _ _ _ _ _ _ _ _ _ hx hb hown hts hl kk => by
    obtain ⟨k9, hk9⟩ := List.getElem?_of_mem (zz_l_mem (G := G) (i := 0) (L := a0 :: a1 :: a2 :: a3 :: a4 :: a5 :: a6 :: a7 :: a8 :: some (.int x) :: L) (q := (9, .int x)) |>.mpr ⟨9, .int x, rfl, rfl⟩)
    exact lv_iinc (k := k9) hx hb hd hl.1 hk9 rfl (by have := hl.2; simp only [List.length_cons] at this; omega) rfl (fun ls9 h9 => kk _ (zz_set1 (v := .int (x + Int32.ofInt n)) (i := 9) hl.2 (zz_hp (i := 8) rfl hp) h9))) k
theorem zz_iinc_10 (S : zz_S G l own cc nL d n0 mcT msT isI rt Qf w) {a0 a1 a2 a3 a4 a5 a6 a7 a8 a9 : Option Value} {n : Int} {x : Int32} (hp : zz_c1 a9 = true) (hd : decode cc pc = .ok (.iinc 10 n, 3)) (hq : pc + 3 = q) (k : w q (a0 :: a1 :: a2 :: a3 :: a4 :: a5 :: a6 :: a7 :: a8 :: a9 :: some (.int (x + Int32.ofInt n)) :: L) (st) z E im) : w pc (a0 :: a1 :: a2 :: a3 :: a4 :: a5 :: a6 :: a7 :: a8 :: a9 :: some (.int x) :: L) (st) z E im := by
  subst hq
  exact zz_pure S (fun _ _ _ _ _ _ _ _ _ _ _ _ _ _ _ hx hb hown hts hl kk => by
    obtain ⟨k9, hk9⟩ := List.getElem?_of_mem (zz_l_mem (G := G) (i := 0) (L := a0 :: a1 :: a2 :: a3 :: a4 :: a5 :: a6 :: a7 :: a8 :: a9 :: some (.int x) :: L) (q := (10, .int x)) |>.mpr ⟨10, .int x, rfl, rfl⟩)
    exact lv_iinc (k := k9) hx hb hd hl.1 hk9 rfl (by have := hl.2; simp only [List.length_cons] at this; omega) rfl (fun ls9 h9 => kk _ (zz_set1 (v := .int (x + Int32.ofInt n)) (i := 10) hl.2 (zz_hp (i := 9) rfl hp) h9))) k
theorem zz_iinc_11 (S : zz_S G l own cc nL d n0 mcT msT isI rt Qf w) {a0 a1 a2 a3 a4 a5 a6 a7 a8 a9 a10 : Option Value} {n : Int} {x : Int32} (hp : zz_c1 a10 = true) (hd : decode cc pc = .ok (.iinc 11 n, 3)) (hq : pc + 3 = q) (k : w q (a0 :: a1 :: a2 :: a3 :: a4 :: a5 :: a6 :: a7 :: a8 :: a9 :: a10 :: some (.int (x + Int32.ofInt n)) :: L) (st) z E im) : w pc (a0 :: a1 :: a2 :: a3 :: a4 :: a5 :: a6 :: a7 :: a8 :: a9 :: a10 :: some (.int x) :: L) (st) z E im := by
  subst hq
  exact zz_pure S (fun _ _ _ _ _ _ _ _ _ _ _ _ _ _ _ hx hb hown hts hl kk => by
    obtain ⟨k9, hk9⟩ := List.getElem?_of_mem (zz_l_mem (G := G) (i := 0) (L := a0 :: a1 :: a2 :: a3 :: a4 :: a5 :: a6 :: a7 :: a8 :: a9 :: a10 :: some (.int x) :: L) (q := (11, .int x)) |>.mpr ⟨11, .int x, rfl, rfl⟩)
    exact lv_iinc (k := k9) hx hb hd hl.1 hk9 rfl (by have := hl.2; simp only [List.length_cons] at this; omega) rfl (fun ls9 h9 => kk _ (zz_set1 (v := .int (x + Int32.ofInt n)) (i := 11) hl.2 (zz_hp (i := 10) rfl hp) h9))) k
theorem zz_iinc_12 (S : zz_S G l own cc nL d n0 mcT msT isI rt Qf w) {a0 a1 a2 a3 a4 a5 a6 a7 a8 a9 a10 a11 : Option Value} {n : Int} {x : Int32} (hp : zz_c1 a11 = true) (hd : decode cc pc = .ok (.iinc 12 n, 3)) (hq : pc + 3 = q) (k : w q (a0 :: a1 :: a2 :: a3 :: a4 :: a5 :: a6 :: a7 :: a8 :: a9 :: a10 :: a11 :: some (.int (x + Int32.ofInt n)) :: L) (st) z E im) : w pc (a0 :: a1 :: a2 :: a3 :: a4 :: a5 :: a6 :: a7 :: a8 :: a9 :: a10 :: a11 :: some (.int x) :: L) (st) z E im := by
  subst hq
  exact zz_pure S (fun _ _ _ _ _ _ _ _ _ _ _ _ _ _ _ hx hb hown hts hl kk => by
    obtain ⟨k9, hk9⟩ := List.getElem?_of_mem (zz_l_mem (G := G) (i := 0) (L := a0 :: a1 :: a2 :: a3 :: a4 :: a5 :: a6 :: a7 :: a8 :: a9 :: a10 :: a11 :: some (.int x) :: L) (q := (12, .int x)) |>.mpr ⟨12, .int x, rfl, rfl⟩)
    exact lv_iinc (k := k9) hx hb hd hl.1 hk9 rfl (by have := hl.2; simp only [List.length_cons] at this; omega) rfl (fun ls9 h9 => kk _ (zz_set1 (v := .int (x + Int32.ofInt n)) (i := 12) hl.2 (zz_hp (i := 11) rfl hp) h9))) k
theorem zz_iinc_13 (S : zz_S G l own cc nL d n0 mcT msT isI rt Qf w) {a0 a1 a2 a3 a4 a5 a6 a7 a8 a9 a10 a11 a12 : Option Value} {n : Int} {x : Int32} (hp : zz_c1 a12 = true) (hd : decode cc pc = .ok (.iinc 13 n, 3)) (hq : pc + 3 = q) (k : w q (a0 :: a1 :: a2 :: a3 :: a4 :: a5 :: a6 :: a7 :: a8 :: a9 :: a10 :: a11 :: a12 :: some (.int (x + Int32.ofInt n)) :: L) (st) z E im) : w pc (a0 :: a1 :: a2 :: a3 :: a4 :: a5 :: a6 :: a7 :: a8 :: a9 :: a10 :: a11 :: a12 :: some (.int x) :: L) (st) z E im := by
  subst hq
  exact zz_pure S (fun _ _ _ _ _ _ _ _ _ _ _ _ _ _ _ hx hb hown hts hl kk => by
    obtain ⟨k9, hk9⟩ := List.getElem?_of_mem (zz_l_mem (G := G) (i := 0) (L := a0 :: a1 :: a2 :: a3 :: a4 :: a5 :: a6 :: a7 :: a8 :: a9 :: a10 :: a11 :: a12 :: some (.int x) :: L) (q := (13, .int x)) |>.mpr ⟨13, .int x, rfl, rfl⟩)
    exact lv_iinc (k := k9) hx hb hd hl.1 hk9 rfl (by have := hl.2; simp only [List.length_cons] at this; omega) rfl (fun ls9 h9 => kk _ (zz_set1 (v := .int (x + Int32.ofInt n)) (i := 13) hl.2 (zz_hp (i := 12) rfl hp) h9))) k
theorem zz_iinc_14 (S : zz_S G l own cc nL d n0 mcT msT isI rt Qf w) {a0 a1 a2 a3 a4 a5 a6 a7 a8 a9 a10 a11 a12 a13 : Option Value} {n : Int} {x : Int32} (hp : zz_c1 a13 = true) (hd : decode cc pc = .ok (.iinc 14 n, 3)) (hq : pc + 3 = q) (k : w q (a0 :: a1 :: a2 :: a3 :: a4 :: a5 :: a6 :: a7 :: a8 :: a9 :: a10 :: a11 :: a12 :: a13 :: some (.int (x + Int32.ofInt n)) :: L) (st) z E im) : w pc (a0 :: a1 :: a2 :: a3 :: a4 :: a5 :: a6 :: a7 :: a8 :: a9 :: a10 :: a11 :: a12 :: a13 :: some (.int x) :: L) (st) z E im := by
  subst hq
  exact zz_pure S (fun _ _ _ _ _ _ _ _ _ _ _ _ _ _ _ hx hb hown hts hl kk => by
    obtain ⟨k9, hk9⟩ := List.getElem?_of_mem (zz_l_mem (G := G) (i := 0) (L := a0 :: a1 :: a2 :: a3 :: a4 :: a5 :: a6 :: a7 :: a8 :: a9 :: a10 :: a11 :: a12 :: a13 :: some (.int x) :: L) (q := (14, .int x)) |>.mpr ⟨14, .int x, rfl, rfl⟩)
    exact lv_iinc (k := k9) hx hb hd hl.1 hk9 rfl (by have := hl.2; simp only [List.length_cons] at this; omega) rfl (fun ls9 h9 => kk _ (zz_set1 (v := .int (x + Int32.ofInt n)) (i := 14) hl.2 (zz_hp (i := 13) rfl hp) h9))) k
theorem zz_iinc_15 (S : zz_S G l own cc nL d n0 mcT msT isI rt Qf w) {a0 a1 a2 a3 a4 a5 a6 a7 a8 a9 a10 a11 a12 a13 a14 : Option Value} {n : Int} {x : Int32} (hp : zz_c1 a14 = true) (hd : decode cc pc = .ok (.iinc 15 n, 3)) (hq : pc + 3 = q) (k : w q (a0 :: a1 :: a2 :: a3 :: a4 :: a5 :: a6 :: a7 :: a8 :: a9 :: a10 :: a11 :: a12 :: a13 :: a14 :: some (.int (x + Int32.ofInt n)) :: L) (st) z E im) : w pc (a0 :: a1 :: a2 :: a3 :: a4 :: a5 :: a6 :: a7 :: a8 :: a9 :: a10 :: a11 :: a12 :: a13 :: a14 :: some (.int x) :: L) (st) z E im := by
  subst hq
  exact zz_pure S (fun _ _ _ _ _ _ _ _ _ _ _ _ _ _ _ hx hb hown hts hl kk => by
    obtain ⟨k9, hk9⟩ := List.getElem?_of_mem (zz_l_mem (G := G) (i := 0) (L := a0 :: a1 :: a2 :: a3 :: a4 :: a5 :: a6 :: a7 :: a8 :: a9 :: a10 :: a11 :: a12 :: a13 :: a14 :: some (.int x) :: L) (q := (15, .int x)) |>.mpr ⟨15, .int x, rfl, rfl⟩)
    exact lv_iinc (k := k9) hx hb hd hl.1 hk9 rfl (by have := hl.2; simp only [List.length_cons] at this; omega) rfl (fun ls9 h9 => kk _ (zz_set1 (v := .int (x + Int32.ofInt n)) (i := 15) hl.2 (zz_hp (i := 14) rfl hp) h9))) k
theorem zz_iinc_16 (S : zz_S G l own cc nL d n0 mcT msT isI rt Qf w) {a0 a1 a2 a3 a4 a5 a6 a7 a8 a9 a10 a11 a12 a13 a14 a15 : Option Value} {n : Int} {x : Int32} (hp : zz_c1 a15 = true) (hd : decode cc pc = .ok (.iinc 16 n, 3)) (hq : pc + 3 = q) (k : w q (a0 :: a1 :: a2 :: a3 :: a4 :: a5 :: a6 :: a7 :: a8 :: a9 :: a10 :: a11 :: a12 :: a13 :: a14 :: a15 :: some (.int (x + Int32.ofInt n)) :: L) (st) z E im) : w pc (a0 :: a1 :: a2 :: a3 :: a4 :: a5 :: a6 :: a7 :: a8 :: a9 :: a10 :: a11 :: a12 :: a13 :: a14 :: a15 :: some (.int x) :: L) (st) z E im := by
  subst hq
  exact zz_pure S (fun _ _ _ _ _ _ _ _ _ _ _ _ _ _ _ hx hb hown hts hl kk => by
    obtain ⟨k9, hk9⟩ := List.getElem?_of_mem (zz_l_mem (G := G) (i := 0) (L := a0 :: a1 :: a2 :: a3 :: a4 :: a5 :: a6 :: a7 :: a8 :: a9 :: a10 :: a11 :: a12 :: a13 :: a14 :: a15 :: some (.int x) :: L) (q := (16, .int x)) |>.mpr ⟨16, .int x, rfl, rfl⟩)
    exact lv_iinc (k := k9) hx hb hd hl.1 hk9 rfl (by have := hl.2; simp only [List.length_cons] at this; omega) rfl (fun ls9 h9 => kk _ (zz_set1 (v := .int (x + Int32.ofInt n)) (i := 16) hl.2 (zz_hp (i := 15) rfl hp) h9))) k
theorem zz_if_eq (S : zz_S G l own cc nL d n0 mcT msT isI rt Qf w) {x : Int32} {off : Int} (hd : decode cc pc = .ok (.ifCond .eq off, 3)) (ht : (pc : Int) + off = (t : Int)) (hq : pc + 3 = q) (kt : x = 0 → w t L st z E im) (kf : ¬ x = 0 → w q L st z E im) : w pc L (.int x :: st) z E im := by
  subst hq
  exact zz_br S (fun _ _ _ _ _ _ _ _ _ _ _ _ _ _ _ hx hb a b => lv_if_eq hx hb hd ht a b) kt kf
theorem zz_icmp_eq (S : zz_S G l own cc nL d n0 mcT msT isI rt Qf w) {x y : Int32} {off : Int} (hd : decode cc pc = .ok (.if_icmp .eq off, 3)) (ht : (pc : Int) + off = (t : Int)) (hq : pc + 3 = q) (kt : x = y → w t L st z E im) (kf : ¬ x = y → w q L st z E im) : w pc L (.int y :: .int x :: st) z E im := by
  subst hq
  exact zz_br S (fun _ _ _ _ _ _ _ _ _ _ _ _ _ _ _ hx hb a b => lv_icmp_eq hx hb hd ht a b) kt kf
theorem zz_if_ne (S : zz_S G l own cc nL d n0 mcT msT isI rt Qf w) {x : Int32} {off : Int} (hd : decode cc pc = .ok (.ifCond .ne off, 3)) (ht : (pc : Int) + off = (t : Int)) (hq : pc + 3 = q) (kt : x ≠ 0 → w t L st z E im) (kf : x = 0 → w q L st z E im) : w pc L (.int x :: st) z E im := by
  subst hq
  exact zz_br S (fun _ _ _ _ _ _ _ _ _ _ _ _ _ _ _ hx hb a b => lv_if_ne hx hb hd ht a (fun h => b (fun z => z h))) kt (fun h => kf (Classical.not_not.mp h))
theorem zz_icmp_ne (S : zz_S G l own cc nL d n0 mcT msT isI rt Qf w) {x y : Int32} {off : Int} (hd : decode cc pc = .ok (.if_icmp .ne off, 3)) (ht : (pc : Int) + off = (t : Int)) (hq : pc + 3 = q) (kt : x ≠ y → w t L st z E im) (kf : x = y → w q L st z E im) : w pc L (.int y :: .int x :: st) z E im := by
  subst hq
  exact zz_br S (fun _ _ _ _ _ _ _ _ _ _ _ _ _ _ _ hx hb a b => lv_icmp_ne hx hb hd ht a (fun h => b (fun z => z h))) kt (fun h => kf (Classical.not_not.mp h))
theorem zz_if_lt (S : zz_S G l own cc nL d n0 mcT msT isI rt Qf w) {x : Int32} {off : Int} (hd : decode cc pc = .ok (.ifCond .lt off, 3)) (ht : (pc : Int) + off = (t : Int)) (hq : pc + 3 = q) (kt : x < 0 → w t L st z E im) (kf : ¬ x < 0 → w q L st z E im) : w pc L (.int x :: st) z E im := by
  subst hq
  exact zz_br S (fun _ _ _ _ _ _ _ _ _ _ _ _ _ _ _ hx hb a b => lv_if_lt hx hb hd ht a b) kt kf
theorem zz_icmp_lt (S : zz_S G l own cc nL d n0 mcT msT isI rt Qf w) {x y : Int32} {off : Int} (hd : decode cc pc = .ok (.if_icmp .lt off, 3)) (ht : (pc : Int) + off = (t : Int)) (hq : pc + 3 = q) (kt : x < y → w t L st z E im) (kf : ¬ x < y → w q L st z E im) : w pc L (.int y :: .int x :: st) z E im := by
  subst hq
  exact zz_br S (fun _ _ _ _ _ _ _ _ _ _ _ _ _ _ _ hx hb a b => lv_icmp_lt hx hb hd ht a b) kt kf
theorem zz_if_ge (S : zz_S G l own cc nL d n0 mcT msT isI rt Qf w) {x : Int32} {off : Int} (hd : decode cc pc = .ok (.ifCond .ge off, 3)) (ht : (pc : Int) + off = (t : Int)) (hq : pc + 3 = q) (kt : x ≥ 0 → w t L st z E im) (kf : ¬ x ≥ 0 → w q L st z E im) : w pc L (.int x :: st) z E im := by
  subst hq
  exact zz_br S (fun _ _ _ _ _ _ _ _ _ _ _ _ _ _ _ hx hb a b => lv_if_ge hx hb hd ht a b) kt kf
theorem zz_icmp_ge (S : zz_S G l own cc nL d n0 mcT msT isI rt Qf w) {x y : Int32} {off : Int} (hd : decode cc pc = .ok (.if_icmp .ge off, 3)) (ht : (pc : Int) + off = (t : Int)) (hq : pc + 3 = q) (kt : x ≥ y → w t L st z E im) (kf : ¬ x ≥ y → w q L st z E im) : w pc L (.int y :: .int x :: st) z E im := by
  subst hq
  exact zz_br S (fun _ _ _ _ _ _ _ _ _ _ _ _ _ _ _ hx hb a b => lv_icmp_ge hx hb hd ht a b) kt kf
theorem zz_if_gt (S : zz_S G l own cc nL d n0 mcT msT isI rt Qf w) {x : Int32} {off : Int} (hd : decode cc pc = .ok (.ifCond .gt off, 3)) (ht : (pc : Int) + off = (t : Int)) (hq : pc + 3 = q) (kt : x > 0 → w t L st z E im) (kf : ¬ x > 0 → w q L st z E im) : w pc L (.int x :: st) z E im := by
  subst hq
  exact zz_br S (fun _ _ _ _ _ _ _ _ _ _ _ _ _ _ _ hx hb a b => lv_if_gt hx hb hd ht a b) kt kf
theorem zz_icmp_gt (S : zz_S G l own cc nL d n0 mcT msT isI rt Qf w) {x y : Int32} {off : Int} (hd : decode cc pc = .ok (.if_icmp .gt off, 3)) (ht : (pc : Int) + off = (t : Int)) (hq : pc + 3 = q) (kt : x > y → w t L st z E im) (kf : ¬ x > y → w q L st z E im) : w pc L (.int y :: .int x :: st) z E im := by
  subst hq
  exact zz_br S (fun _ _ _ _ _ _ _ _ _ _ _ _ _ _ _ hx hb a b => lv_icmp_gt hx hb hd ht a b) kt kf
theorem zz_if_le (S : zz_S G l own cc nL d n0 mcT msT isI rt Qf w) {x : Int32} {off : Int} (hd : decode cc pc = .ok (.ifCond .le off, 3)) (ht : (pc : Int) + off = (t : Int)) (hq : pc + 3 = q) (kt : x ≤ 0 → w t L st z E im) (kf : ¬ x ≤ 0 → w q L st z E im) : w pc L (.int x :: st) z E im := by
  subst hq
  exact zz_br S (fun _ _ _ _ _ _ _ _ _ _ _ _ _ _ _ hx hb a b => lv_if_le hx hb hd ht a b) kt kf
theorem zz_icmp_le (S : zz_S G l own cc nL d n0 mcT msT isI rt Qf w) {x y : Int32} {off : Int} (hd : decode cc pc = .ok (.if_icmp .le off, 3)) (ht : (pc : Int) + off = (t : Int)) (hq : pc + 3 = q) (kt : x ≤ y → w t L st z E im) (kf : ¬ x ≤ y → w q L st z E im) : w pc L (.int y :: .int x :: st) z E im := by
  subst hq
  exact zz_br S (fun _ _ _ _ _ _ _ _ _ _ _ _ _ _ _ hx hb a b => lv_icmp_le hx hb hd ht a b) kt kf
theorem zz_goto (S : zz_S G l own cc nL d n0 mcT msT isI rt Qf w) {off : Int} (hd : decode cc pc = .ok (.goto off, 3)) (ht : (pc : Int) + off = (t : Int)) (k : w t L st z E im) : w pc L st z E im :=
  zz_pure S (fun _ _ _ _ _ _ _ _ _ _ _ _ _ _ _ hx hb _ _ hl kk => lv_goto hx hb hd ht (kk _ hl)) k
theorem zz_tabOut (S : zz_S G l own cc nL d n0 mcT msT isI rt Qf w) {dflt lo hi : Int} {offs : Array Int} {len : Nat} {x : Int32} (hd : decode cc pc = .ok (.tableswitch dflt lo hi offs, len)) (h : x.toInt < lo ∨ hi < x.toInt) (ht : (pc : Int) + dflt = (t : Int)) (k : w t L st z E im) : w pc L (.int x :: st) z E im :=
  zz_pure S (fun _ _ _ _ _ _ _ _ _ _ _ _ _ _ _ hx hb _ _ hl kk => lv_tableOut hx hb hd h ht (kk _ hl)) k
theorem zz_tabIn (S : zz_S G l own cc nL d n0 mcT msT isI rt Qf w) {dflt lo hi : Int} {offs : Array Int} {len : Nat} {x : Int32} {off : Int} (hd : decode cc pc = .ok (.tableswitch dflt lo hi offs, len)) (h1 : ¬ x.toInt < lo) (h2 : ¬ hi < x.toInt) (ho : offs[(x.toInt - lo).toNat]? = some off) (ht : (pc : Int) + off = (t : Int)) (k : w t L st z E im) : w pc L (.int x :: st) z E im :=
  zz_pure S (fun _ _ _ _ _ _ _ _ _ _ _ _ _ _ _ hx hb _ _ hl kk => lv_tableIn hx hb hd h1 h2 ho ht (kk _ hl)) k
theorem zz_fin (S : zz_S G l own cc nL d n0 mcT msT isI rt Qf w) {v : Option Value} (hr : zz_ret rt cc pc st v) (hQ : Qf v E im) : w pc L st z E im := by
  obtain ⟨p, e, R, s, m, args, below, meth, c, Q, ⟨hx, hb, hml, hown, hts⟩, -, -, -, -, hret, rfl⟩ := S
  intro H locs ls h1 h2 h3 h4 h5 h6
  exact hret pc H locs ls st v z E im hr h1 h2 h3 h4 h5 hQ
theorem zz_vret (S : zz_S G l own cc nL d n0 mcT msT isI none Qf w) (hd : decode cc pc = .ok (.return_, 1)) (hQ : Qf none E im) : w pc L [] z E im := zz_fin S (v := none) ⟨hd, rfl, rfl⟩ hQ
theorem zz_iret (S : zz_S G l own cc nL d n0 mcT msT isI (some .int) Qf w) {r : Int32} (hd : decode cc pc = .ok (.ireturn, 1)) (hQ : Qf (some (.int r)) E im) : w pc L [.int r] z E im := zz_fin S (v := some (.int r)) ⟨hd, r, rfl, rfl, rfl⟩ hQ
theorem zz_zret (S : zz_S G l own cc nL d n0 mcT msT isI (some .boolean) Qf w) {r : Int32} (hr : narrow .boolean (.int r) = .int r) (hd : decode cc pc = .ok (.ireturn, 1)) (hQ : Qf (some (.int r)) E im) : w pc L [.int r] z E im := zz_fin S (v := some (.int r)) ⟨hd, r, rfl, rfl, hr⟩ hQ
theorem zz_bret (S : zz_S G l own cc nL d n0 mcT msT isI (some .byte) Qf w) {r : Int32} (hr : narrow .byte (.int r) = .int r) (hd : decode cc pc = .ok (.ireturn, 1)) (hQ : Qf (some (.int r)) E im) : w pc L [.int r] z E im := zz_fin S (v := some (.int r)) ⟨hd, r, rfl, rfl, hr⟩ hQ
theorem zz_cret (S : zz_S G l own cc nL d n0 mcT msT isI (some .char) Qf w) {r : Int32} (hr : narrow .char (.int r) = .int r) (hd : decode cc pc = .ok (.ireturn, 1)) (hQ : Qf (some (.int r)) E im) : w pc L [.int r] z E im := zz_fin S (v := some (.int r)) ⟨hd, r, rfl, rfl, hr⟩ hQ
theorem zz_lret (S : zz_S G l own cc nL d n0 mcT msT isI (some .long) Qf w) {r : Int64} (hd : decode cc pc = .ok (.lreturn, 1)) (hQ : Qf (some (.long r)) E im) : w pc L [.long r] z E im := zz_fin S (v := some (.long r)) ⟨hd, r, rfl, rfl⟩ hQ
theorem zz_aret (S : zz_S G l own cc nL d n0 mcT msT isI rt Qf w) {C : String} (hrt : rt = some (.object C)) {r : Nat} (hd : decode cc pc = .ok (.areturn, 1)) (hQ : Qf (some (.ref r)) E im) : w pc L [.ref r] z E im := by
  subst hrt
  exact zz_fin S (v := some (.ref r)) ⟨hd, r, rfl, rfl⟩ hQ
end ZR
end
section
/-! ROWS: cells -/
def zz_cn : Nat → String
  | 0 => RX0
  | 1 => RX1
  | 2 => RX2
  | 3 => RX3
  | 4 => RX4
  | 5 => RX5
  | 6 => RX6
  | 7 => RX7
  | _ => RX8
def zz_T : Nat → u_T
  | 0 => TX0
  | 1 => TX1
  | 2 => TX2
  | 3 => TX3
  | 4 => TX4
  | 5 => TX5
  | 6 => TX6
  | 7 => TX7
  | _ => TX8
theorem zz_in0 : ∀ w ∈ u_ws RX0 TX0 8, w ∈ zz_t := zz_pl [134, 136, 138, 140, 142, 144, 146, 148] (by decide +kernel) (by decide +kernel)
theorem zz_in1 : ∀ w ∈ u_ws RX1 TX1 3, w ∈ zz_t := zz_pl [257, 259, 261] (by decide +kernel) (by decide +kernel)
theorem zz_in2 : ∀ w ∈ u_ws RX2 TX2 3, w ∈ zz_t := zz_pl [213, 215, 217] (by decide +kernel) (by decide +kernel)
theorem zz_in3 : ∀ w ∈ u_ws RX3 TX3 5, w ∈ zz_t := zz_pl [234, 236, 238, 240, 242] (by decide +kernel) (by decide +kernel)
theorem zz_in4 : ∀ w ∈ u_ws RX4 TX4 8, w ∈ zz_t := zz_pl [170, 172, 174, 176, 178, 180, 182, 184] (by decide +kernel) (by decide +kernel)
theorem zz_in5 : ∀ w ∈ u_ws RX5 TX5 3, w ∈ zz_t := zz_pl [192, 194, 196] (by decide +kernel) (by decide +kernel)
theorem zz_in6 : ∀ w ∈ u_ws RX6 TX6 2, w ∈ zz_t := zz_pl [100, 102] (by decide +kernel) (by decide +kernel)
theorem zz_in7 : ∀ w ∈ u_ws RX7 TX7 5, w ∈ zz_t := zz_pl [269, 271, 273, 275, 277] (by decide +kernel) (by decide +kernel)
theorem zz_in8 : ∀ w ∈ u_ws RX8 TX8 15, w ∈ zz_t := zz_pl [769, 771, 773, 775, 777, 779, 781, 783, 785, 787, 789, 791, 793, 795, 797] (by decide +kernel) (by decide +kernel)
theorem zz_cls {c : Nat} (hc : c < 9) : zz_cl[c]? = some (zz_cn c, zz_T c, zz_n c) ∧ (∀ w ∈ u_ws (zz_cn c) (zz_T c) (zz_n c), w ∈ zz_t) ∧ (∀ k, k < zz_n c → parseFieldDescriptor (zz_T c k).2.2.1 = some (zz_ty c k)) ∧ ∀ a, a < zz_n c → ∀ b, b < zz_n c → a ≠ b → (zz_T c a).2.1 ≠ (zz_T c b).2.1 := by
  match c, hc with
  | 0, _ => exact ⟨rfl, zz_in0, tyX0_ok, nmX0⟩
  | 1, _ => exact ⟨rfl, zz_in1, tyX1_ok, nmX1⟩
  | 2, _ => exact ⟨rfl, zz_in2, tyX2_ok, nmX2⟩
  | 3, _ => exact ⟨rfl, zz_in3, tyX3_ok, nmX3⟩
  | 4, _ => exact ⟨rfl, zz_in4, tyX4_ok, nmX4⟩
  | 5, _ => exact ⟨rfl, zz_in5, tyX5_ok, nmX5⟩
  | 6, _ => exact ⟨rfl, zz_in6, tyX6_ok, nmX6⟩
  | 7, _ => exact ⟨rfl, zz_in7, tyX7_ok, nmX7⟩
  | 8, _ => exact ⟨rfl, zz_in8, tyX8_ok, nmX8⟩
/-- entry idx of the class own is the field j of the class c -/
def zz_F (own : String) (idx c j : Nat) : Prop := Cond.fieldLink own idx (zz_cn c) (zz_T c j).2.1 (zz_T c j).2.2.1 ∈ zz_t ∧ c < 9 ∧ j < zz_n c ∧ (zz_T c j).1 = zz_cn c
section ZH
variable {G : ZG} {l : Launch} {own : String} {cc : ByteArray} {nL d n0 mcT msT : Nat} {isI : Bool} {rt : Option FieldType} {Qf : Option Value → ZE → ZI → Prop} {w : Nat → ZL → List Value → Nat → ZE → ZI → Prop}
variable {pc q t : Nat} {L L' : ZL} {st st' : List Value} {z : Nat} {E : ZE} {im : ZI}
theorem zz_b_lt {G : ZG} {k : Nat} (h : k < 1000) : zz_b G k = G.2.2.1 + k := by
  unfold zz_b
  rw [if_pos h]
theorem zz_w_obj {k c : Nat} (hk : k < E.1) (hkd : E.2.1 k = (0, c)) : (zz_w G E im)[k]? = some (zz_b G k, .inr (c, zz_fs G c (im k) (E.2.2 k))) := by
  rw [zz_w_get hk, hkd]
  rfl
theorem zz_w_ints {k t n : Nat} (hk : k < E.1) (hkd : E.2.1 k = (t, n)) (h1 : 1 ≤ t) (h3 : t ≤ 3) : (zz_w G E im)[k]? = some (zz_b G k, .inl (G.2.1 t, n, .inl (im k))) := by
  rw [zz_w_get hk, hkd]
  unfold zz_c
  rw [if_neg (by show ¬ t = 0; omega), if_pos h3]
theorem zz_w_refs {k t n : Nat} (hk : k < E.1) (hkd : E.2.1 k = (t, n)) (h4 : 4 ≤ t) : (zz_w G E im)[k]? = some (zz_b G k, .inl (G.2.1 t, n, .inr (.inr (.inr (.inr (fun j => (E.2.2 k j).map (zz_b G))))))) := by
  rw [zz_w_get hk, hkd]
  unfold zz_c
  rw [if_neg (by show ¬ t = 0; omega), if_neg (by show ¬ t ≤ 3; omega)]
theorem zz_getI (S : zz_S G l own cc nL d n0 mcT msT isI rt Qf w) {idx c j k : Nat} (hf : zz_F own idx c j) (hr : zz_r c j = false) (hk : k < E.1) (hkd : E.2.1 k = (0, c)) (hd : decode cc pc = .ok (.getfield idx, 3)) (hq : pc + 3 = q) (kk : w q L (.int (im k j) :: st) z E im) : w pc L (.ref k :: st) z E im := by
  subst hq
  obtain ⟨p, e, R, s, m, args, below, meth, c0, Q, ⟨hx, hb, hml, hown, hts⟩, hR, hI, hK, hsz, hret, rfl⟩ := S
  intro H locs ls h1 h2 h3 h4 h5 h6
  obtain ⟨f1, f2, f3, f4⟩ := hf
  obtain ⟨c1, c2, c3, c4⟩ := zz_cls f2
  exact va_get hx hb hts c2 hown hK.1.1 h1.2 k (zz_w_obj hk hkd) c1 j f3 (hts _ f1) (by rw [f4]; exact fun _ h => h) (v := .int (im k j)) (by rw [zz_fs_get f3]; simp [zz_fv, hr]) hd (kk H locs ls h1 h2 h3 h4 h5 h6)
theorem zz_getR (S : zz_S G l own cc nL d n0 mcT msT isI rt Qf w) {idx c j k x : Nat} (hf : zz_F own idx c j) (hr : zz_r c j = true) (hk : k < E.1) (hkd : E.2.1 k = (0, c)) (hx1 : E.2.2 k j = some x) (hd : decode cc pc = .ok (.getfield idx, 3)) (hq : pc + 3 = q) (kk : w q L (.ref x :: st) z E im) : w pc L (.ref k :: st) z E im := by
  subst hq
  obtain ⟨p, e, R, s, m, args, below, meth, c0, Q, ⟨hx, hb, hml, hown, hts⟩, hR, hI, hK, hsz, hret, rfl⟩ := S
  intro H locs ls h1 h2 h3 h4 h5 h6
  obtain ⟨f1, f2, f3, f4⟩ := hf
  obtain ⟨c1, c2, c3, c4⟩ := zz_cls f2
  exact va_get hx hb hts c2 hown hK.1.1 h1.2 k (zz_w_obj hk hkd) c1 j f3 (hts _ f1) (by rw [f4]; exact fun _ h => h) (v := .ref (zz_b G x)) (by rw [zz_fs_get f3]; simp [zz_fv, hr, hx1, va_rf]) hd (kk H locs ls h1 h2 h3 h4 h5 h6)
theorem zz_putI (S : zz_S G l own cc nL d n0 mcT msT isI rt Qf w) {idx c j k : Nat} {x : Int32} (hf : zz_F own idx c j) (hty : zz_ty c j = .int) (hfin : (zz_T c j).2.2.2 = false) (hk : k < E.1) (hkd : E.2.1 k = (0, c)) (hd : decode cc pc = .ok (.putfield idx, 3)) (hq : pc + 3 = q) (kk : w q L st z E (zz_u im k j x)) : w pc L (.int x :: .ref k :: st) z E im := by
  subst hq
  obtain ⟨p, e, R, s, m, args, below, meth, c0, Q, ⟨hx, hb, hml, hown, hts⟩, hR, hI, hK, hsz, hret, rfl⟩ := S
  intro H locs ls h1 h2 h3 h4 h5 h6
  obtain ⟨f1, f2, f3, f4⟩ := hf
  obtain ⟨c1, c2, c3, c4⟩ := zz_cls f2
  have hr : zz_r c j = false := by unfold zz_r; rw [hty]; rfl
  refine va_put hx hb hts c2 (zz_ty c) c3 c4 hown hK.1.1 h1.2 (zz_w_D h1.1) h5 k (zz_w_obj hk hkd) c1 j f3 (hts _ f1) (by rw [f4]; exact fun _ h => h) hfin (ty := .int) (v := .int x) (by rw [c3 j f3, hty]) rfl rfl (by rw [zz_fs_len]; exact f3) hd (fun H1 locs1 hP1 hD1 hS1 => ?_)
  rw [zz_fs_setI f3 hr] at hP1
  have e1 := zz_w_set (G := G) (E := E) (E' := E) (im := im) (im' := zz_u im k j x) (q := k) rfl hk (fun _ _ => rfl) (fun _ h => zz_u_off _ _ _ _ h) (fun _ _ => rfl)
  rw [hkd, zz_u_row] at e1
  exact kk H1 locs1 ls ⟨h1.1, by rw [← e1]; exact hP1⟩ h2 h3 h4 hS1 h6
theorem zz_putF (S : zz_S G l own cc nL d n0 mcT msT true rt Qf w) {idx c j k x : Nat} (hf : zz_F own idx c j) (hr : zz_r c j = true) (hfit : ∀ a, narrow (zz_ty c j) (.ref a) = .ref a ∧ fits (zz_ty c j) (.ref a) = true) (hfin : (zz_T c j).2.2.2 = true) (hdecl : (zz_T c j).1 = own) (hk : k < E.1) (hkd : E.2.1 k = (0, c)) (hd : decode cc pc = .ok (.putfield idx, 3)) (hq : pc + 3 = q) (kk : w q L st z (E.1, E.2.1, zz_ru E.2.2 k j (some x)) im) : w pc L (.ref x :: .ref k :: st) z E im := by
  subst hq
  obtain ⟨p, e, R, s, m, args, below, meth, c0, Q, ⟨hx, hb, hml, hown, hts⟩, hR, hI, hK, hsz, hret, rfl⟩ := S
  intro H locs ls h1 h2 h3 h4 h5 h6
  obtain ⟨f1, f2, f3, f4⟩ := hf
  obtain ⟨c1, c2, c3, c4⟩ := zz_cls f2
  refine va_putF hx hb hts c2 (zz_ty c) c3 c4 hown hK.1.1 h1.2 (zz_w_D h1.1) h5 k (zz_w_obj hk hkd) c1 j f3 (hts _ f1) (by rw [f4]; exact fun _ h => h) hfin (hI rfl) hdecl (ty := zz_ty c j) (v := .ref (zz_b G x)) (c3 j f3) (hfit _).1 (hfit _).2 (by rw [zz_fs_len]; exact f3) hd (fun H1 locs1 hP1 hD1 hS1 => ?_)
  rw [zz_fs_setR f3 hr] at hP1
  have e1 := zz_w_set (G := G) (E := E) (E' := (E.1, E.2.1, zz_ru E.2.2 k j (some x))) (im := im) (im' := im) (q := k) rfl hk (fun _ _ => rfl) (fun _ _ => rfl) (fun _ h => zz_ru_off _ _ _ _ h)
  dsimp only at e1
  rw [hkd, zz_ru_row] at e1
  exact kk H1 locs1 ls ⟨h1.1, by rw [← e1]; exact hP1⟩ h2 h3 h4 hS1 h6
/-- an index within, as the walk asks it -/
theorem zz_vp {i : Int32} {n : Nat} (h : 0 ≤ i.toInt ∧ i.toInt < n) : vp_in i n := vp_in_iff.mpr h
theorem zz_iald (S : zz_S G l own cc nL d n0 mcT msT isI rt Qf w) {k n : Nat} {i : Int32} (hk : k < E.1) (hkd : E.2.1 k = (1, n)) (hi : vp_in i n) (hd : decode cc pc = .ok (.iaload, 1)) (hq : pc + 1 = q) (kk : w q L (.int (im k i.toNatClampNeg) :: st) z E im) : w pc L (.int i :: .ref k :: st) z E im := by
  subst hq
  obtain ⟨p, e, R, s, m, args, below, meth, c0, Q, ⟨hx, hb, hml, hown, hts⟩, hR, hI, hK, hsz, hret, rfl⟩ := S
  intro H locs ls h1 h2 h3 h4 h5 h6
  exact va_iald hx hb hK.1.1 h1.2 k 1 (zz_w_ints hk hkd (by decide) (by decide)) rfl hi hd (kk H locs ls h1 h2 h3 h4 h5 h6)
theorem zz_zald (S : zz_S G l own cc nL d n0 mcT msT isI rt Qf w) {k n : Nat} {i : Int32} (hk : k < E.1) (hkd : E.2.1 k = (2, n)) (hi : vp_in i n) (hd : decode cc pc = .ok (.baload, 1)) (hq : pc + 1 = q) (kk : w q L (.int (im k i.toNatClampNeg) :: st) z E im) : w pc L (.int i :: .ref k :: st) z E im := by
  subst hq
  obtain ⟨p, e, R, s, m, args, below, meth, c0, Q, ⟨hx, hb, hml, hown, hts⟩, hR, hI, hK, hsz, hret, rfl⟩ := S
  intro H locs ls h1 h2 h3 h4 h5 h6
  exact va_zald hx hb hK.1.1 h1.2 k 2 (zz_w_ints hk hkd (by decide) (by decide)) rfl hi hd (kk H locs ls h1 h2 h3 h4 h5 h6)
theorem zz_cald (S : zz_S G l own cc nL d n0 mcT msT isI rt Qf w) {k n : Nat} {i : Int32} (hk : k < E.1) (hkd : E.2.1 k = (3, n)) (hi : vp_in i n) (hd : decode cc pc = .ok (.caload, 1)) (hq : pc + 1 = q) (kk : w q L (.int (im k i.toNatClampNeg) :: st) z E im) : w pc L (.int i :: .ref k :: st) z E im := by
  subst hq
  obtain ⟨p, e, R, s, m, args, below, meth, c0, Q, ⟨hx, hb, hml, hown, hts⟩, hR, hI, hK, hsz, hret, rfl⟩ := S
  intro H locs ls h1 h2 h3 h4 h5 h6
  exact va_cald hx hb hK.1.1 h1.2 k 3 (zz_w_ints hk hkd (by decide) (by decide)) rfl hi hd (kk H locs ls h1 h2 h3 h4 h5 h6)
theorem zz_iast (S : zz_S G l own cc nL d n0 mcT msT isI rt Qf w) {k n : Nat} {i x : Int32} (hk : k < E.1) (hkd : E.2.1 k = (1, n)) (hi : vp_in i n) (hd : decode cc pc = .ok (.iastore, 1)) (hq : pc + 1 = q) (kk : w q L st z E (zz_u im k i.toNatClampNeg x)) : w pc L (.int x :: .int i :: .ref k :: st) z E im := by
  subst hq
  obtain ⟨p, e, R, s, m, args, below, meth, c0, Q, ⟨hx, hb, hml, hown, hts⟩, hR, hI, hK, hsz, hret, rfl⟩ := S
  intro H locs ls h1 h2 h3 h4 h5 h6
  refine va_iast hx hb hK.1.1 h1.2 (zz_w_D h1.1) h5 k 1 (zz_w_ints hk hkd (by decide) (by decide)) rfl hi hd (fun H1 locs1 hP1 hD1 hS1 => ?_)
  have e1 := zz_w_set (G := G) (E := E) (E' := E) (im := im) (im' := zz_u im k i.toNatClampNeg x) (q := k) rfl hk (fun _ _ => rfl) (fun _ h => zz_u_off _ _ _ _ h) (fun _ _ => rfl)
  rw [hkd, zz_u_row] at e1
  exact kk H1 locs1 ls ⟨h1.1, by rw [← e1]; exact hP1⟩ h2 h3 h4 hS1 h6
theorem zz_zast (S : zz_S G l own cc nL d n0 mcT msT isI rt Qf w) {k n : Nat} {i x : Int32} (hk : k < E.1) (hkd : E.2.1 k = (2, n)) (hi : vp_in i n) (hd : decode cc pc = .ok (.bastore, 1)) (hq : pc + 1 = q) (kk : w q L st z E (zz_u im k i.toNatClampNeg (vp_nar .boolean x))) : w pc L (.int x :: .int i :: .ref k :: st) z E im := by
  subst hq
  obtain ⟨p, e, R, s, m, args, below, meth, c0, Q, ⟨hx, hb, hml, hown, hts⟩, hR, hI, hK, hsz, hret, rfl⟩ := S
  intro H locs ls h1 h2 h3 h4 h5 h6
  refine va_zast hx hb hK.1.1 h1.2 (zz_w_D h1.1) h5 k 2 (zz_w_ints hk hkd (by decide) (by decide)) rfl hi hd (fun H1 locs1 hP1 hD1 hS1 => ?_)
  have e1 := zz_w_set (G := G) (E := E) (E' := E) (im := im) (im' := zz_u im k i.toNatClampNeg (vp_nar .boolean x)) (q := k) rfl hk (fun _ _ => rfl) (fun _ h => zz_u_off _ _ _ _ h) (fun _ _ => rfl)
  rw [hkd, zz_u_row] at e1
  exact kk H1 locs1 ls ⟨h1.1, by rw [← e1]; exact hP1⟩ h2 h3 h4 hS1 h6
theorem zz_cast (S : zz_S G l own cc nL d n0 mcT msT isI rt Qf w) {k n : Nat} {i x : Int32} (hk : k < E.1) (hkd : E.2.1 k = (3, n)) (hi : vp_in i n) (hd : decode cc pc = .ok (.castore, 1)) (hq : pc + 1 = q) (kk : w q L st z E (zz_u im k i.toNatClampNeg (vp_nar .char x))) : w pc L (.int x :: .int i :: .ref k :: st) z E im := by
  subst hq
  obtain ⟨p, e, R, s, m, args, below, meth, c0, Q, ⟨hx, hb, hml, hown, hts⟩, hR, hI, hK, hsz, hret, rfl⟩ := S
  intro H locs ls h1 h2 h3 h4 h5 h6
  refine va_cast hx hb hK.1.1 h1.2 (zz_w_D h1.1) h5 k 3 (zz_w_ints hk hkd (by decide) (by decide)) rfl hi hd (fun H1 locs1 hP1 hD1 hS1 => ?_)
  have e1 := zz_w_set (G := G) (E := E) (E' := E) (im := im) (im' := zz_u im k i.toNatClampNeg (vp_nar .char x)) (q := k) rfl hk (fun _ _ => rfl) (fun _ h => zz_u_off _ _ _ _ h) (fun _ _ => rfl)
  rw [hkd, zz_u_row] at e1
  exact kk H1 locs1 ls ⟨h1.1, by rw [← e1]; exact hP1⟩ h2 h3 h4 hS1 h6
theorem zz_aald (S : zz_S G l own cc nL d n0 mcT msT isI rt Qf w) {k t0 n x : Nat} {i : Int32} (hk : k < E.1) (hkd : E.2.1 k = (t0, n)) (ht0 : 4 ≤ t0 ∧ t0 ≤ 7) (hi : vp_in i n) (hx1 : E.2.2 k i.toNatClampNeg = some x) (hd : decode cc pc = .ok (.aaload, 1)) (hq : pc + 1 = q) (kk : w q L (.ref x :: st) z E im) : w pc L (.int i :: .ref k :: st) z E im := by
  subst hq
  obtain ⟨p, e, R, s, m, args, below, meth, c0, Q, ⟨hx, hb, hml, hown, hts⟩, hR, hI, hK, hsz, hret, rfl⟩ := S
  intro H locs ls h1 h2 h3 h4 h5 h6
  have kk2 := kk H locs ls h1 h2 h3 h4 h5 h6
  have e2 : va_rf ((fun j => (E.2.2 k j).map (zz_b G)) i.toNatClampNeg) = .ref (zz_b G x) := by simp [hx1, va_rf]
  have hcell := zz_w_refs (G := G) (im := im) hk hkd ht0.1
  rw [List.map_cons, zz_v_ref, ← e2] at kk2
  rcases (show t0 = 4 ∨ t0 = 5 ∨ t0 = 6 ∨ t0 = 7 by omega) with rfl | rfl | rfl | rfl
  · exact va_aldq (C := RX6) hx hb hK.1.1 h1.2 k 4 hcell rfl hi hd kk2
  · exact va_aldq (C := RX0) hx hb hK.1.1 h1.2 k 5 hcell rfl hi hd kk2
  · exact va_aldq (C := RX4) hx hb hK.1.1 h1.2 k 6 hcell rfl hi hd kk2
  · exact va_aldq (C := RX5) hx hb hK.1.1 h1.2 k 7 hcell rfl hi hd kk2
theorem zz_aast (S : zz_S G l own cc nL d n0 mcT msT isI rt Qf w) {k t0 c n x : Nat} {i : Int32} (hk : k < E.1) (hkd : E.2.1 k = (t0, n)) (ht0 : (t0, c) ∈ [(4, 6), (5, 0), (6, 4), (7, 5)]) (hi : vp_in i n) (hkx : x < E.1) (hkdx : E.2.1 x = (0, c)) (hd : decode cc pc = .ok (.aastore, 1)) (hq : pc + 1 = q) (kk : w q L st z (E.1, E.2.1, zz_ru E.2.2 k i.toNatClampNeg (some x)) im) : w pc L (.ref x :: .int i :: .ref k :: st) z E im := by
  subst hq
  obtain ⟨p, e, R, s, m, args, below, meth, c0, Q, ⟨hx, hb, hml, hown, hts⟩, hR, hI, hK, hsz, hret, rfl⟩ := S
  intro H locs ls h1 h2 h3 h4 h5 h6
  have key : ∀ (r : vw_C), zz_cl[c]? = some r → (zz_tys G)[t0]? = some (G.2.1 t0, .object r.1) → 4 ≤ t0 → W p l e R s m args below meth c0 H locs (E.1 - n0) z Q (F0 m pc ls (.ref (zz_b G x) :: .int i :: .ref (zz_b G k) :: st.map (zz_v G))) := by
    intro r hr hty ht4
    refine va_astq hx hb hK.1.1 h1.2 (zz_w_D h1.1) h5 k t0 x c (zz_w_refs hk hkd ht4) hty (zz_w_obj hkx hkdx) hr hi hd (fun H1 locs1 hP1 hD1 hS1 => ?_)
    have e1 := zz_w_set (G := G) (E := E) (E' := (E.1, E.2.1, zz_ru E.2.2 k i.toNatClampNeg (some x))) (im := im) (im' := im) (q := k) rfl hk (fun _ _ => rfl) (fun _ _ => rfl) (fun _ h => zz_ru_off _ _ _ _ h)
    dsimp only at e1
    have e2 : zz_c G (t0, n) (im k) (zz_ru E.2.2 k i.toNatClampNeg (some x) k) = .inl (G.2.1 t0, n, .inr (.inr (.inr (.inr (va_up (fun j => (E.2.2 k j).map (zz_b G)) i.toNatClampNeg (some (zz_b G x))))))) := by
      unfold zz_c
      rw [if_neg (by show ¬ t0 = 0; omega), if_neg (by show ¬ t0 ≤ 3; omega), zz_ru_row]
      congr 7
      funext j
      by_cases hj : j = i.toNatClampNeg
      · subst hj; simp [va_up]
      · simp [va_up, hj]
    rw [hkd, e2] at e1
    exact kk H1 locs1 ls ⟨h1.1, by rw [← e1]; exact hP1⟩ h2 h3 h4 hS1 h6
  simp only [List.mem_cons, Prod.mk.injEq, List.not_mem_nil, or_false] at ht0
  rcases ht0 with ⟨rfl, rfl⟩ | ⟨rfl, rfl⟩ | ⟨rfl, rfl⟩ | ⟨rfl, rfl⟩
  · exact key (RX6, TX6, 2) rfl rfl (by decide)
  · exact key (RX0, TX0, 8) rfl rfl (by decide)
  · exact key (RX4, TX4, 8) rfl rfl (by decide)
  · exact key (RX5, TX5, 3) rfl rfl (by decide)
theorem zz_gets (S : zz_S G l own cc nL d n0 mcT msT isI rt Qf w) {idx i : Nat} (hi : i < 4) (hn : Cond.fieldLinkNest own idx "SundialWorks" (zz_sn i) "[I" "SundialWorks" ∈ zz_nw) (hd : decode cc pc = .ok (.getstatic idx, 3)) (hq : pc + 3 = q) (kk : w q L (.ref (1000 + i) :: st) z E im) : w pc L st z E im := by
  subst hq
  obtain ⟨p, e, R, s, m, args, below, meth, c0, Q, ⟨hx, hb, hml, hown, hts⟩, hR, hI, hK, hsz, hret, rfl⟩ := S
  intro H locs ls h1 h2 h3 h4 h5 h6
  have hl : va_Nw (.fieldLinkNest own idx "SundialWorks" (zz_sn i) "[I" "SundialWorks") s := hK.1.2.1 _ hn
  exact va_getsN hx hb (hK.2.1 i hi).1 h5 hown (va_Nw.use rfl hl) (fun _ h => h) hd (kk H locs ls h1 h2 h3 h4 h5 h6)
theorem zz_sald (S : zz_S G l own cc nL d n0 mcT msT isI rt Qf w) {k : Nat} {i : Int32} (hk : k < 4) (hi : vp_in i (zz_st k).length) (hd : decode cc pc = .ok (.iaload, 1)) (hq : pc + 1 = q) (kk : w q L (.int ((zz_st k).getD i.toNatClampNeg 0) :: st) z E im) : w pc L (.int i :: .ref (1000 + k) :: st) z E im := by
  subst hq
  obtain ⟨p, e, R, s, m, args, below, meth, c0, Q, ⟨hx, hb, hml, hown, hts⟩, hR, hI, hK, hsz, hret, rfl⟩ := S
  intro H locs ls h1 h2 h3 h4 h5 h6
  exact va_ti hx hb (hK.2.1 k hk).2 h5 hi (v := .int ((zz_st k).getD i.toNatClampNeg 0)) rfl hd (kk H locs ls h1 h2 h3 h4 h5 h6)
/-! new cells -/
theorem zz_top {H : Heap} {s : State} {locs : List Loc} {A : Nat → Prop} (h1 : zz_R G H E im) (h2 : n0 ≤ E.1) (hS : va_S A s.heap H locs) (hsz : s.heap.size = G.2.2.1 + n0) : G.2.2.1 + E.1 ≤ H.size := by
  by_cases h : E.1 = n0
  · have := hS.1
    omega
  · have hk : E.1 - 1 < E.1 := by omega
    have h4 := (h1.2 (E.1 - 1) _ (zz_w_get hk)).lt
    have h5 : zz_b G (E.1 - 1) = G.2.2.1 + (E.1 - 1) := zz_b_lt (by have := h1.1; omega)
    have h6 : zz_b G (E.1 - 1) < H.size := h4
    omega
theorem zz_Wsz {p : Program} {e : Env} {R : Room} {s : State} {m : MethodId} {args : Array Value} {below : List Frame} {meth : Method} {c : Code} {H : Heap} {locs : List Loc} {cells slots : Nat} {Q : State → Prop} {g : JFrame} (k : H.size ≤ s.heap.size + cells → W p l e R s m args below meth c H locs cells slots Q g) : W p l e R s m args below meth c H locs cells slots Q g := by
  intro T hT X
  have h := X.heapSize
  rw [hT] at h
  exact k h T hT X
theorem zz_fresh {H1 : Heap} {x : va_E} {qv : Nat} {A : Nat → Prop} (hA : A = zz_A G) (hP : va_P G.1 zz_cl (zz_w G E im ++ [(qv, x)]) H1) (hD : va_D A (zz_w G E im ++ [(qv, x)])) (h1 : E.1 ≤ 1000) (hs : H1.size ≤ G.2.2.1 + (E.1 + 1)) (h9 : E.1 < 1000) : qv = zz_b G E.1 := by
  subst hA
  have hlen : (zz_w G E im).length = E.1 := by simp [zz_w]
  have hq : (zz_w G E im ++ [(qv, x)])[E.1]? = some (qv, x) := by rw [List.getElem?_append_right (by omega), hlen, Nat.sub_self]; rfl
  have h2 : qv < H1.size := (hP E.1 _ hq).lt
  have h3 : G.2.2.1 ≤ qv := hD.2 E.1 _ hq
  rw [zz_b_lt h9]
  by_cases hk : qv - G.2.2.1 < E.1
  · exfalso
    have h4 : (zz_w G E im ++ [(qv, x)])[qv - G.2.2.1]? = some (zz_b G (qv - G.2.2.1), zz_c G (E.2.1 (qv - G.2.2.1)) (im (qv - G.2.2.1)) (E.2.2 (qv - G.2.2.1))) := by
      rw [List.getElem?_append_left (by omega)]
      exact zz_w_get hk
    have h5 := hD.1 _ _ _ _ h4 hq (by rw [zz_b_lt (by omega)]; show G.2.2.1 + (qv - G.2.2.1) = qv; omega)
    omega
  · omega
/-- the memory with one new cell of the kind kd -/
def zz_nE (E : ZE) (kd : Nat × Nat) : ZE := (E.1 + 1, fun k => if k = E.1 then kd else E.2.1 k, fun k => if k = E.1 then fun _ => none else E.2.2 k)
def zz_nI (E : ZE) (im : ZI) : ZI := fun k => if k = E.1 then fun _ => 0 else im k
theorem zz_nw_eq (kd : Nat × Nat) : zz_w G E im ++ [(zz_b G E.1, zz_c G kd (fun _ => 0) (fun _ => none))] = zz_w G (zz_nE E kd) (zz_nI E im) :=
  zz_w_push (E' := zz_nE E kd) (im' := zz_nI E im) rfl (fun k hk => if_neg (by omega)) (fun k hk => if_neg (by omega)) (fun k hk => if_neg (by omega)) (if_pos rfl) (if_pos rfl) (if_pos rfl)
theorem zz_new (S : zz_S G l own cc nL d n0 mcT msT isI rt Qf w) {idx c : Nat} (hc : c < 9) (hl1 : Cond.classLink own idx (zz_cn c) ∈ zz_t) (hl2 : Cond.instantiable (zz_cn c) (zz_n c) ∈ zz_t) (hl3 : Cond.initialized (zz_cn c) ∈ zz_t) (hE : E.1 < 1000) (hm : n0 ≤ E.1 → E.1 + 1 ≤ n0 + mcT) (hz : z + zz_n c ≤ msT) (hd : decode cc pc = .ok (.new idx, 3)) (hq : pc + 3 = q) (kk : w q L (.ref E.1 :: st) (z + zz_n c) (zz_nE E (0, c)) (zz_nI E im)) : w pc L st z E im := by
  subst hq
  obtain ⟨p, e, R, s, m, args, below, meth, c0, Q, ⟨hx, hb, hml, hown, hts⟩, hR, hI, hK, hsz, hret, rfl⟩ := S
  intro H locs ls h1 h2 h3 h4 h5 h6
  obtain ⟨c1, c2, c3, c4⟩ := zz_cls hc
  refine va_new hx hb hts c2 (zz_ty c) c3 hown (hts _ hl1) (hts _ hl2) (hts _ hl3) hK.1.1 h1.2 (zz_w_D h1.1) h5 (fun q hq => by show G.2.2.1 ≤ q; omega) c1 (fs := zz_fs G c (fun _ => 0) (fun _ => none)) (fun j hj => ?_) (by have := hm h2; omega) (by omega) hd (fun qv H1 hP1 hD1 hS1 => ?_)
  · unfold vp_V
    rw [List.getD_eq_getElem?_getD, zz_fs_get hj]
    have hall : ∀ c, c < 9 → ∀ j, j < zz_n c → defaultValue (zz_ty c j) = (if zz_r c j = true then .null else .int 0) := by decide +kernel
    rw [hall c hc j hj]
    simp only [zz_fv, Option.map_none, va_rf, Option.getD_some]
  · refine zz_Wsz (fun hsz1 => ?_)
    have hqv := zz_fresh rfl hP1 hD1 h1.1 (by omega) hE
    subst hqv
    have key := kk H1 locs ls ⟨by show E.1 + 1 ≤ 1000; omega, by rw [← zz_nw_eq]; exact hP1⟩ (by show n0 ≤ E.1 + 1; omega) (hm h2) hz hS1 h6
    rw [show (zz_nE E (0, c)).1 - n0 = E.1 - n0 + 1 by show E.1 + 1 - n0 = _; omega] at key
    exact key
theorem zz_newI (S : zz_S G l own cc nL d n0 mcT msT isI rt Qf w) {n : Int32} {N : Nat} (hl : Cond.arrayClass .int ∈ zz_t) (hn : ¬ n < 0) (hN : n.toNatClampNeg = N) (hby : N * componentBytes .int ≤ 536870912) (hE : E.1 < 1000) (hm : n0 ≤ E.1 → E.1 + 1 ≤ n0 + mcT) (hz : z + N ≤ msT) (hd : decode cc pc = .ok (.newarray .int, 2)) (hq : pc + 2 = q) (kk : w q L (.ref E.1 :: st) (z + N) (zz_nE E (1, N)) (zz_nI E im)) : w pc L (.int n :: st) z E im := by
  subst hq
  obtain ⟨p, e, R, s, m, args, below, meth, c0, Q, ⟨hx, hb, hml, hown, hts⟩, hR, hI, hK, hsz, hret, rfl⟩ := S
  intro H locs ls h1 h2 h3 h4 h5 h6
  refine va_newa (atype := .int) (ty := .int) hx hb (hts _ hl) rfl hK.1.1 h1.2 (zz_w_D h1.1) h5 (fun q hq => by show G.2.2.1 ≤ q; omega) (a0 := (N, .inl (fun _ => 0))) (fun _ => rfl) hn hN hby (by have := hm h2; omega) (by omega) hd (fun qv cA H1 hK1 hP1 hD1 hS1 => ?_)
  refine zz_Wsz (fun hsz1 => ?_)
  have hqv := zz_fresh rfl hP1 hD1 h1.1 (by omega) hE
  subst hqv
  have hcA : cA = G.2.1 1 := by
    have a1 := (hK1.2 8 (cA, .int) rfl).2
    have a2 := (hK1.2 1 (G.2.1 1, .int) rfl).2
    exact Option.some.inj ((show s.vm.findClass _ = some cA from a1).symm.trans (show s.vm.findClass _ = some (G.2.1 1) from a2))
  subst hcA
  have key := kk H1 locs ls ⟨by show E.1 + 1 ≤ 1000; omega, by rw [← zz_nw_eq]; exact hP1⟩ (by show n0 ≤ E.1 + 1; omega) (hm h2) hz hS1 h6
  rw [show (zz_nE E (1, N)).1 - n0 = E.1 - n0 + 1 by show E.1 + 1 - n0 = _; omega] at key
  exact key
theorem zz_newZ (S : zz_S G l own cc nL d n0 mcT msT isI rt Qf w) {n : Int32} {N : Nat} (hl : Cond.arrayClass .boolean ∈ zz_t) (hn : ¬ n < 0) (hN : n.toNatClampNeg = N) (hby : N * componentBytes .boolean ≤ 536870912) (hE : E.1 < 1000) (hm : n0 ≤ E.1 → E.1 + 1 ≤ n0 + mcT) (hz : z + N ≤ msT) (hd : decode cc pc = .ok (.newarray .boolean, 2)) (hq : pc + 2 = q) (kk : w q L (.ref E.1 :: st) (z + N) (zz_nE E (2, N)) (zz_nI E im)) : w pc L (.int n :: st) z E im := by
  subst hq
  obtain ⟨p, e, R, s, m, args, below, meth, c0, Q, ⟨hx, hb, hml, hown, hts⟩, hR, hI, hK, hsz, hret, rfl⟩ := S
  intro H locs ls h1 h2 h3 h4 h5 h6
  refine va_newa (atype := .boolean) (ty := .boolean) hx hb (hts _ hl) rfl hK.1.1 h1.2 (zz_w_D h1.1) h5 (fun q hq => by show G.2.2.1 ≤ q; omega) (a0 := (N, .inl (fun _ => 0))) (fun _ => rfl) hn hN hby (by have := hm h2; omega) (by omega) hd (fun qv cA H1 hK1 hP1 hD1 hS1 => ?_)
  refine zz_Wsz (fun hsz1 => ?_)
  have hqv := zz_fresh rfl hP1 hD1 h1.1 (by omega) hE
  subst hqv
  have hcA : cA = G.2.1 2 := by
    have a1 := (hK1.2 8 (cA, .boolean) rfl).2
    have a2 := (hK1.2 2 (G.2.1 2, .boolean) rfl).2
    exact Option.some.inj ((show s.vm.findClass _ = some cA from a1).symm.trans (show s.vm.findClass _ = some (G.2.1 2) from a2))
  subst hcA
  have key := kk H1 locs ls ⟨by show E.1 + 1 ≤ 1000; omega, by rw [← zz_nw_eq]; exact hP1⟩ (by show n0 ≤ E.1 + 1; omega) (hm h2) hz hS1 h6
  rw [show (zz_nE E (2, N)).1 - n0 = E.1 - n0 + 1 by show E.1 + 1 - n0 = _; omega] at key
  exact key
theorem zz_newC (S : zz_S G l own cc nL d n0 mcT msT isI rt Qf w) {n : Int32} {N : Nat} (hl : Cond.arrayClass .char ∈ zz_t) (hn : ¬ n < 0) (hN : n.toNatClampNeg = N) (hby : N * componentBytes .char ≤ 536870912) (hE : E.1 < 1000) (hm : n0 ≤ E.1 → E.1 + 1 ≤ n0 + mcT) (hz : z + N ≤ msT) (hd : decode cc pc = .ok (.newarray .char, 2)) (hq : pc + 2 = q) (kk : w q L (.ref E.1 :: st) (z + N) (zz_nE E (3, N)) (zz_nI E im)) : w pc L (.int n :: st) z E im := by
  subst hq
  obtain ⟨p, e, R, s, m, args, below, meth, c0, Q, ⟨hx, hb, hml, hown, hts⟩, hR, hI, hK, hsz, hret, rfl⟩ := S
  intro H locs ls h1 h2 h3 h4 h5 h6
  refine va_newa (atype := .char) (ty := .char) hx hb (hts _ hl) rfl hK.1.1 h1.2 (zz_w_D h1.1) h5 (fun q hq => by show G.2.2.1 ≤ q; omega) (a0 := (N, .inl (fun _ => 0))) (fun _ => rfl) hn hN hby (by have := hm h2; omega) (by omega) hd (fun qv cA H1 hK1 hP1 hD1 hS1 => ?_)
  refine zz_Wsz (fun hsz1 => ?_)
  have hqv := zz_fresh rfl hP1 hD1 h1.1 (by omega) hE
  subst hqv
  have hcA : cA = G.2.1 3 := by
    have a1 := (hK1.2 8 (cA, .char) rfl).2
    have a2 := (hK1.2 3 (G.2.1 3, .char) rfl).2
    exact Option.some.inj ((show s.vm.findClass _ = some cA from a1).symm.trans (show s.vm.findClass _ = some (G.2.1 3) from a2))
  subst hcA
  have key := kk H1 locs ls ⟨by show E.1 + 1 ≤ 1000; omega, by rw [← zz_nw_eq]; exact hP1⟩ (by show n0 ≤ E.1 + 1; omega) (hm h2) hz hS1 h6
  rw [show (zz_nE E (3, N)).1 - n0 = E.1 - n0 + 1 by show E.1 + 1 - n0 = _; omega] at key
  exact key
theorem zz_newW (S : zz_S G l own cc nL d n0 mcT msT isI rt Qf w) {idx : Nat} {n : Int32} {N : Nat} (hl : Cond.classLink own idx RX6 ∈ zz_t) (hn : ¬ n < 0) (hN : n.toNatClampNeg = N) (hby : N * 4 ≤ 536870912) (hE : E.1 < 1000) (hm : n0 ≤ E.1 → E.1 + 1 ≤ n0 + mcT) (hz : z + N ≤ msT) (hd : decode cc pc = .ok (.anewarray idx, 3)) (hq : pc + 3 = q) (kk : w q L (.ref E.1 :: st) (z + N) (zz_nE E (4, N)) (zz_nI E im)) : w pc L (.int n :: st) z E im := by
  subst hq
  obtain ⟨p, e, R, s, m, args, below, meth, c0, Q, ⟨hx, hb, hml, hown, hts⟩, hR, hI, hK, hsz, hret, rfl⟩ := S
  intro H locs ls h1 h2 h3 h4 h5 h6
  refine va_newq hx hb hown (hts _ hl) hK.1.2.2.1 hK.1.1 h1.2 (zz_w_D h1.1) h5 (fun q hq => by show G.2.2.1 ≤ q; omega) hn hN hby (by have := hm h2; omega) (by omega) hd (fun qv cA H1 hK1 hP1 hD1 hS1 => ?_)
  refine zz_Wsz (fun hsz1 => ?_)
  have hqv := zz_fresh rfl hP1 hD1 h1.1 (by omega) hE
  subst hqv
  have hcA : cA = G.2.1 4 := by
    obtain ⟨_, _, _, _, _, a1⟩ := (hK1.2 8 (cA, .object RX6) rfl).2
    obtain ⟨_, _, _, _, _, a2⟩ := (hK1.2 4 (G.2.1 4, .object RX6) rfl).2
    exact Option.some.inj (a1.symm.trans a2)
  subst hcA
  have key := kk H1 locs ls ⟨by show E.1 + 1 ≤ 1000; omega, by rw [← zz_nw_eq]; exact hP1⟩ (by show n0 ≤ E.1 + 1; omega) (hm h2) hz hS1 h6
  rw [show (zz_nE E (4, N)).1 - n0 = E.1 - n0 + 1 by show E.1 + 1 - n0 = _; omega] at key
  exact key
theorem zz_newK (S : zz_S G l own cc nL d n0 mcT msT isI rt Qf w) {idx : Nat} {n : Int32} {N : Nat} (hl : Cond.classLink own idx RX0 ∈ zz_t) (hn : ¬ n < 0) (hN : n.toNatClampNeg = N) (hby : N * 4 ≤ 536870912) (hE : E.1 < 1000) (hm : n0 ≤ E.1 → E.1 + 1 ≤ n0 + mcT) (hz : z + N ≤ msT) (hd : decode cc pc = .ok (.anewarray idx, 3)) (hq : pc + 3 = q) (kk : w q L (.ref E.1 :: st) (z + N) (zz_nE E (5, N)) (zz_nI E im)) : w pc L (.int n :: st) z E im := by
  subst hq
  obtain ⟨p, e, R, s, m, args, below, meth, c0, Q, ⟨hx, hb, hml, hown, hts⟩, hR, hI, hK, hsz, hret, rfl⟩ := S
  intro H locs ls h1 h2 h3 h4 h5 h6
  refine va_newq hx hb hown (hts _ hl) hK.1.2.2.2.1 hK.1.1 h1.2 (zz_w_D h1.1) h5 (fun q hq => by show G.2.2.1 ≤ q; omega) hn hN hby (by have := hm h2; omega) (by omega) hd (fun qv cA H1 hK1 hP1 hD1 hS1 => ?_)
  refine zz_Wsz (fun hsz1 => ?_)
  have hqv := zz_fresh rfl hP1 hD1 h1.1 (by omega) hE
  subst hqv
  have hcA : cA = G.2.1 5 := by
    obtain ⟨_, _, _, _, _, a1⟩ := (hK1.2 8 (cA, .object RX0) rfl).2
    obtain ⟨_, _, _, _, _, a2⟩ := (hK1.2 5 (G.2.1 5, .object RX0) rfl).2
    exact Option.some.inj (a1.symm.trans a2)
  subst hcA
  have key := kk H1 locs ls ⟨by show E.1 + 1 ≤ 1000; omega, by rw [← zz_nw_eq]; exact hP1⟩ (by show n0 ≤ E.1 + 1; omega) (hm h2) hz hS1 h6
  rw [show (zz_nE E (5, N)).1 - n0 = E.1 - n0 + 1 by show E.1 + 1 - n0 = _; omega] at key
  exact key
theorem zz_newP (S : zz_S G l own cc nL d n0 mcT msT isI rt Qf w) {idx : Nat} {n : Int32} {N : Nat} (hl : Cond.classLink own idx RX4 ∈ zz_t) (hn : ¬ n < 0) (hN : n.toNatClampNeg = N) (hby : N * 4 ≤ 536870912) (hE : E.1 < 1000) (hm : n0 ≤ E.1 → E.1 + 1 ≤ n0 + mcT) (hz : z + N ≤ msT) (hd : decode cc pc = .ok (.anewarray idx, 3)) (hq : pc + 3 = q) (kk : w q L (.ref E.1 :: st) (z + N) (zz_nE E (6, N)) (zz_nI E im)) : w pc L (.int n :: st) z E im := by
  subst hq
  obtain ⟨p, e, R, s, m, args, below, meth, c0, Q, ⟨hx, hb, hml, hown, hts⟩, hR, hI, hK, hsz, hret, rfl⟩ := S
  intro H locs ls h1 h2 h3 h4 h5 h6
  refine va_newq hx hb hown (hts _ hl) hK.1.2.2.2.2.1 hK.1.1 h1.2 (zz_w_D h1.1) h5 (fun q hq => by show G.2.2.1 ≤ q; omega) hn hN hby (by have := hm h2; omega) (by omega) hd (fun qv cA H1 hK1 hP1 hD1 hS1 => ?_)
  refine zz_Wsz (fun hsz1 => ?_)
  have hqv := zz_fresh rfl hP1 hD1 h1.1 (by omega) hE
  subst hqv
  have hcA : cA = G.2.1 6 := by
    obtain ⟨_, _, _, _, _, a1⟩ := (hK1.2 8 (cA, .object RX4) rfl).2
    obtain ⟨_, _, _, _, _, a2⟩ := (hK1.2 6 (G.2.1 6, .object RX4) rfl).2
    exact Option.some.inj (a1.symm.trans a2)
  subst hcA
  have key := kk H1 locs ls ⟨by show E.1 + 1 ≤ 1000; omega, by rw [← zz_nw_eq]; exact hP1⟩ (by show n0 ≤ E.1 + 1; omega) (hm h2) hz hS1 h6
  rw [show (zz_nE E (6, N)).1 - n0 = E.1 - n0 + 1 by show E.1 + 1 - n0 = _; omega] at key
  exact key
theorem zz_newT (S : zz_S G l own cc nL d n0 mcT msT isI rt Qf w) {idx : Nat} {n : Int32} {N : Nat} (hl : Cond.classLink own idx RX5 ∈ zz_t) (hn : ¬ n < 0) (hN : n.toNatClampNeg = N) (hby : N * 4 ≤ 536870912) (hE : E.1 < 1000) (hm : n0 ≤ E.1 → E.1 + 1 ≤ n0 + mcT) (hz : z + N ≤ msT) (hd : decode cc pc = .ok (.anewarray idx, 3)) (hq : pc + 3 = q) (kk : w q L (.ref E.1 :: st) (z + N) (zz_nE E (7, N)) (zz_nI E im)) : w pc L (.int n :: st) z E im := by
  subst hq
  obtain ⟨p, e, R, s, m, args, below, meth, c0, Q, ⟨hx, hb, hml, hown, hts⟩, hR, hI, hK, hsz, hret, rfl⟩ := S
  intro H locs ls h1 h2 h3 h4 h5 h6
  refine va_newq hx hb hown (hts _ hl) hK.1.2.2.2.2.2 hK.1.1 h1.2 (zz_w_D h1.1) h5 (fun q hq => by show G.2.2.1 ≤ q; omega) hn hN hby (by have := hm h2; omega) (by omega) hd (fun qv cA H1 hK1 hP1 hD1 hS1 => ?_)
  refine zz_Wsz (fun hsz1 => ?_)
  have hqv := zz_fresh rfl hP1 hD1 h1.1 (by omega) hE
  subst hqv
  have hcA : cA = G.2.1 7 := by
    obtain ⟨_, _, _, _, _, a1⟩ := (hK1.2 8 (cA, .object RX5) rfl).2
    obtain ⟨_, _, _, _, _, a2⟩ := (hK1.2 7 (G.2.1 7, .object RX5) rfl).2
    exact Option.some.inj (a1.symm.trans a2)
  subst hcA
  have key := kk H1 locs ls ⟨by show E.1 + 1 ≤ 1000; omega, by rw [← zz_nw_eq]; exact hP1⟩ (by show n0 ≤ E.1 + 1; omega) (hm h2) hz hS1 h6
  rw [show (zz_nE E (7, N)).1 - n0 = E.1 - n0 + 1 by show E.1 + 1 - n0 = _; omega] at key
  exact key
end ZH
end
section
/-! ROWS: calls -/
section ZCALL
variable {p : Program} {l : Launch} {e : Env} {R : Room} {s : State} {m : MethodId} {args : Array Value} {below : List Frame} {meth : Method} {c : Code} {H : Heap} {locs : List Loc} {cells slots : Nat} {Q : State → Prop}
variable {pc : Nat} {ls : Array Slot} {rest st0 : List Value} {G : ZG} {E : ZE} {mc ms : Nat} {Qg : Option Value → ZE → ZI → Prop} {a : Array Value}
theorem zz_callK (hr : va_Run p l e R s m args below meth c H locs cells slots mc ms (F0 m pc ls st0) rest (zz_Post G mc E Qg a) (zz_A G)) (hS : va_S (zz_A G) s.heap H locs)
    (kk : ∀ (v : Option Value) (E' : ZE) (im' : ZI) (H1 : Heap) (locs1 : List Loc), E'.1 = E.1 + mc → Qg v E' im' → zz_R G H1 E' im' → va_S (zz_A G) s.heap H1 locs1 → W p l e R s m args below meth c H1 locs1 (cells + mc) (slots + ms) Q (F0 m (pc + 3) ls ((v.map (zz_v G)).toList ++ rest))) :
    W p l e R s m args below meth c H locs cells slots Q (F0 m pc ls st0) := by
  intro T hT X
  obtain ⟨v, st₀, t, T', L, h0, X', hL, e1, e2, ⟨⟨u, E', im', hv, hE', hR', hq⟩, hz, hk⟩, st⟩ := hr T hT X
  cases hv
  rw [h0] at hz hk
  obtain ⟨t2, a1, b1⟩ := kk u E' im' T'.heap (locs ++ L) hE' hq (by rw [e1]; exact hR')
    ⟨Nat.le_trans hS.1 (by rw [e1]; exact hz), fun q h1 h2 => by rw [e1, hk q (Nat.lt_of_lt_of_le h1 hS.1) h2]; exact hS.2.1 q h1 h2, fun q hq => by
      rcases List.mem_append.mp hq with h | h
      · exact hS.2.2 q h
      · exact hL q h⟩ T' rfl X'
  exact ⟨t2, st t2 a1, b1⟩
end ZCALL
/-- what the tables say of a method -/
def zz_Y (y : ZY) (n : Nat) : Prop := Cond.initialized y.1.cls ∈ zz_t ∧ Cond.code y.1 y.2.1 y.2.2.1 y.2.2.2 ∈ zz_t ∧ (y.1.cls ≠ "java/lang/invoke/MethodHandle" ∧ y.1.cls ≠ "java/lang/invoke/VarHandle" ∧ (parseMethodDescriptor y.1.desc).map (fun d => d.parameters.length) = some n) ∧ y.2.2.1 ≤ 17
def zz_YV (y : ZY) (n : Nat) : Prop := zz_Y y n ∧ Cond.instanceMethod y.1 ∈ zz_t ∧ Cond.selects y.1.cls y.1 y.1 ∈ zz_t
def zz_YS (y : ZY) (n : Nat) : Prop := zz_Y y n ∧ Cond.static y.1 ∈ zz_t
def zz_YI (y : ZY) (n : Nat) : Prop := zz_Y y n ∧ Cond.instanceMethod y.1 ∈ zz_t ∧ y.1.name = "<init>" ∧ y.2.2.2 = none
theorem zz_blind {G : ZG} {as : List Value} {E : ZE} {im : ZI} : FrameBlind (zz_Pre G as E im) := fun _ _ _ _ h => ⟨h.1, h.2.1, zz_K.call h.2.2.1, h.2.2.2⟩
theorem zz_rev {G : ZG} {as rest st : List Value} {v : Value} (h : as.reverse ++ v :: rest = st) : st.map (zz_v G) = (as.map (zz_v G)).reverse ++ zz_v G v :: rest.map (zz_v G) := by
  rw [← h, List.map_append, List.map_cons, List.map_reverse]
theorem zz_revS {G : ZG} {as rest st : List Value} (h : as.reverse ++ rest = st) : st.map (zz_v G) = (as.map (zz_v G)).reverse ++ rest.map (zz_v G) := by
  rw [← h, List.map_append, List.map_reverse]
theorem zz_tl {G : ZG} {rest : List Value} (v : Option Value) : (v.map (zz_v G)).toList ++ rest.map (zz_v G) = (v.toList ++ rest).map (zz_v G) := by
  cases v <;> rfl
section ZC
variable {G : ZG} {l : Launch} {own : String} {cc : ByteArray} {nL d n0 mcT msT : Nat} {isI : Bool} {rt : Option FieldType} {Qf : Option Value → ZE → ZI → Prop} {w : Nat → ZL → List Value → Nat → ZE → ZI → Prop}
variable {pc q t : Nat} {L L' : ZL} {st rest as : List Value} {z : Nat} {E : ZE} {im : ZI} {idx d2 mc ms : Nat} {y : ZY} {Qg : Option Value → ZE → ZI → Prop}
theorem zz_virt {ci k : Nat} (S : zz_S G l own cc nL d n0 mcT msT isI rt Qf w) (hy : zz_YV y as.length) (hlk : Cond.methodLink own idx y.1 ∈ zz_t) (hci : ci < 9) (hcn : zz_cn ci = y.1.cls) (hO : zz_O G l d2 y (.ref k :: as) E im mc ms Qg) (hdd : d2 + 1 ≤ d) (hk : k < E.1) (hkd : E.2.1 k = (0, ci))
    (hm : E.1 ≤ n0 + mcT → E.1 + mc ≤ n0 + mcT) (hz : z ≤ msT → z + ms ≤ msT) (hrs : (rest.map fun v => v.category).sum ≤ 8) (hst : as.reverse ++ .ref k :: rest = st) (hd : decode cc pc = .ok (.invokevirtual idx, 3)) (hq : pc + 3 = q)
    (kk : ∀ (v : Option Value) (E' : ZE) (im' : ZI), E'.1 = E.1 + mc → Qg v E' im' → w q L (v.toList ++ rest) (z + ms) E' im') : w pc L st z E im := by
  subst hq
  obtain ⟨p, e, R, s, m, args, below, meth, c0, Q, hfix, hR, hI, hK, hsz, hret, rfl⟩ := S
  intro H locs ls h1 h2 h3 h4 h5 h6
  have hfix' := hfix
  obtain ⟨hx, hb, hml, hown, hts⟩ := hfix
  obtain ⟨⟨y1, y2, y3, y4⟩, y5, y6⟩ := hy
  refine zz_Wsz (fun hs1 => ?_)
  have hs2 := zz_top h1 h2 h5 hsz
  have hn : n0 ≤ E.1 := h2
  rw [zz_rev hst]
  refine zz_callK (va_runV (ws := .code y.1 y.2.1 y.2.2.1 y.2.2.2 :: zz_t) (rm := zz_rm d2 mc ms) (bytes := y.2.1) (maxL := y.2.2.1) (ret := y.2.2.2) (n := as.length) (C := y.1.cls) (index := idx) (b := zz_b G k) (As := as.map (zz_v G)) (rest := rest.map (zz_v G)) hfix' hO
    ⟨callB_of as.length hts (zz_goodIn y2) rfl rfl rfl (hts _ y1) (hts _ hlk) y3 ⟨by show d2 + 1 ≤ R.frames; omega, by show 8 + (y.2.2.1 + 11) + 36 * d2 ≤ R.locals; omega⟩, hts _ y5, hts _ y6⟩
    ⟨zz_blind, ?_, fun U hU hW => ⟨rfl, by rw [hU]; exact h1, zz_K.warm hK h5 hU hW, by rw [hU]; omega⟩⟩
    rfl (by rw [List.length_map]) h6.1.1 rfl (lv_room (by rw [zz_sum]; exact hrs)) hd ⟨by have := hm h3; omega, by have := hz h4; omega⟩) h5 (fun v E' im' H1 locs1 g1 g2 g3 g4 => ?_)
  · have hv := va_recv hK.1.1 h1.2 (zz_cls hci).1 (zz_w_obj hk hkd)
    obtain ⟨cell, v1, v2, v3⟩ := hv
    exact ⟨cell, v1, v2, by rw [← hcn]; exact v3⟩
  · have key := kk v E' im' g1 g2 H1 locs1 ls g3 (by omega) (by have := hm h3; omega) (hz h4) g4 h6
    rw [zz_tl, show E.1 - n0 + mc = E'.1 - n0 by omega]
    exact key
theorem zz_stat (S : zz_S G l own cc nL d n0 mcT msT isI rt Qf w) (hy : zz_YS y as.length) (hlk : Cond.methodLink own idx y.1 ∈ zz_t) (hO : zz_O G l d2 y as E im mc ms Qg) (hdd : d2 + 1 ≤ d)
    (hm : E.1 ≤ n0 + mcT → E.1 + mc ≤ n0 + mcT) (hz : z ≤ msT → z + ms ≤ msT) (hrs : (rest.map fun v => v.category).sum ≤ 8) (hst : as.reverse ++ rest = st) (hd : decode cc pc = .ok (.invokestatic idx, 3)) (hq : pc + 3 = q)
    (kk : ∀ (v : Option Value) (E' : ZE) (im' : ZI), E'.1 = E.1 + mc → Qg v E' im' → w q L (v.toList ++ rest) (z + ms) E' im') : w pc L st z E im := by
  subst hq
  obtain ⟨p, e, R, s, m, args, below, meth, c0, Q, hfix, hR, hI, hK, hsz, hret, rfl⟩ := S
  intro H locs ls h1 h2 h3 h4 h5 h6
  have hfix' := hfix
  obtain ⟨hx, hb, hml, hown, hts⟩ := hfix
  obtain ⟨⟨y1, y2, y3, y4⟩, y5⟩ := hy
  refine zz_Wsz (fun hs1 => ?_)
  have hs2 := zz_top h1 h2 h5 hsz
  have hn : n0 ≤ E.1 := h2
  rw [zz_revS hst]
  refine zz_callK (va_runS (ws := .code y.1 y.2.1 y.2.2.1 y.2.2.2 :: zz_t) (rm := zz_rm d2 mc ms) (bytes := y.2.1) (maxL := y.2.2.1) (ret := y.2.2.2) (n := as.length) (index := idx) (As := as.map (zz_v G)) (rest := rest.map (zz_v G)) hfix' hO
    ⟨callB_of as.length hts (zz_goodIn y2) rfl rfl rfl (hts _ y1) (hts _ hlk) y3 ⟨by show d2 + 1 ≤ R.frames; omega, by show 8 + (y.2.2.1 + 11) + 36 * d2 ≤ R.locals; omega⟩, hts _ y5⟩
    ⟨zz_blind, fun U hU hW => ⟨rfl, by rw [hU]; exact h1, zz_K.warm hK h5 hU hW, by rw [hU]; omega⟩⟩
    rfl (by rw [List.length_map]) h6.1.1 rfl (lv_room (by rw [zz_sum]; exact hrs)) hd ⟨by have := hm h3; omega, by have := hz h4; omega⟩) h5 (fun v E' im' H1 locs1 g1 g2 g3 g4 => ?_)
  have key := kk v E' im' g1 g2 H1 locs1 ls g3 (by omega) (by have := hm h3; omega) (hz h4) g4 h6
  rw [zz_tl, show E.1 - n0 + mc = E'.1 - n0 by omega]
  exact key
/-- a static method of a nest mate -/
theorem zz_statN {host : String} (S : zz_S G l own cc nL d n0 mcT msT isI rt Qf w) (hy : zz_YS y as.length) (hlk : Cond.methodLinkNest own idx y.1 host ∈ zz_nw) (hO : zz_O G l d2 y as E im mc ms Qg) (hdd : d2 + 1 ≤ d)
    (hm : E.1 ≤ n0 + mcT → E.1 + mc ≤ n0 + mcT) (hz : z ≤ msT → z + ms ≤ msT) (hrs : (rest.map fun v => v.category).sum ≤ 8) (hst : as.reverse ++ rest = st) (hd : decode cc pc = .ok (.invokestatic idx, 3)) (hq : pc + 3 = q)
    (kk : ∀ (v : Option Value) (E' : ZE) (im' : ZI), E'.1 = E.1 + mc → Qg v E' im' → w q L (v.toList ++ rest) (z + ms) E' im') : w pc L st z E im := by
  subst hq
  obtain ⟨p, e, R, s, m, args, below, meth, c0, Q, hfix, hR, hI, hK, hsz, hret, rfl⟩ := S
  intro H locs ls h1 h2 h3 h4 h5 h6
  have hfix' := hfix
  obtain ⟨hx, hb, hml, hown, hts⟩ := hfix
  obtain ⟨⟨y1, y2, y3, y4⟩, y5⟩ := hy
  refine zz_Wsz (fun hs1 => ?_)
  have hs2 := zz_top h1 h2 h5 hsz
  have hn : n0 ≤ E.1 := h2
  rw [zz_revS hst]
  refine zz_callK (va_runSN (ws := .code y.1 y.2.1 y.2.2.1 y.2.2.2 :: zz_t) (rm := zz_rm d2 mc ms) (bytes := y.2.1) (maxL := y.2.2.1) (ret := y.2.2.2) (n := as.length) (index := idx) (host := host) (As := as.map (zz_v G)) (rest := rest.map (zz_v G)) hfix' hO
    ⟨va_cnB as.length hts (zz_goodIn y2) rfl rfl rfl (hK.1.2.1 _ hlk) (hts _ y1) y3 ⟨by show d2 + 1 ≤ R.frames; omega, by show 8 + (y.2.2.1 + 11) + 36 * d2 ≤ R.locals; omega⟩, hts _ y5, trivial⟩
    ⟨zz_blind, fun U hU hW => ⟨rfl, by rw [hU]; exact h1, zz_K.warm hK h5 hU hW, by rw [hU]; omega⟩⟩
    rfl (by rw [List.length_map]) h6.1.1 rfl (lv_room (by rw [zz_sum]; exact hrs)) hd ⟨by have := hm h3; omega, by have := hz h4; omega⟩) h5 (fun v E' im' H1 locs1 g1 g2 g3 g4 => ?_)
  have key := kk v E' im' g1 g2 H1 locs1 ls g3 (by omega) (by have := hm h3; omega) (hz h4) g4 h6
  rw [zz_tl, show E.1 - n0 + mc = E'.1 - n0 by omega]
  exact key
/-- a constructor -/
theorem zz_init {k : Nat} (S : zz_S G l own cc nL d n0 mcT msT isI rt Qf w) (hy : zz_YI y as.length) (hlk : Cond.methodLink own idx y.1 ∈ zz_t) (hO : zz_O G l d2 y (.ref k :: as) E im mc ms Qg) (hdd : d2 + 1 ≤ d)
    (hm : E.1 ≤ n0 + mcT → E.1 + mc ≤ n0 + mcT) (hz : z ≤ msT → z + ms ≤ msT) (hrs : (rest.map fun v => v.category).sum ≤ 8) (hst : as.reverse ++ .ref k :: rest = st) (hd : decode cc pc = .ok (.invokespecial idx, 3)) (hq : pc + 3 = q)
    (kk : ∀ (v : Option Value) (E' : ZE) (im' : ZI), E'.1 = E.1 + mc → Qg v E' im' → w q L (v.toList ++ rest) (z + ms) E' im') : w pc L st z E im := by
  subst hq
  obtain ⟨p, e, R, s, m, args, below, meth, c0, Q, hfix, hR, hI, hK, hsz, hret, rfl⟩ := S
  intro H locs ls h1 h2 h3 h4 h5 h6
  have hfix' := hfix
  obtain ⟨hx, hb, hml, hown, hts⟩ := hfix
  obtain ⟨⟨y1, y2, y3, y4⟩, y5, y6, y7⟩ := hy
  refine zz_Wsz (fun hs1 => ?_)
  have hs2 := zz_top h1 h2 h5 hsz
  have hn : n0 ≤ E.1 := h2
  rw [zz_rev hst]
  rw [y7] at y2
  refine zz_callK (va_runI (ws := .code y.1 y.2.1 y.2.2.1 y.2.2.2 :: zz_t) (rm := zz_rm d2 mc ms) (bytes := y.2.1) (maxL := y.2.2.1) (n := as.length) (index := idx) (b := zz_b G k) (As := as.map (zz_v G)) (rest := rest.map (zz_v G)) hfix' hO
    ⟨callB_of (ws' := zz_t) as.length hts (by rw [y7]; exact zz_goodIn y2) (by rw [y7]) rfl rfl (hts _ y1) (hts _ hlk) y3 ⟨by show d2 + 1 ≤ R.frames; omega, by show 8 + (y.2.2.1 + 11) + 36 * d2 ≤ R.locals; omega⟩, y6, hts _ y5⟩
    ⟨zz_blind, fun U hU hW => ⟨rfl, by rw [hU]; exact h1, zz_K.warm hK h5 hU hW, by rw [hU]; omega⟩⟩
    rfl (by rw [List.length_map]) h6.1.1 rfl (lv_room (by rw [zz_sum]; exact hrs)) hd ⟨by have := hm h3; omega, by have := hz h4; omega⟩) h5 (fun v E' im' H1 locs1 g1 g2 g3 g4 => ?_)
  have key := kk v E' im' g1 g2 H1 locs1 ls g3 (by omega) (by have := hm h3; omega) (hz h4) g4 h6
  rw [zz_tl, show E.1 - n0 + mc = E'.1 - n0 by omega]
  exact key
theorem zz_initN {k : Nat} {host : String} (S : zz_S G l own cc nL d n0 mcT msT isI rt Qf w) (hy : zz_YI y as.length) (hlk : Cond.methodLinkNest own idx y.1 host ∈ zz_nw) (hO : zz_O G l d2 y (.ref k :: as) E im mc ms Qg) (hdd : d2 + 1 ≤ d)
    (hm : E.1 ≤ n0 + mcT → E.1 + mc ≤ n0 + mcT) (hz : z ≤ msT → z + ms ≤ msT) (hrs : (rest.map fun v => v.category).sum ≤ 8) (hst : as.reverse ++ .ref k :: rest = st) (hd : decode cc pc = .ok (.invokespecial idx, 3)) (hq : pc + 3 = q)
    (kk : ∀ (v : Option Value) (E' : ZE) (im' : ZI), E'.1 = E.1 + mc → Qg v E' im' → w q L (v.toList ++ rest) (z + ms) E' im') : w pc L st z E im := by
  subst hq
  obtain ⟨p, e, R, s, m, args, below, meth, c0, Q, hfix, hR, hI, hK, hsz, hret, rfl⟩ := S
  intro H locs ls h1 h2 h3 h4 h5 h6
  have hfix' := hfix
  obtain ⟨hx, hb, hml, hown, hts⟩ := hfix
  obtain ⟨⟨y1, y2, y3, y4⟩, y5, y6, y7⟩ := hy
  refine zz_Wsz (fun hs1 => ?_)
  have hs2 := zz_top h1 h2 h5 hsz
  have hn : n0 ≤ E.1 := h2
  rw [zz_rev hst]
  rw [y7] at y2
  refine zz_callK (va_runIN (ws := .code y.1 y.2.1 y.2.2.1 y.2.2.2 :: zz_t) (rm := zz_rm d2 mc ms) (bytes := y.2.1) (maxL := y.2.2.1) (n := as.length) (index := idx) (host := host) (b := zz_b G k) (As := as.map (zz_v G)) (rest := rest.map (zz_v G)) hfix' hO
    ⟨va_cnB (ws' := zz_t) as.length hts (by rw [y7]; exact zz_goodIn y2) (by rw [y7]) rfl rfl (hK.1.2.1 _ hlk) (hts _ y1) y3 ⟨by show d2 + 1 ≤ R.frames; omega, by show 8 + (y.2.2.1 + 11) + 36 * d2 ≤ R.locals; omega⟩, y6, hts _ y5⟩
    ⟨zz_blind, fun U hU hW => ⟨rfl, by rw [hU]; exact h1, zz_K.warm hK h5 hU hW, by rw [hU]; omega⟩⟩
    rfl (by rw [List.length_map]) h6.1.1 rfl (lv_room (by rw [zz_sum]; exact hrs)) hd ⟨by have := hm h3; omega, by have := hz h4; omega⟩) h5 (fun v E' im' H1 locs1 g1 g2 g3 g4 => ?_)
  have key := kk v E' im' g1 g2 H1 locs1 ls g3 (by omega) (by have := hm h3; omega) (hz h4) g4 h6
  rw [zz_tl, show E.1 - n0 + mc = E'.1 - n0 by omega]
  exact key
theorem zz_obj {k : Nat} (S : zz_S G l own cc nL d n0 mcT msT isI rt Qf w) (hlk : Cond.methodLink own idx objectInit ∈ zz_t) (hin : Cond.instanceMethod objectInit ∈ zz_t) (hco : Cond.code objectInit ⟨#[0xb1]⟩ 1 none ∈ zz_t) (hdd : 1 ≤ d) (hrs : (rest.map fun v => v.category).sum ≤ 8) (hd : decode cc pc = .ok (.invokespecial idx, 3)) (hq : pc + 3 = q)
    (kk : w q L rest z E im) : w pc L (.ref k :: rest) z E im := by
  subst hq
  obtain ⟨p, e, R, s, m, args, below, meth, c0, Q, ⟨hx, hb, hml, hown, hts⟩, hR, hI, hK, hsz, hret, rfl⟩ := S
  intro H locs ls h1 h2 h3 h4 h5 h6
  refine W.objInit hx hb hown (hts _ hlk) (hts _ hin) (hts _ hco) rfl (by rw [hml]; exact h6.1.1) rfl hd (by omega) ?_ (kk H locs ls h1 h2 h3 h4 h5 h6)
  have := lv_room (pc := pc) (ls := ls) (m := m) (rest := rest) (st := rest.map (zz_v G)) (by rw [zz_sum]; exact hrs)
  show 2 * 0 + _ + 12 ≤ R.locals
  have e2 : 2 * (F0 m pc ls rest).monitorRoom = 2 * 0 := rfl
  omega
theorem zz_abs {x : Int32} (S : zz_S G l own cc nL d n0 mcT msT isI rt Qf w) (hlk : Cond.methodLink own idx Lib.Math.abs.name ∈ zz_t) (h7 : Cond.static Lib.Math.abs.name ∈ zz_t ∧ Cond.initialized "java/lang/Math" ∈ zz_t ∧ Cond.code Lib.Math.abs.name Lib.Math.abs.code 1 (some .int) ∈ zz_t) (hdd : 1 ≤ d) (hrs : (rest.map fun v => v.category).sum ≤ 8) (hd : decode cc pc = .ok (.invokestatic idx, 3)) (hq : pc + 3 = q)
    (kk : w q L (.int (if 0 ≤ x then x else 0 - x) :: rest) z E im) : w pc L (.int x :: rest) z E im := by
  subst hq
  obtain ⟨p, e, R, s, m, args, below, meth, c0, Q, ⟨hx, hb, hml, hown, hts⟩, hR, hI, hK, hsz, hret, rfl⟩ := S
  intro H locs ls h1 h2 h3 h4 h5 h6
  exact va_mabs hx hb (by rw [hml]; exact h6.1.1.symm) hown (hts _ hlk) (hts _ h7.1) (hts _ h7.2.1) (hts _ h7.2.2) (by omega) (by rw [zz_sum]; omega) (by omega) (by omega) hd (kk H locs ls h1 h2 h3 h4 h5 h6)
theorem zz_min {x y : Int32} (S : zz_S G l own cc nL d n0 mcT msT isI rt Qf w) (hlk : Cond.methodLink own idx Lib.Math.min.name ∈ zz_t) (h7 : Cond.static Lib.Math.min.name ∈ zz_t ∧ Cond.initialized "java/lang/Math" ∈ zz_t ∧ Cond.code Lib.Math.min.name Lib.Math.min.code 2 (some .int) ∈ zz_t) (hdd : 1 ≤ d) (hrs : (rest.map fun v => v.category).sum ≤ 8) (hd : decode cc pc = .ok (.invokestatic idx, 3)) (hq : pc + 3 = q)
    (kk : w q L (.int (if y < x then y else x) :: rest) z E im) : w pc L (.int y :: .int x :: rest) z E im := by
  subst hq
  obtain ⟨p, e, R, s, m, args, below, meth, c0, Q, ⟨hx, hb, hml, hown, hts⟩, hR, hI, hK, hsz, hret, rfl⟩ := S
  intro H locs ls h1 h2 h3 h4 h5 h6
  exact va_mmin hx hb (by rw [hml]; exact h6.1.1.symm) hown (hts _ hlk) (hts _ h7.1) (hts _ h7.2.1) (hts _ h7.2.2) (by omega) (by rw [zz_sum]; omega) (by omega) (by omega) hd (kk H locs ls h1 h2 h3 h4 h5 h6)
/-- the memory with a part of a row of ints copied -/
def zz_cp (im : ZI) (a b : Nat) (sp dp n : Nat) : ZI := fun k => if k = b then va_cpy (im a) (im b) sp dp n else im k
theorem zz_copy {a b na nb : Nat} {sp dp n : Int32} (S : zz_S G l own cc nL d n0 mcT msT isI rt Qf w) (hlk : Cond.methodLink own idx arraycopyName ∈ zz_t) (h7 : Cond.native arraycopyName ∈ zz_t ∧ Cond.static arraycopyName ∈ zz_t ∧ Cond.initialized "java/lang/System" ∈ zz_t) (hdd : 1 ≤ d) (hrs : (rest.map fun v => v.category).sum ≤ 8)
    (hka : a < E.1) (hkb : b < E.1) (hkda : E.2.1 a = (1, na)) (hkdb : E.2.1 b = (1, nb)) (g1 : ¬ sp < 0) (g2 : ¬ dp < 0) (g3 : ¬ n < 0) (g4 : sp.toNatClampNeg + n.toNatClampNeg ≤ na) (g5 : dp.toNatClampNeg + n.toNatClampNeg ≤ nb) (hd : decode cc pc = .ok (.invokestatic idx, 3)) (hq : pc + 3 = q)
    (kk : w q L rest z E (zz_cp im a b sp.toNatClampNeg dp.toNatClampNeg n.toNatClampNeg)) : w pc L (.int n :: .int dp :: .ref b :: .int sp :: .ref a :: rest) z E im := by
  subst hq
  obtain ⟨p, e, R, s, m, args, below, meth, c0, Q, ⟨hx, hb, hml, hown, hts⟩, hR, hI, hK, hsz, hret, rfl⟩ := S
  intro H locs ls h1 h2 h3 h4 h5 h6
  have hnw : nativeFrameWords "java/lang/System" "arraycopy" 5 ≤ 7 := by decide +kernel
  refine va_copyi hx hb (by rw [hml]; exact h6.1.1.symm) hown (hts _ hlk) (hts _ h7.1) (hts _ h7.2.1) (hts _ h7.2.2) hK.1.1 h1.2 (zz_w_D h1.1) h5 a b 1 1 (zz_w_ints hka hkda (by decide) (by decide)) (zz_w_ints hkb hkdb (by decide) (by decide)) rfl rfl rfl g1 g2 g3 g4 g5 (fun _ _ => rfl) (by omega) (by rw [zz_sum]; omega) hd (fun H1 locs1 hP1 hD1 hS1 => ?_)
  have e1 := zz_w_set (G := G) (E := E) (E' := E) (im := im) (im' := zz_cp im a b sp.toNatClampNeg dp.toNatClampNeg n.toNatClampNeg) (q := b) rfl hkb (fun _ _ => rfl) (fun _ h => if_neg h) (fun _ _ => rfl)
  have e2 : zz_cp im a b sp.toNatClampNeg dp.toNatClampNeg n.toNatClampNeg b = va_cpy (im a) (im b) sp.toNatClampNeg dp.toNatClampNeg n.toNatClampNeg := if_pos rfl
  rw [hkdb, e2] at e1
  exact kk H1 locs1 ls ⟨h1.1, by rw [← e1]; exact hP1⟩ h2 h3 h4 hS1 h6
end ZC
/-! arrays read and written at a place that is a natural number -/
section ZN
variable {G : ZG} {l : Launch} {own : String} {cc : ByteArray} {nL d n0 mcT msT : Nat} {isI : Bool} {rt : Option FieldType} {Qf : Option Value → ZE → ZI → Prop} {w : Nat → ZL → List Value → Nat → ZE → ZI → Prop}
variable {pc q t : Nat} {L L' : ZL} {st rest as : List Value} {z : Nat} {E : ZE} {im : ZI}
theorem zz_vpn {i : Int32} {j n : Nat} (hij : i = nI j) (hj : j < n) (hn : n < 2 ^ 31) : vp_in i n ∧ i.toNatClampNeg = j := by
  subst hij
  exact ⟨vp_in_nI hj hn, nI_clamp (by omega)⟩
theorem zz_iaN (S : zz_S G l own cc nL d n0 mcT msT isI rt Qf w) {k n j : Nat} {i : Int32} (hk : k < E.1) (hkd : E.2.1 k = (1, n)) (hn : n < 2 ^ 31) (hij : i = nI j) (hj : j < n) (hd : decode cc pc = .ok (.iaload, 1)) (hq : pc + 1 = q) (kk : w q L (.int (im k j) :: st) z E im) : w pc L (.int i :: .ref k :: st) z E im := by
  obtain ⟨h1, h2⟩ := zz_vpn hij hj hn
  exact zz_iald S hk hkd h1 hd hq (by rw [h2]; exact kk)
theorem zz_zaN (S : zz_S G l own cc nL d n0 mcT msT isI rt Qf w) {k n j : Nat} {i : Int32} (hk : k < E.1) (hkd : E.2.1 k = (2, n)) (hn : n < 2 ^ 31) (hij : i = nI j) (hj : j < n) (hd : decode cc pc = .ok (.baload, 1)) (hq : pc + 1 = q) (kk : w q L (.int (im k j) :: st) z E im) : w pc L (.int i :: .ref k :: st) z E im := by
  obtain ⟨h1, h2⟩ := zz_vpn hij hj hn
  exact zz_zald S hk hkd h1 hd hq (by rw [h2]; exact kk)
theorem zz_caN (S : zz_S G l own cc nL d n0 mcT msT isI rt Qf w) {k n j : Nat} {i : Int32} (hk : k < E.1) (hkd : E.2.1 k = (3, n)) (hn : n < 2 ^ 31) (hij : i = nI j) (hj : j < n) (hd : decode cc pc = .ok (.caload, 1)) (hq : pc + 1 = q) (kk : w q L (.int (im k j) :: st) z E im) : w pc L (.int i :: .ref k :: st) z E im := by
  obtain ⟨h1, h2⟩ := zz_vpn hij hj hn
  exact zz_cald S hk hkd h1 hd hq (by rw [h2]; exact kk)
theorem zz_iaS (S : zz_S G l own cc nL d n0 mcT msT isI rt Qf w) {k n j : Nat} {i x : Int32} (hk : k < E.1) (hkd : E.2.1 k = (1, n)) (hn : n < 2 ^ 31) (hij : i = nI j) (hj : j < n) (hd : decode cc pc = .ok (.iastore, 1)) (hq : pc + 1 = q) (kk : w q L st z E (zz_u im k j x)) : w pc L (.int x :: .int i :: .ref k :: st) z E im := by
  obtain ⟨h1, h2⟩ := zz_vpn hij hj hn
  exact zz_iast S hk hkd h1 hd hq (by rw [h2]; exact kk)
theorem zz_zaS (S : zz_S G l own cc nL d n0 mcT msT isI rt Qf w) {k n j : Nat} {i x : Int32} (hk : k < E.1) (hkd : E.2.1 k = (2, n)) (hn : n < 2 ^ 31) (hij : i = nI j) (hj : j < n) (hd : decode cc pc = .ok (.bastore, 1)) (hq : pc + 1 = q) (kk : w q L st z E (zz_u im k j (vp_nar .boolean x))) : w pc L (.int x :: .int i :: .ref k :: st) z E im := by
  obtain ⟨h1, h2⟩ := zz_vpn hij hj hn
  exact zz_zast S hk hkd h1 hd hq (by rw [h2]; exact kk)
theorem zz_caS (S : zz_S G l own cc nL d n0 mcT msT isI rt Qf w) {k n j : Nat} {i x : Int32} (hk : k < E.1) (hkd : E.2.1 k = (3, n)) (hn : n < 2 ^ 31) (hij : i = nI j) (hj : j < n) (hd : decode cc pc = .ok (.castore, 1)) (hq : pc + 1 = q) (kk : w q L st z E (zz_u im k j (vp_nar .char x))) : w pc L (.int x :: .int i :: .ref k :: st) z E im := by
  obtain ⟨h1, h2⟩ := zz_vpn hij hj hn
  exact zz_cast S hk hkd h1 hd hq (by rw [h2]; exact kk)
theorem zz_aaN (S : zz_S G l own cc nL d n0 mcT msT isI rt Qf w) {k t0 n x j : Nat} {i : Int32} (hk : k < E.1) (hkd : E.2.1 k = (t0, n)) (ht0 : 4 ≤ t0 ∧ t0 ≤ 7) (hn : n < 2 ^ 31) (hij : i = nI j) (hj : j < n) (hx1 : E.2.2 k j = some x) (hd : decode cc pc = .ok (.aaload, 1)) (hq : pc + 1 = q) (kk : w q L (.ref x :: st) z E im) : w pc L (.int i :: .ref k :: st) z E im := by
  obtain ⟨h1, h2⟩ := zz_vpn hij hj hn
  exact zz_aald S hk hkd ht0 h1 (by rw [h2]; exact hx1) hd hq kk
theorem zz_saN (S : zz_S G l own cc nL d n0 mcT msT isI rt Qf w) {k j : Nat} {i : Int32} (hk : k < 4) (hij : i = nI j) (hj : j < (zz_st k).length) (hd : decode cc pc = .ok (.iaload, 1)) (hq : pc + 1 = q) (kk : w q L (.int ((zz_st k).getD j 0) :: st) z E im) : w pc L (.int i :: .ref (1000 + k) :: st) z E im := by
  have hn : (zz_st k).length < 2 ^ 31 := by
    rcases (show k = 0 ∨ k = 1 ∨ k = 2 ∨ k = 3 by omega) with rfl | rfl | rfl | rfl <;> decide
  obtain ⟨h1, h2⟩ := zz_vpn hij hj hn
  exact zz_sald S hk h1 hd hq (by rw [h2]; exact kk)
end ZN
end
section
/-! methods, links, fields, constants: by program out of the tables -/
def mJ0_charAt_5068e : ZY := (yJ0_charAt_5068e, cJ0_charAt_5068e, 2, (some .char))
theorem yy_J0_charAt_5068e : zz_YV mJ0_charAt_5068e 1 := ⟨⟨zz_in (i := 60) (by decide +kernel) rfl, zz_in (i := 611) (by decide +kernel) rfl, ⟨by decide +kernel, by decide +kernel, by decide +kernel⟩, by decide⟩, zz_in (i := 609) (by decide +kernel) rfl, zz_in (i := 610) (by decide +kernel) rfl⟩
def mJ0_checkIndex_df160 : ZY := (yJ0_checkIndex_df160, cJ0_checkIndex_df160, 2, none)
theorem yy_J0_checkIndex_df160 : zz_YS mJ0_checkIndex_df160 2 := ⟨⟨zz_in (i := 60) (by decide +kernel) rfl, zz_in (i := 621) (by decide +kernel) rfl, ⟨by decide +kernel, by decide +kernel, by decide +kernel⟩, by decide⟩, zz_in (i := 620) (by decide +kernel) rfl⟩
def mJ0_coder_7d493 : ZY := (yJ0_coder_7d493, cJ0_coder_7d493, 1, (some .byte))
theorem yy_J0_coder_7d493 : zz_YV mJ0_coder_7d493 0 := ⟨⟨zz_in (i := 60) (by decide +kernel) rfl, zz_in (i := 605) (by decide +kernel) rfl, ⟨by decide +kernel, by decide +kernel, by decide +kernel⟩, by decide⟩, zz_in (i := 603) (by decide +kernel) rfl, zz_in (i := 604) (by decide +kernel) rfl⟩
def mJ0_isLatin1_aae02 : ZY := (yJ0_isLatin1_aae02, cJ0_isLatin1_aae02, 1, (some .boolean))
theorem yy_J0_isLatin1_aae02 : zz_YV mJ0_isLatin1_aae02 0 := ⟨⟨zz_in (i := 60) (by decide +kernel) rfl, zz_in (i := 615) (by decide +kernel) rfl, ⟨by decide +kernel, by decide +kernel, by decide +kernel⟩, by decide⟩, zz_in (i := 613) (by decide +kernel) rfl, zz_in (i := 614) (by decide +kernel) rfl⟩
def mJ0_length_8abf5 : ZY := (yJ0_length_8abf5, cJ0_length_8abf5, 1, (some .int))
theorem yy_J0_length_8abf5 : zz_YV mJ0_length_8abf5 0 := ⟨⟨zz_in (i := 60) (by decide +kernel) rfl, zz_in (i := 601) (by decide +kernel) rfl, ⟨by decide +kernel, by decide +kernel, by decide +kernel⟩, by decide⟩, zz_in (i := 599) (by decide +kernel) rfl, zz_in (i := 600) (by decide +kernel) rfl⟩
def mJ1_charAt_3b067 : ZY := (yJ1_charAt_3b067, cJ1_charAt_3b067, 2, (some .char))
theorem yy_J1_charAt_3b067 : zz_YS mJ1_charAt_3b067 2 := ⟨⟨zz_in (i := 61) (by decide +kernel) rfl, zz_in (i := 618) (by decide +kernel) rfl, ⟨by decide +kernel, by decide +kernel, by decide +kernel⟩, by decide⟩, zz_in (i := 617) (by decide +kernel) rfl⟩
def mJ2_charAt_3b067 : ZY := (yJ2_charAt_3b067, cJ2_charAt_3b067, 2, (some .char))
theorem yy_J2_charAt_3b067 : zz_YS mJ2_charAt_3b067 2 := ⟨⟨zz_in (i := 63) (by decide +kernel) rfl, zz_in (i := 629) (by decide +kernel) rfl, ⟨by decide +kernel, by decide +kernel, by decide +kernel⟩, by decide⟩, zz_in (i := 628) (by decide +kernel) rfl⟩
def mJ2_checkIndex_2214a : ZY := (yJ2_checkIndex_2214a, cJ2_checkIndex_2214a, 2, none)
theorem yy_J2_checkIndex_2214a : zz_YS mJ2_checkIndex_2214a 2 := ⟨⟨zz_in (i := 63) (by decide +kernel) rfl, zz_in (i := 632) (by decide +kernel) rfl, ⟨by decide +kernel, by decide +kernel, by decide +kernel⟩, by decide⟩, zz_in (i := 631) (by decide +kernel) rfl⟩
def mJ2_getChar_3b067 : ZY := (yJ2_getChar_3b067, cJ2_getChar_3b067, 2, (some .char))
theorem yy_J2_getChar_3b067 : zz_YS mJ2_getChar_3b067 2 := ⟨⟨zz_in (i := 63) (by decide +kernel) rfl, zz_in (i := 639) (by decide +kernel) rfl, ⟨by decide +kernel, by decide +kernel, by decide +kernel⟩, by decide⟩, zz_in (i := 638) (by decide +kernel) rfl⟩
def mJ2_length_9d52b : ZY := (yJ2_length_9d52b, cJ2_length_9d52b, 1, (some .int))
theorem yy_J2_length_9d52b : zz_YS mJ2_length_9d52b 1 := ⟨⟨zz_in (i := 63) (by decide +kernel) rfl, zz_in (i := 635) (by decide +kernel) rfl, ⟨by decide +kernel, by decide +kernel, by decide +kernel⟩, by decide⟩, zz_in (i := 634) (by decide +kernel) rfl⟩
def mJ3_checkIndex_8e157 : ZY := (yJ3_checkIndex_8e157, cJ3_checkIndex_8e157, 3, (some .int))
theorem yy_J3_checkIndex_8e157 : zz_YS mJ3_checkIndex_8e157 3 := ⟨⟨zz_in (i := 62) (by decide +kernel) rfl, zz_in (i := 626) (by decide +kernel) rfl, ⟨by decide +kernel, by decide +kernel, by decide +kernel⟩, by decide⟩, zz_in (i := 625) (by decide +kernel) rfl⟩
def mJ6_bitCount_0f7a4 : ZY := (yJ6_bitCount_0f7a4, cJ6_bitCount_0f7a4, 1, (some .int))
theorem yy_J6_bitCount_0f7a4 : zz_YS mJ6_bitCount_0f7a4 1 := ⟨⟨zz_in (i := 59) (by decide +kernel) rfl, zz_in (i := 494) (by decide +kernel) rfl, ⟨by decide +kernel, by decide +kernel, by decide +kernel⟩, by decide⟩, zz_in (i := 493) (by decide +kernel) rfl⟩
def mJ9_abs_0f7a4 : ZY := (yJ9_abs_0f7a4, cJ9_abs_0f7a4, 1, (some .int))
theorem yy_J9_abs_0f7a4 : zz_YS mJ9_abs_0f7a4 1 := ⟨⟨zz_in (i := 58) (by decide +kernel) rfl, zz_in (i := 372) (by decide +kernel) rfl, ⟨by decide +kernel, by decide +kernel, by decide +kernel⟩, by decide⟩, zz_in (i := 371) (by decide +kernel) rfl⟩
def mJ9_min_7cf53 : ZY := (yJ9_min_7cf53, cJ9_min_7cf53, 2, (some .int))
theorem yy_J9_min_7cf53 : zz_YS mJ9_min_7cf53 2 := ⟨⟨zz_in (i := 58) (by decide +kernel) rfl, zz_in (i := 331) (by decide +kernel) rfl, ⟨by decide +kernel, by decide +kernel, by decide +kernel⟩, by decide⟩, zz_in (i := 330) (by decide +kernel) rfl⟩
def mX0_copyFrom : ZY := (yX0_copyFrom, cX0_copyFrom, 2, none)
theorem yy_X0_copyFrom : zz_YV mX0_copyFrom 1 := ⟨⟨zz_in (i := 52) (by decide +kernel) rfl, zz_in (i := 303) (by decide +kernel) rfl, ⟨by decide +kernel, by decide +kernel, by decide +kernel⟩, by decide⟩, zz_in (i := 301) (by decide +kernel) rfl, zz_in (i := 302) (by decide +kernel) rfl⟩
def mX0_init : ZY := (yX0_init, cX0_init, 1, none)
theorem yy_X0_init : zz_YI mX0_init 0 := ⟨⟨zz_in (i := 52) (by decide +kernel) rfl, zz_in (i := 109) (by decide +kernel) rfl, ⟨by decide +kernel, by decide +kernel, by decide +kernel⟩, by decide⟩, zz_in (i := 108) (by decide +kernel) rfl, rfl, rfl⟩
def mX0_isByWallNow : ZY := (yX0_isByWallNow, cX0_isByWallNow, 1, (some .boolean))
theorem yy_X0_isByWallNow : zz_YV mX0_isByWallNow 0 := ⟨⟨zz_in (i := 52) (by decide +kernel) rfl, zz_in (i := 405) (by decide +kernel) rfl, ⟨by decide +kernel, by decide +kernel, by decide +kernel⟩, by decide⟩, zz_in (i := 403) (by decide +kernel) rfl, zz_in (i := 404) (by decide +kernel) rfl⟩
def mX0_weight : ZY := (yX0_weight, cX0_weight, 1, (some .int))
theorem yy_X0_weight : zz_YV mX0_weight 0 := ⟨⟨zz_in (i := 52) (by decide +kernel) rfl, zz_in (i := 458) (by decide +kernel) rfl, ⟨by decide +kernel, by decide +kernel, by decide +kernel⟩, by decide⟩, zz_in (i := 456) (by decide +kernel) rfl, zz_in (i := 457) (by decide +kernel) rfl⟩
def mX1_compareReadings : ZY := (yX1_compareReadings, cX1_compareReadings, 5, none)
theorem yy_X1_compareReadings : zz_YV mX1_compareReadings 0 := ⟨⟨zz_in (i := 55) (by decide +kernel) rfl, zz_in (i := 449) (by decide +kernel) rfl, ⟨by decide +kernel, by decide +kernel, by decide +kernel⟩, by decide⟩, zz_in (i := 447) (by decide +kernel) rfl, zz_in (i := 448) (by decide +kernel) rfl⟩
def mX1_countLines : ZY := (yX1_countLines, cX1_countLines, 3, (some .int))
theorem yy_X1_countLines : zz_YV mX1_countLines 0 := ⟨⟨zz_in (i := 55) (by decide +kernel) rfl, zz_in (i := 440) (by decide +kernel) rfl, ⟨by decide +kernel, by decide +kernel, by decide +kernel⟩, by decide⟩, zz_in (i := 438) (by decide +kernel) rfl, zz_in (i := 439) (by decide +kernel) rfl⟩
def mX1_firstLine : ZY := (yX1_firstLine, cX1_firstLine, 2, (some .int))
theorem yy_X1_firstLine : zz_YV mX1_firstLine 0 := ⟨⟨zz_in (i := 55) (by decide +kernel) rfl, zz_in (i := 714) (by decide +kernel) rfl, ⟨by decide +kernel, by decide +kernel, by decide +kernel⟩, by decide⟩, zz_in (i := 712) (by decide +kernel) rfl, zz_in (i := 713) (by decide +kernel) rfl⟩
def mX1_init : ZY := (yX1_init, cX1_init, 1, none)
theorem yy_X1_init : zz_YI mX1_init 0 := ⟨⟨zz_in (i := 55) (by decide +kernel) rfl, zz_in (i := 250) (by decide +kernel) rfl, ⟨by decide +kernel, by decide +kernel, by decide +kernel⟩, by decide⟩, zz_in (i := 249) (by decide +kernel) rfl, rfl, rfl⟩
def mX1_lastLine : ZY := (yX1_lastLine, cX1_lastLine, 2, (some .int))
theorem yy_X1_lastLine : zz_YV mX1_lastLine 0 := ⟨⟨zz_in (i := 55) (by decide +kernel) rfl, zz_in (i := 718) (by decide +kernel) rfl, ⟨by decide +kernel, by decide +kernel, by decide +kernel⟩, by decide⟩, zz_in (i := 716) (by decide +kernel) rfl, zz_in (i := 717) (by decide +kernel) rfl⟩
def mX1_lay : ZY := (yX1_lay, cX1_lay, 17, none)
theorem yy_X1_lay : zz_YV mX1_lay 3 := ⟨⟨zz_in (i := 55) (by decide +kernel) rfl, zz_in (i := 419) (by decide +kernel) rfl, ⟨by decide +kernel, by decide +kernel, by decide +kernel⟩, by decide⟩, zz_in (i := 417) (by decide +kernel) rfl, zz_in (i := 418) (by decide +kernel) rfl⟩
def mX1_offsetAt : ZY := (yX1_offsetAt, cX1_offsetAt, 2, (some .int))
theorem yy_X1_offsetAt : zz_YV mX1_offsetAt 1 := ⟨⟨zz_in (i := 55) (by decide +kernel) rfl, zz_in (i := 444) (by decide +kernel) rfl, ⟨by decide +kernel, by decide +kernel, by decide +kernel⟩, by decide⟩, zz_in (i := 442) (by decide +kernel) rfl, zz_in (i := 443) (by decide +kernel) rfl⟩
def mX1_offsetOfShadow : ZY := (yX1_offsetOfShadow, cX1_offsetOfShadow, 6, (some .int))
theorem yy_X1_offsetOfShadow : zz_YS mX1_offsetOfShadow 2 := ⟨⟨zz_in (i := 55) (by decide +kernel) rfl, zz_in (i := 431) (by decide +kernel) rfl, ⟨by decide +kernel, by decide +kernel, by decide +kernel⟩, by decide⟩, zz_in (i := 430) (by decide +kernel) rfl⟩
def mX1_readingByLines : ZY := (yX1_readingByLines, cX1_readingByLines, 5, (some .int))
theorem yy_X1_readingByLines : zz_YV mX1_readingByLines 1 := ⟨⟨zz_in (i := 55) (by decide +kernel) rfl, zz_in (i := 453) (by decide +kernel) rfl, ⟨by decide +kernel, by decide +kernel, by decide +kernel⟩, by decide⟩, zz_in (i := 451) (by decide +kernel) rfl, zz_in (i := 452) (by decide +kernel) rfl⟩
def mX1_readingByShadow : ZY := (yX1_readingByShadow, cX1_readingByShadow, 7, (some .int))
theorem yy_X1_readingByShadow : zz_YV mX1_readingByShadow 1 := ⟨⟨zz_in (i := 55) (by decide +kernel) rfl, zz_in (i := 727) (by decide +kernel) rfl, ⟨by decide +kernel, by decide +kernel, by decide +kernel⟩, by decide⟩, zz_in (i := 725) (by decide +kernel) rfl, zz_in (i := 726) (by decide +kernel) rfl⟩
def mX2_init : ZY := (yX2_init, cX2_init, 2, none)
theorem yy_X2_init : zz_YI mX2_init 0 := ⟨⟨zz_in (i := 53) (by decide +kernel) rfl, zz_in (i := 204) (by decide +kernel) rfl, ⟨by decide +kernel, by decide +kernel, by decide +kernel⟩, by decide⟩, zz_in (i := 203) (by decide +kernel) rfl, rfl, rfl⟩
def mX2_keepMarked : ZY := (yX2_keepMarked, cX2_keepMarked, 1, none)
theorem yy_X2_keepMarked : zz_YV mX2_keepMarked 0 := ⟨⟨zz_in (i := 53) (by decide +kernel) rfl, zz_in (i := 328) (by decide +kernel) rfl, ⟨by decide +kernel, by decide +kernel, by decide +kernel⟩, by decide⟩, zz_in (i := 326) (by decide +kernel) rfl, zz_in (i := 327) (by decide +kernel) rfl⟩
def mX2_mark : ZY := (yX2_mark, cX2_mark, 2, none)
theorem yy_X2_mark : zz_YV mX2_mark 1 := ⟨⟨zz_in (i := 53) (by decide +kernel) rfl, zz_in (i := 287) (by decide +kernel) rfl, ⟨by decide +kernel, by decide +kernel, by decide +kernel⟩, by decide⟩, zz_in (i := 285) (by decide +kernel) rfl, zz_in (i := 286) (by decide +kernel) rfl⟩
def mX2_returnToMarked : ZY := (yX2_returnToMarked, cX2_returnToMarked, 2, none)
theorem yy_X2_returnToMarked : zz_YV mX2_returnToMarked 1 := ⟨⟨zz_in (i := 53) (by decide +kernel) rfl, zz_in (i := 540) (by decide +kernel) rfl, ⟨by decide +kernel, by decide +kernel, by decide +kernel⟩, by decide⟩, zz_in (i := 538) (by decide +kernel) rfl, zz_in (i := 539) (by decide +kernel) rfl⟩
def mX2_stepBack : ZY := (yX2_stepBack, cX2_stepBack, 2, none)
theorem yy_X2_stepBack : zz_YV mX2_stepBack 1 := ⟨⟨zz_in (i := 53) (by decide +kernel) rfl, zz_in (i := 536) (by decide +kernel) rfl, ⟨by decide +kernel, by decide +kernel, by decide +kernel⟩, by decide⟩, zz_in (i := 534) (by decide +kernel) rfl, zz_in (i := 535) (by decide +kernel) rfl⟩
def mX3_add : ZY := (yX3_add, cX3_add, 2, (some .int))
theorem yy_X3_add : zz_YV mX3_add 1 := ⟨⟨zz_in (i := 54) (by decide +kernel) rfl, zz_in (i := 548) (by decide +kernel) rfl, ⟨by decide +kernel, by decide +kernel, by decide +kernel⟩, by decide⟩, zz_in (i := 546) (by decide +kernel) rfl, zz_in (i := 547) (by decide +kernel) rfl⟩
def mX3_advance : ZY := (yX3_advance, cX3_advance, 2, (some .boolean))
theorem yy_X3_advance : zz_YV mX3_advance 0 := ⟨⟨zz_in (i := 54) (by decide +kernel) rfl, zz_in (i := 571) (by decide +kernel) rfl, ⟨by decide +kernel, by decide +kernel, by decide +kernel⟩, by decide⟩, zz_in (i := 569) (by decide +kernel) rfl, zz_in (i := 570) (by decide +kernel) rfl⟩
def mX3_commandOfToken : ZY := (yX3_commandOfToken, cX3_commandOfToken, 2, (some .int))
theorem yy_X3_commandOfToken : zz_YV mX3_commandOfToken 0 := ⟨⟨zz_in (i := 54) (by decide +kernel) rfl, zz_in (i := 582) (by decide +kernel) rfl, ⟨by decide +kernel, by decide +kernel, by decide +kernel⟩, by decide⟩, zz_in (i := 580) (by decide +kernel) rfl, zz_in (i := 581) (by decide +kernel) rfl⟩
def mX3_empty : ZY := (yX3_empty, cX3_empty, 2, (some .int))
theorem yy_X3_empty : zz_YV mX3_empty 0 := ⟨⟨zz_in (i := 54) (by decide +kernel) rfl, zz_in (i := 559) (by decide +kernel) rfl, ⟨by decide +kernel, by decide +kernel, by decide +kernel⟩, by decide⟩, zz_in (i := 557) (by decide +kernel) rfl, zz_in (i := 558) (by decide +kernel) rfl⟩
def mX3_init : ZY := (yX3_init, cX3_init, 1, none)
theorem yy_X3_init : zz_YI mX3_init 0 := ⟨⟨zz_in (i := 54) (by decide +kernel) rfl, zz_in (i := 224) (by decide +kernel) rfl, ⟨by decide +kernel, by decide +kernel, by decide +kernel⟩, by decide⟩, zz_in (i := 223) (by decide +kernel) rfl, rfl, rfl⟩
def mX3_kindOf : ZY := (yX3_kindOf, cX3_kindOf, 1, (some .int))
theorem yy_X3_kindOf : zz_YS mX3_kindOf 1 := ⟨⟨zz_in (i := 54) (by decide +kernel) rfl, zz_in (i := 574) (by decide +kernel) rfl, ⟨by decide +kernel, by decide +kernel, by decide +kernel⟩, by decide⟩, zz_in (i := 573) (by decide +kernel) rfl⟩
def mX3_numberOfToken : ZY := (yX3_numberOfToken, cX3_numberOfToken, 4, (some .int))
theorem yy_X3_numberOfToken : zz_YV mX3_numberOfToken 0 := ⟨⟨zz_in (i := 54) (by decide +kernel) rfl, zz_in (i := 653) (by decide +kernel) rfl, ⟨by decide +kernel, by decide +kernel, by decide +kernel⟩, by decide⟩, zz_in (i := 651) (by decide +kernel) rfl, zz_in (i := 652) (by decide +kernel) rfl⟩
def mX3_parseCommand : ZY := (yX3_parseCommand, cX3_parseCommand, 5, (some .int))
theorem yy_X3_parseCommand : zz_YV mX3_parseCommand 0 := ⟨⟨zz_in (i := 54) (by decide +kernel) rfl, zz_in (i := 578) (by decide +kernel) rfl, ⟨by decide +kernel, by decide +kernel, by decide +kernel⟩, by decide⟩, zz_in (i := 576) (by decide +kernel) rfl, zz_in (i := 577) (by decide +kernel) rfl⟩
def mX3_rewind : ZY := (yX3_rewind, cX3_rewind, 1, none)
theorem yy_X3_rewind : zz_YV mX3_rewind 0 := ⟨⟨zz_in (i := 54) (by decide +kernel) rfl, zz_in (i := 567) (by decide +kernel) rfl, ⟨by decide +kernel, by decide +kernel, by decide +kernel⟩, by decide⟩, zz_in (i := 565) (by decide +kernel) rfl, zz_in (i := 566) (by decide +kernel) rfl⟩
def mX3_tokenIs : ZY := (yX3_tokenIs, cX3_tokenIs, 3, (some .boolean))
theorem yy_X3_tokenIs : zz_YV mX3_tokenIs 1 := ⟨⟨zz_in (i := 54) (by decide +kernel) rfl, zz_in (i := 597) (by decide +kernel) rfl, ⟨by decide +kernel, by decide +kernel, by decide +kernel⟩, by decide⟩, zz_in (i := 595) (by decide +kernel) rfl, zz_in (i := 596) (by decide +kernel) rfl⟩
def mX3_wordOf : ZY := (yX3_wordOf, cX3_wordOf, 1, (some (.object "java/lang/String")))
theorem yy_X3_wordOf : zz_YS mX3_wordOf 1 := ⟨⟨zz_in (i := 54) (by decide +kernel) rfl, zz_in (i := 585) (by decide +kernel) rfl, ⟨by decide +kernel, by decide +kernel, by decide +kernel⟩, by decide⟩, zz_in (i := 584) (by decide +kernel) rfl⟩
def mX4_acceptedOnes : ZY := (yX4_acceptedOnes, cX4_acceptedOnes, 3, (some .int))
theorem yy_X4_acceptedOnes : zz_YV mX4_acceptedOnes 0 := ⟨⟨zz_in (i := 50) (by decide +kernel) rfl, zz_in (i := 486) (by decide +kernel) rfl, ⟨by decide +kernel, by decide +kernel, by decide +kernel⟩, by decide⟩, zz_in (i := 484) (by decide +kernel) rfl, zz_in (i := 485) (by decide +kernel) rfl⟩
def mX4_castMelt : ZY := (yX4_castMelt, cX4_castMelt, 3, (some .int))
theorem yy_X4_castMelt : zz_YV mX4_castMelt 0 := ⟨⟨zz_in (i := 50) (by decide +kernel) rfl, zz_in (i := 482) (by decide +kernel) rfl, ⟨by decide +kernel, by decide +kernel, by decide +kernel⟩, by decide⟩, zz_in (i := 480) (by decide +kernel) rfl, zz_in (i := 481) (by decide +kernel) rfl⟩
def mX4_changeCorrection : ZY := (yX4_changeCorrection, cX4_changeCorrection, 4, (some .int))
theorem yy_X4_changeCorrection : zz_YV mX4_changeCorrection 2 := ⟨⟨zz_in (i := 50) (by decide +kernel) rfl, zz_in (i := 310) (by decide +kernel) rfl, ⟨by decide +kernel, by decide +kernel, by decide +kernel⟩, by decide⟩, zz_in (i := 308) (by decide +kernel) rfl, zz_in (i := 309) (by decide +kernel) rfl⟩
def mX4_changeSetting : ZY := (yX4_changeSetting, cX4_changeSetting, 4, (some .int))
theorem yy_X4_changeSetting : zz_YV mX4_changeSetting 2 := ⟨⟨zz_in (i := 50) (by decide +kernel) rfl, zz_in (i := 339) (by decide +kernel) rfl, ⟨by decide +kernel, by decide +kernel, by decide +kernel⟩, by decide⟩, zz_in (i := 337) (by decide +kernel) rfl, zz_in (i := 338) (by decide +kernel) rfl⟩
def mX4_commissionsForWall : ZY := (yX4_commissionsForWall, cX4_commissionsForWall, 4, (some .int))
theorem yy_X4_commissionsForWall : zz_YV mX4_commissionsForWall 1 := ⟨⟨zz_in (i := 50) (by decide +kernel) rfl, zz_in (i := 687) (by decide +kernel) rfl, ⟨by decide +kernel, by decide +kernel, by decide +kernel⟩, by decide⟩, zz_in (i := 685) (by decide +kernel) rfl, zz_in (i := 686) (by decide +kernel) rfl⟩
def mX4_commissionsInState : ZY := (yX4_commissionsInState, cX4_commissionsInState, 4, (some .int))
theorem yy_X4_commissionsInState : zz_YV mX4_commissionsInState 1 := ⟨⟨zz_in (i := 50) (by decide +kernel) rfl, zz_in (i := 509) (by decide +kernel) rfl, ⟨by decide +kernel, by decide +kernel, by decide +kernel⟩, by decide⟩, zz_in (i := 507) (by decide +kernel) rfl, zz_in (i := 508) (by decide +kernel) rfl⟩
def mX4_conclude : ZY := (yX4_conclude, cX4_conclude, 4, (some .int))
theorem yy_X4_conclude : zz_YV mX4_conclude 2 := ⟨⟨zz_in (i := 50) (by decide +kernel) rfl, zz_in (i := 464) (by decide +kernel) rfl, ⟨by decide +kernel, by decide +kernel, by decide +kernel⟩, by decide⟩, zz_in (i := 462) (by decide +kernel) rfl, zz_in (i := 463) (by decide +kernel) rfl⟩
def mX4_copyFrom : ZY := (yX4_copyFrom, cX4_copyFrom, 3, none)
theorem yy_X4_copyFrom : zz_YV mX4_copyFrom 1 := ⟨⟨zz_in (i := 50) (by decide +kernel) rfl, zz_in (i := 295) (by decide +kernel) rfl, ⟨by decide +kernel, by decide +kernel, by decide +kernel⟩, by decide⟩, zz_in (i := 293) (by decide +kernel) rfl, zz_in (i := 294) (by decide +kernel) rfl⟩
def mX4_declinationOfDial : ZY := (yX4_declinationOfDial, cX4_declinationOfDial, 3, (some .int))
theorem yy_X4_declinationOfDial : zz_YV mX4_declinationOfDial 1 := ⟨⟨zz_in (i := 50) (by decide +kernel) rfl, zz_in (i := 400) (by decide +kernel) rfl, ⟨by decide +kernel, by decide +kernel, by decide +kernel⟩, by decide⟩, zz_in (i := 398) (by decide +kernel) rfl, zz_in (i := 399) (by decide +kernel) rfl⟩
def mX4_declinationOfWall : ZY := (yX4_declinationOfWall, cX4_declinationOfWall, 2, (some .int))
theorem yy_X4_declinationOfWall : zz_YV mX4_declinationOfWall 1 := ⟨⟨zz_in (i := 50) (by decide +kernel) rfl, zz_in (i := 409) (by decide +kernel) rfl, ⟨by decide +kernel, by decide +kernel, by decide +kernel⟩, by decide⟩, zz_in (i := 407) (by decide +kernel) rfl, zz_in (i := 408) (by decide +kernel) rfl⟩
def mX4_handOver : ZY := (yX4_handOver, cX4_handOver, 2, (some .int))
theorem yy_X4_handOver : zz_YV mX4_handOver 1 := ⟨⟨zz_in (i := 50) (by decide +kernel) rfl, zz_in (i := 505) (by decide +kernel) rfl, ⟨by decide +kernel, by decide +kernel, by decide +kernel⟩, by decide⟩, zz_in (i := 503) (by decide +kernel) rfl, zz_in (i := 504) (by decide +kernel) rfl⟩
def mX4_hasCommission : ZY := (yX4_hasCommission, cX4_hasCommission, 2, (some .boolean))
theorem yy_X4_hasCommission : zz_YV mX4_hasCommission 1 := ⟨⟨zz_in (i := 50) (by decide +kernel) rfl, zz_in (i := 392) (by decide +kernel) rfl, ⟨by decide +kernel, by decide +kernel, by decide +kernel⟩, by decide⟩, zz_in (i := 390) (by decide +kernel) rfl, zz_in (i := 391) (by decide +kernel) rfl⟩
def mX4_hasWall : ZY := (yX4_hasWall, cX4_hasWall, 2, (some .boolean))
theorem yy_X4_hasWall : zz_YV mX4_hasWall 1 := ⟨⟨zz_in (i := 50) (by decide +kernel) rfl, zz_in (i := 365) (by decide +kernel) rfl, ⟨by decide +kernel, by decide +kernel, by decide +kernel⟩, by decide⟩, zz_in (i := 363) (by decide +kernel) rfl, zz_in (i := 364) (by decide +kernel) rfl⟩
def mX4_init : ZY := (yX4_init, cX4_init, 2, none)
theorem yy_X4_init : zz_YI mX4_init 0 := ⟨⟨zz_in (i := 50) (by decide +kernel) rfl, zz_in (i := 82) (by decide +kernel) rfl, ⟨by decide +kernel, by decide +kernel, by decide +kernel⟩, by decide⟩, zz_in (i := 81) (by decide +kernel) rfl, rfl, rfl⟩
def mX4_knownWalls : ZY := (yX4_knownWalls, cX4_knownWalls, 3, (some .int))
theorem yy_X4_knownWalls : zz_YV mX4_knownWalls 0 := ⟨⟨zz_in (i := 50) (by decide +kernel) rfl, zz_in (i := 672) (by decide +kernel) rfl, ⟨by decide +kernel, by decide +kernel, by decide +kernel⟩, by decide⟩, zz_in (i := 670) (by decide +kernel) rfl, zz_in (i := 671) (by decide +kernel) rfl⟩
def mX4_measureWall : ZY := (yX4_measureWall, cX4_measureWall, 4, (some .int))
theorem yy_X4_measureWall : zz_YV mX4_measureWall 2 := ⟨⟨zz_in (i := 50) (by decide +kernel) rfl, zz_in (i := 361) (by decide +kernel) rfl, ⟨by decide +kernel, by decide +kernel, by decide +kernel⟩, by decide⟩, zz_in (i := 359) (by decide +kernel) rfl, zz_in (i := 360) (by decide +kernel) rfl⟩
def mX4_meltsNeeded : ZY := (yX4_meltsNeeded, cX4_meltsNeeded, 4, (some .int))
theorem yy_X4_meltsNeeded : zz_YV mX4_meltsNeeded 0 := ⟨⟨zz_in (i := 50) (by decide +kernel) rfl, zz_in (i := 747) (by decide +kernel) rfl, ⟨by decide +kernel, by decide +kernel, by decide +kernel⟩, by decide⟩, zz_in (i := 745) (by decide +kernel) rfl, zz_in (i := 746) (by decide +kernel) rfl⟩
def mX4_nextMelt : ZY := (yX4_nextMelt, cX4_nextMelt, 6, (some .int))
theorem yy_X4_nextMelt : zz_YV mX4_nextMelt 1 := ⟨⟨zz_in (i := 50) (by decide +kernel) rfl, zz_in (i := 490) (by decide +kernel) rfl, ⟨by decide +kernel, by decide +kernel, by decide +kernel⟩, by decide⟩, zz_in (i := 488) (by decide +kernel) rfl, zz_in (i := 489) (by decide +kernel) rfl⟩
def mX4_openCommission : ZY := (yX4_openCommission, cX4_openCommission, 6, (some .int))
theorem yy_X4_openCommission : zz_YV mX4_openCommission 4 := ⟨⟨zz_in (i := 50) (by decide +kernel) rfl, zz_in (i := 380) (by decide +kernel) rfl, ⟨by decide +kernel, by decide +kernel, by decide +kernel⟩, by decide⟩, zz_in (i := 378) (by decide +kernel) rfl, zz_in (i := 379) (by decide +kernel) rfl⟩
def mX4_openWall : ZY := (yX4_openWall, cX4_openWall, 2, (some .int))
theorem yy_X4_openWall : zz_YV mX4_openWall 0 := ⟨⟨zz_in (i := 50) (by decide +kernel) rfl, zz_in (i := 351) (by decide +kernel) rfl, ⟨by decide +kernel, by decide +kernel, by decide +kernel⟩, by decide⟩, zz_in (i := 349) (by decide +kernel) rfl, zz_in (i := 350) (by decide +kernel) rfl⟩
def mX4_reopen : ZY := (yX4_reopen, cX4_reopen, 3, (some .int))
theorem yy_X4_reopen : zz_YV mX4_reopen 2 := ⟨⟨zz_in (i := 50) (by decide +kernel) rfl, zz_in (i := 474) (by decide +kernel) rfl, ⟨by decide +kernel, by decide +kernel, by decide +kernel⟩, by decide⟩, zz_in (i := 472) (by decide +kernel) rfl, zz_in (i := 473) (by decide +kernel) rfl⟩
def mX5_copyFrom : ZY := (yX5_copyFrom, cX5_copyFrom, 3, none)
theorem yy_X5_copyFrom : zz_YV mX5_copyFrom 1 := ⟨⟨zz_in (i := 49) (by decide +kernel) rfl, zz_in (i := 291) (by decide +kernel) rfl, ⟨by decide +kernel, by decide +kernel, by decide +kernel⟩, by decide⟩, zz_in (i := 289) (by decide +kernel) rfl, zz_in (i := 290) (by decide +kernel) rfl⟩
def mX5_fetchSnapshot : ZY := (yX5_fetchSnapshot, cX5_fetchSnapshot, 2, (some .int))
theorem yy_X5_fetchSnapshot : zz_YV mX5_fetchSnapshot 1 := ⟨⟨zz_in (i := 49) (by decide +kernel) rfl, zz_in (i := 527) (by decide +kernel) rfl, ⟨by decide +kernel, by decide +kernel, by decide +kernel⟩, by decide⟩, zz_in (i := 525) (by decide +kernel) rfl, zz_in (i := 526) (by decide +kernel) rfl⟩
def mX5_init : ZY := (yX5_init, cX5_init, 2, none)
theorem yy_X5_init : zz_YI mX5_init 0 := ⟨⟨zz_in (i := 49) (by decide +kernel) rfl, zz_in (i := 76) (by decide +kernel) rfl, ⟨by decide +kernel, by decide +kernel, by decide +kernel⟩, by decide⟩, zz_in (i := 75) (by decide +kernel) rfl, rfl, rfl⟩
def mX5_keepSnapshot : ZY := (yX5_keepSnapshot, cX5_keepSnapshot, 2, (some .int))
theorem yy_X5_keepSnapshot : zz_YV mX5_keepSnapshot 1 := ⟨⟨zz_in (i := 49) (by decide +kernel) rfl, zz_in (i := 517) (by decide +kernel) rfl, ⟨by decide +kernel, by decide +kernel, by decide +kernel⟩, by decide⟩, zz_in (i := 515) (by decide +kernel) rfl, zz_in (i := 516) (by decide +kernel) rfl⟩
def mX5_snapshots : ZY := (yX5_snapshots, cX5_snapshots, 3, (some .int))
theorem yy_X5_snapshots : zz_YV mX5_snapshots 0 := ⟨⟨zz_in (i := 49) (by decide +kernel) rfl, zz_in (i := 677) (by decide +kernel) rfl, ⟨by decide +kernel, by decide +kernel, by decide +kernel⟩, by decide⟩, zz_in (i := 675) (by decide +kernel) rfl, zz_in (i := 676) (by decide +kernel) rfl⟩
def mX6_copyFrom : ZY := (yX6_copyFrom, cX6_copyFrom, 2, none)
theorem yy_X6_copyFrom : zz_YV mX6_copyFrom 1 := ⟨⟨zz_in (i := 51) (by decide +kernel) rfl, zz_in (i := 299) (by decide +kernel) rfl, ⟨by decide +kernel, by decide +kernel, by decide +kernel⟩, by decide⟩, zz_in (i := 297) (by decide +kernel) rfl, zz_in (i := 298) (by decide +kernel) rfl⟩
def mX6_init : ZY := (yX6_init, cX6_init, 1, none)
theorem yy_X6_init : zz_YI mX6_init 0 := ⟨⟨zz_in (i := 51) (by decide +kernel) rfl, zz_in (i := 91) (by decide +kernel) rfl, ⟨by decide +kernel, by decide +kernel, by decide +kernel⟩, by decide⟩, zz_in (i := 90) (by decide +kernel) rfl, rfl, rfl⟩
def mX6_isKnown : ZY := (yX6_isKnown, cX6_isKnown, 2, (some .boolean))
theorem yy_X6_isKnown : zz_YV mX6_isKnown 1 := ⟨⟨zz_in (i := 51) (by decide +kernel) rfl, zz_in (i := 369) (by decide +kernel) rfl, ⟨by decide +kernel, by decide +kernel, by decide +kernel⟩, by decide⟩, zz_in (i := 367) (by decide +kernel) rfl, zz_in (i := 368) (by decide +kernel) rfl⟩
def mX7_addWall : ZY := (yX7_addWall, cX7_addWall, 1, (some .int))
theorem yy_X7_addWall : zz_YV mX7_addWall 0 := ⟨⟨zz_in (i := 48) (by decide +kernel) rfl, zz_in (i := 347) (by decide +kernel) rfl, ⟨by decide +kernel, by decide +kernel, by decide +kernel⟩, by decide⟩, zz_in (i := 345) (by decide +kernel) rfl, zz_in (i := 346) (by decide +kernel) rfl⟩
def mX7_apart : ZY := (yX7_apart, cX7_apart, 3, (some .int))
theorem yy_X7_apart : zz_YV mX7_apart 2 := ⟨⟨zz_in (i := 48) (by decide +kernel) rfl, zz_in (i := 731) (by decide +kernel) rfl, ⟨by decide +kernel, by decide +kernel, by decide +kernel⟩, by decide⟩, zz_in (i := 729) (by decide +kernel) rfl, zz_in (i := 730) (by decide +kernel) rfl⟩
def mX7_append : ZY := (yX7_append, cX7_append, 2, (some .int))
theorem yy_X7_append : zz_YV mX7_append 1 := ⟨⟨zz_in (i := 48) (by decide +kernel) rfl, zz_in (i := 544) (by decide +kernel) rfl, ⟨by decide +kernel, by decide +kernel, by decide +kernel⟩, by decide⟩, zz_in (i := 542) (by decide +kernel) rfl, zz_in (i := 543) (by decide +kernel) rfl⟩
def mX7_ask : ZY := (yX7_ask, cX7_ask, 5, (some .int))
theorem yy_X7_ask : zz_YV mX7_ask 4 := ⟨⟨zz_in (i := 48) (by decide +kernel) rfl, zz_in (i := 376) (by decide +kernel) rfl, ⟨by decide +kernel, by decide +kernel, by decide +kernel⟩, by decide⟩, zz_in (i := 374) (by decide +kernel) rfl, zz_in (i := 375) (by decide +kernel) rfl⟩
def mX7_askAgain : ZY := (yX7_askAgain, cX7_askAgain, 2, (some .int))
theorem yy_X7_askAgain : zz_YV mX7_askAgain 1 := ⟨⟨zz_in (i := 48) (by decide +kernel) rfl, zz_in (i := 470) (by decide +kernel) rfl, ⟨by decide +kernel, by decide +kernel, by decide +kernel⟩, by decide⟩, zz_in (i := 468) (by decide +kernel) rfl, zz_in (i := 469) (by decide +kernel) rfl⟩
def mX7_bestLatitude : ZY := (yX7_bestLatitude, cX7_bestLatitude, 6, (some .int))
theorem yy_X7_bestLatitude : zz_YV mX7_bestLatitude 1 := ⟨⟨zz_in (i := 48) (by decide +kernel) rfl, zz_in (i := 739) (by decide +kernel) rfl, ⟨by decide +kernel, by decide +kernel, by decide +kernel⟩, by decide⟩, zz_in (i := 737) (by decide +kernel) rfl, zz_in (i := 738) (by decide +kernel) rfl⟩
def mX7_cast : ZY := (yX7_cast, cX7_cast, 1, (some .int))
theorem yy_X7_cast : zz_YV mX7_cast 0 := ⟨⟨zz_in (i := 48) (by decide +kernel) rfl, zz_in (i := 478) (by decide +kernel) rfl, ⟨by decide +kernel, by decide +kernel, by decide +kernel⟩, by decide⟩, zz_in (i := 476) (by decide +kernel) rfl, zz_in (i := 477) (by decide +kernel) rfl⟩
def mX7_clearText : ZY := (yX7_clearText, cX7_clearText, 1, (some .int))
theorem yy_X7_clearText : zz_YV mX7_clearText 0 := ⟨⟨zz_in (i := 48) (by decide +kernel) rfl, zz_in (i := 555) (by decide +kernel) rfl, ⟨by decide +kernel, by decide +kernel, by decide +kernel⟩, by decide⟩, zz_in (i := 553) (by decide +kernel) rfl, zz_in (i := 554) (by decide +kernel) rfl⟩
def mX7_commission : ZY := (yX7_commission, cX7_commission, 4, (some .int))
theorem yy_X7_commission : zz_YV mX7_commission 2 := ⟨⟨zz_in (i := 48) (by decide +kernel) rfl, zz_in (i := 691) (by decide +kernel) rfl, ⟨by decide +kernel, by decide +kernel, by decide +kernel⟩, by decide⟩, zz_in (i := 689) (by decide +kernel) rfl, zz_in (i := 690) (by decide +kernel) rfl⟩
def mX7_correction : ZY := (yX7_correction, cX7_correction, 2, (some .int))
theorem yy_X7_correction : zz_YV mX7_correction 1 := ⟨⟨zz_in (i := 48) (by decide +kernel) rfl, zz_in (i := 695) (by decide +kernel) rfl, ⟨by decide +kernel, by decide +kernel, by decide +kernel⟩, by decide⟩, zz_in (i := 693) (by decide +kernel) rfl, zz_in (i := 694) (by decide +kernel) rfl⟩
def mX7_count : ZY := (yX7_count, cX7_count, 2, (some .int))
theorem yy_X7_count : zz_YV mX7_count 1 := ⟨⟨zz_in (i := 48) (by decide +kernel) rfl, zz_in (i := 668) (by decide +kernel) rfl, ⟨by decide +kernel, by decide +kernel, by decide +kernel⟩, by decide⟩, zz_in (i := 666) (by decide +kernel) rfl, zz_in (i := 667) (by decide +kernel) rfl⟩
def mX7_decide : ZY := (yX7_decide, cX7_decide, 2, (some .int))
theorem yy_X7_decide : zz_YV mX7_decide 1 := ⟨⟨zz_in (i := 48) (by decide +kernel) rfl, zz_in (i := 384) (by decide +kernel) rfl, ⟨by decide +kernel, by decide +kernel, by decide +kernel⟩, by decide⟩, zz_in (i := 382) (by decide +kernel) rfl, zz_in (i := 383) (by decide +kernel) rfl⟩
def mX7_deliver : ZY := (yX7_deliver, cX7_deliver, 2, (some .int))
theorem yy_X7_deliver : zz_YV mX7_deliver 1 := ⟨⟨zz_in (i := 48) (by decide +kernel) rfl, zz_in (i := 501) (by decide +kernel) rfl, ⟨by decide +kernel, by decide +kernel, by decide +kernel⟩, by decide⟩, zz_in (i := 499) (by decide +kernel) rfl, zz_in (i := 500) (by decide +kernel) rfl⟩
def mX7_failedAt : ZY := (yX7_failedAt, cX7_failedAt, 2, (some .int))
theorem yy_X7_failedAt : zz_YV mX7_failedAt 1 := ⟨⟨zz_in (i := 48) (by decide +kernel) rfl, zz_in (i := 658) (by decide +kernel) rfl, ⟨by decide +kernel, by decide +kernel, by decide +kernel⟩, by decide⟩, zz_in (i := 657) (by decide +kernel) rfl, zz_in (i := 3) (by decide +kernel) rfl⟩
def mX7_init : ZY := (yX7_init, cX7_init, 1, none)
theorem yy_X7_init : zz_YI mX7_init 0 := ⟨⟨zz_in (i := 48) (by decide +kernel) rfl, zz_in (i := 68) (by decide +kernel) rfl, ⟨by decide +kernel, by decide +kernel, by decide +kernel⟩, by decide⟩, zz_in (i := 67) (by decide +kernel) rfl, rfl, rfl⟩
def mX7_isError : ZY := (yX7_isError, cX7_isError, 1, (some .boolean))
theorem yy_X7_isError : zz_YS mX7_isError 1 := ⟨⟨zz_in (i := 48) (by decide +kernel) rfl, zz_in (i := 321) (by decide +kernel) rfl, ⟨by decide +kernel, by decide +kernel, by decide +kernel⟩, by decide⟩, zz_in (i := 320) (by decide +kernel) rfl⟩
def mX7_isWithin : ZY := (yX7_isWithin, cX7_isWithin, 3, (some .boolean))
theorem yy_X7_isWithin : zz_YS mX7_isWithin 3 := ⟨⟨zz_in (i := 48) (by decide +kernel) rfl, zz_in (i := 313) (by decide +kernel) rfl, ⟨by decide +kernel, by decide +kernel, by decide +kernel⟩, by decide⟩, zz_in (i := 312) (by decide +kernel) rfl⟩
def mX7_judge : ZY := (yX7_judge, cX7_judge, 2, (some .int))
theorem yy_X7_judge : zz_YV mX7_judge 1 := ⟨⟨zz_in (i := 48) (by decide +kernel) rfl, zz_in (i := 388) (by decide +kernel) rfl, ⟨by decide +kernel, by decide +kernel, by decide +kernel⟩, by decide⟩, zz_in (i := 387) (by decide +kernel) rfl, zz_in (i := 1) (by decide +kernel) rfl⟩
def mX7_layDial : ZY := (yX7_layDial, cX7_layDial, 4, (some .boolean))
theorem yy_X7_layDial : zz_YV mX7_layDial 1 := ⟨⟨zz_in (i := 48) (by decide +kernel) rfl, zz_in (i := 396) (by decide +kernel) rfl, ⟨by decide +kernel, by decide +kernel, by decide +kernel⟩, by decide⟩, zz_in (i := 395) (by decide +kernel) rfl, zz_in (i := 2) (by decide +kernel) rfl⟩
def mX7_lines : ZY := (yX7_lines, cX7_lines, 3, (some .int))
theorem yy_X7_lines : zz_YV mX7_lines 2 := ⟨⟨zz_in (i := 48) (by decide +kernel) rfl, zz_in (i := 710) (by decide +kernel) rfl, ⟨by decide +kernel, by decide +kernel, by decide +kernel⟩, by decide⟩, zz_in (i := 708) (by decide +kernel) rfl, zz_in (i := 709) (by decide +kernel) rfl⟩
def mX7_measure : ZY := (yX7_measure, cX7_measure, 3, (some .int))
theorem yy_X7_measure : zz_YV mX7_measure 2 := ⟨⟨zz_in (i := 48) (by decide +kernel) rfl, zz_in (i := 357) (by decide +kernel) rfl, ⟨by decide +kernel, by decide +kernel, by decide +kernel⟩, by decide⟩, zz_in (i := 355) (by decide +kernel) rfl, zz_in (i := 356) (by decide +kernel) rfl⟩
def mX7_melts : ZY := (yX7_melts, cX7_melts, 1, (some .int))
theorem yy_X7_melts : zz_YV mX7_melts 0 := ⟨⟨zz_in (i := 48) (by decide +kernel) rfl, zz_in (i := 743) (by decide +kernel) rfl, ⟨by decide +kernel, by decide +kernel, by decide +kernel⟩, by decide⟩, zz_in (i := 741) (by decide +kernel) rfl, zz_in (i := 742) (by decide +kernel) rfl⟩
def mX7_offset : ZY := (yX7_offset, cX7_offset, 3, (some .int))
theorem yy_X7_offset : zz_YV mX7_offset 2 := ⟨⟨zz_in (i := 48) (by decide +kernel) rfl, zz_in (i := 705) (by decide +kernel) rfl, ⟨by decide +kernel, by decide +kernel, by decide +kernel⟩, by decide⟩, zz_in (i := 703) (by decide +kernel) rfl, zz_in (i := 704) (by decide +kernel) rfl⟩
def mX7_perform : ZY := (yX7_perform, cX7_perform, 5, (some .int))
theorem yy_X7_perform : zz_YV mX7_perform 1 := ⟨⟨zz_in (i := 48) (by decide +kernel) rfl, zz_in (i := 663) (by decide +kernel) rfl, ⟨by decide +kernel, by decide +kernel, by decide +kernel⟩, by decide⟩, zz_in (i := 662) (by decide +kernel) rfl, zz_in (i := 4) (by decide +kernel) rfl⟩
def mX7_read : ZY := (yX7_read, cX7_read, 6, (some .int))
theorem yy_X7_read : zz_YV mX7_read 4 := ⟨⟨zz_in (i := 48) (by decide +kernel) rfl, zz_in (i := 722) (by decide +kernel) rfl, ⟨by decide +kernel, by decide +kernel, by decide +kernel⟩, by decide⟩, zz_in (i := 720) (by decide +kernel) rfl, zz_in (i := 721) (by decide +kernel) rfl⟩
def mX7_reason : ZY := (yX7_reason, cX7_reason, 2, (some .int))
theorem yy_X7_reason : zz_YV mX7_reason 1 := ⟨⟨zz_in (i := 48) (by decide +kernel) rfl, zz_in (i := 735) (by decide +kernel) rfl, ⟨by decide +kernel, by decide +kernel, by decide +kernel⟩, by decide⟩, zz_in (i := 733) (by decide +kernel) rfl, zz_in (i := 734) (by decide +kernel) rfl⟩
def mX7_recorded : ZY := (yX7_recorded, cX7_recorded, 2, (some .int))
theorem yy_X7_recorded : zz_YV mX7_recorded 1 := ⟨⟨zz_in (i := 48) (by decide +kernel) rfl, zz_in (i := 318) (by decide +kernel) rfl, ⟨by decide +kernel, by decide +kernel, by decide +kernel⟩, by decide⟩, zz_in (i := 317) (by decide +kernel) rfl, zz_in (i := 0) (by decide +kernel) rfl⟩
def mX7_restore : ZY := (yX7_restore, cX7_restore, 2, (some .int))
theorem yy_X7_restore : zz_YV mX7_restore 1 := ⟨⟨zz_in (i := 48) (by decide +kernel) rfl, zz_in (i := 523) (by decide +kernel) rfl, ⟨by decide +kernel, by decide +kernel, by decide +kernel⟩, by decide⟩, zz_in (i := 521) (by decide +kernel) rfl, zz_in (i := 522) (by decide +kernel) rfl⟩
def mX7_rounded : ZY := (yX7_rounded, cX7_rounded, 8, (some .long))
theorem yy_X7_rounded : zz_YS mX7_rounded 2 := ⟨⟨zz_in (i := 48) (by decide +kernel) rfl, zz_in (i := 413) (by decide +kernel) rfl, ⟨by decide +kernel, by decide +kernel, by decide +kernel⟩, by decide⟩, zz_in (i := 412) (by decide +kernel) rfl⟩
def mX7_run : ZY := (yX7_run, cX7_run, 4, (some .int))
theorem yy_X7_run : zz_YV mX7_run 0 := ⟨⟨zz_in (i := 48) (by decide +kernel) rfl, zz_in (i := 563) (by decide +kernel) rfl, ⟨by decide +kernel, by decide +kernel, by decide +kernel⟩, by decide⟩, zz_in (i := 561) (by decide +kernel) rfl, zz_in (i := 562) (by decide +kernel) rfl⟩
def mX7_set : ZY := (yX7_set, cX7_set, 3, (some .int))
theorem yy_X7_set : zz_YV mX7_set 2 := ⟨⟨zz_in (i := 48) (by decide +kernel) rfl, zz_in (i := 335) (by decide +kernel) rfl, ⟨by decide +kernel, by decide +kernel, by decide +kernel⟩, by decide⟩, zz_in (i := 333) (by decide +kernel) rfl, zz_in (i := 334) (by decide +kernel) rfl⟩
def mX7_setCorrection : ZY := (yX7_setCorrection, cX7_setCorrection, 3, (some .int))
theorem yy_X7_setCorrection : zz_YV mX7_setCorrection 2 := ⟨⟨zz_in (i := 48) (by decide +kernel) rfl, zz_in (i := 283) (by decide +kernel) rfl, ⟨by decide +kernel, by decide +kernel, by decide +kernel⟩, by decide⟩, zz_in (i := 281) (by decide +kernel) rfl, zz_in (i := 282) (by decide +kernel) rfl⟩
def mX7_sine : ZY := (yX7_sine, cX7_sine, 2, (some .int))
theorem yy_X7_sine : zz_YV mX7_sine 1 := ⟨⟨zz_in (i := 48) (by decide +kernel) rfl, zz_in (i := 700) (by decide +kernel) rfl, ⟨by decide +kernel, by decide +kernel, by decide +kernel⟩, by decide⟩, zz_in (i := 698) (by decide +kernel) rfl, zz_in (i := 699) (by decide +kernel) rfl⟩
def mX7_sineOf : ZY := (yX7_sineOf, cX7_sineOf, 6, (some .int))
theorem yy_X7_sineOf : zz_YS mX7_sineOf 1 := ⟨⟨zz_in (i := 48) (by decide +kernel) rfl, zz_in (i := 422) (by decide +kernel) rfl, ⟨by decide +kernel, by decide +kernel, by decide +kernel⟩, by decide⟩, zz_in (i := 421) (by decide +kernel) rfl⟩
def mX7_take : ZY := (yX7_take, cX7_take, 2, (some .int))
theorem yy_X7_take : zz_YV mX7_take 1 := ⟨⟨zz_in (i := 48) (by decide +kernel) rfl, zz_in (i := 513) (by decide +kernel) rfl, ⟨by decide +kernel, by decide +kernel, by decide +kernel⟩, by decide⟩, zz_in (i := 511) (by decide +kernel) rfl, zz_in (i := 512) (by decide +kernel) rfl⟩
def mX7_undo : ZY := (yX7_undo, cX7_undo, 1, (some .int))
theorem yy_X7_undo : zz_YV mX7_undo 0 := ⟨⟨zz_in (i := 48) (by decide +kernel) rfl, zz_in (i := 532) (by decide +kernel) rfl, ⟨by decide +kernel, by decide +kernel, by decide +kernel⟩, by decide⟩, zz_in (i := 530) (by decide +kernel) rfl, zz_in (i := 531) (by decide +kernel) rfl⟩
def mX7_wall : ZY := (yX7_wall, cX7_wall, 3, (some .int))
theorem yy_X7_wall : zz_YV mX7_wall 2 := ⟨⟨zz_in (i := 48) (by decide +kernel) rfl, zz_in (i := 681) (by decide +kernel) rfl, ⟨by decide +kernel, by decide +kernel, by decide +kernel⟩, by decide⟩, zz_in (i := 679) (by decide +kernel) rfl, zz_in (i := 680) (by decide +kernel) rfl⟩
def mX8_act : ZY := (yX8_act, cX8_act, 2, none)
theorem yy_X8_act : zz_YV mX8_act 0 := ⟨⟨zz_in (i := 56) (by decide +kernel) rfl, zz_in (i := 811) (by decide +kernel) rfl, ⟨by decide +kernel, by decide +kernel, by decide +kernel⟩, by decide⟩, zz_in (i := 810) (by decide +kernel) rfl, zz_in (i := 5) (by decide +kernel) rfl⟩
def mX8_addWall : ZY := (yX8_addWall, cX8_addWall, 2, (some .int))
theorem yy_X8_addWall : zz_YV mX8_addWall 0 := ⟨⟨zz_in (i := 56) (by decide +kernel) rfl, zz_in (i := 825) (by decide +kernel) rfl, ⟨by decide +kernel, by decide +kernel, by decide +kernel⟩, by decide⟩, zz_in (i := 823) (by decide +kernel) rfl, zz_in (i := 824) (by decide +kernel) rfl⟩
def mX8_apart : ZY := (yX8_apart, cX8_apart, 3, (some .int))
theorem yy_X8_apart : zz_YV mX8_apart 2 := ⟨⟨zz_in (i := 56) (by decide +kernel) rfl, zz_in (i := 1118) (by decide +kernel) rfl, ⟨by decide +kernel, by decide +kernel, by decide +kernel⟩, by decide⟩, zz_in (i := 1116) (by decide +kernel) rfl, zz_in (i := 1117) (by decide +kernel) rfl⟩
def mX8_apartOf : ZY := (yX8_apartOf, cX8_apartOf, 7, (some .int))
theorem yy_X8_apartOf : zz_YV mX8_apartOf 1 := ⟨⟨zz_in (i := 56) (by decide +kernel) rfl, zz_in (i := 945) (by decide +kernel) rfl, ⟨by decide +kernel, by decide +kernel, by decide +kernel⟩, by decide⟩, zz_in (i := 944) (by decide +kernel) rfl, zz_in (i := 25) (by decide +kernel) rfl⟩
def mX8_append : ZY := (yX8_append, cX8_append, 2, (some .int))
theorem yy_X8_append : zz_YV mX8_append 1 := ⟨⟨zz_in (i := 56) (by decide +kernel) rfl, zz_in (i := 1017) (by decide +kernel) rfl, ⟨by decide +kernel, by decide +kernel, by decide +kernel⟩, by decide⟩, zz_in (i := 1015) (by decide +kernel) rfl, zz_in (i := 1016) (by decide +kernel) rfl⟩
def mX8_ask : ZY := (yX8_ask, cX8_ask, 6, (some .int))
theorem yy_X8_ask : zz_YV mX8_ask 4 := ⟨⟨zz_in (i := 56) (by decide +kernel) rfl, zz_in (i := 866) (by decide +kernel) rfl, ⟨by decide +kernel, by decide +kernel, by decide +kernel⟩, by decide⟩, zz_in (i := 864) (by decide +kernel) rfl, zz_in (i := 865) (by decide +kernel) rfl⟩
def mX8_askAgain : ZY := (yX8_askAgain, cX8_askAgain, 3, (some .int))
theorem yy_X8_askAgain : zz_YV mX8_askAgain 1 := ⟨⟨zz_in (i := 56) (by decide +kernel) rfl, zz_in (i := 963) (by decide +kernel) rfl, ⟨by decide +kernel, by decide +kernel, by decide +kernel⟩, by decide⟩, zz_in (i := 961) (by decide +kernel) rfl, zz_in (i := 962) (by decide +kernel) rfl⟩
def mX8_askCode : ZY := (yX8_askCode, cX8_askCode, 5, (some .int))
theorem yy_X8_askCode : zz_YV mX8_askCode 4 := ⟨⟨zz_in (i := 56) (by decide +kernel) rfl, zz_in (i := 870) (by decide +kernel) rfl, ⟨by decide +kernel, by decide +kernel, by decide +kernel⟩, by decide⟩, zz_in (i := 869) (by decide +kernel) rfl, zz_in (i := 12) (by decide +kernel) rfl⟩
def mX8_askNow : ZY := (yX8_askNow, cX8_askNow, 6, (some .int))
theorem yy_X8_askNow : zz_YV mX8_askNow 4 := ⟨⟨zz_in (i := 56) (by decide +kernel) rfl, zz_in (i := 874) (by decide +kernel) rfl, ⟨by decide +kernel, by decide +kernel, by decide +kernel⟩, by decide⟩, zz_in (i := 873) (by decide +kernel) rfl, zz_in (i := 13) (by decide +kernel) rfl⟩
def mX8_at : ZY := (yX8_at, cX8_at, 2, (some .int))
theorem yy_X8_at : zz_YV mX8_at 1 := ⟨⟨zz_in (i := 56) (by decide +kernel) rfl, zz_in (i := 1033) (by decide +kernel) rfl, ⟨by decide +kernel, by decide +kernel, by decide +kernel⟩, by decide⟩, zz_in (i := 1032) (by decide +kernel) rfl, zz_in (i := 36) (by decide +kernel) rfl⟩
def mX8_bestLatitude : ZY := (yX8_bestLatitude, cX8_bestLatitude, 6, (some .int))
theorem yy_X8_bestLatitude : zz_YV mX8_bestLatitude 1 := ⟨⟨zz_in (i := 56) (by decide +kernel) rfl, zz_in (i := 1126) (by decide +kernel) rfl, ⟨by decide +kernel, by decide +kernel, by decide +kernel⟩, by decide⟩, zz_in (i := 1124) (by decide +kernel) rfl, zz_in (i := 1125) (by decide +kernel) rfl⟩
def mX8_byLines : ZY := (yX8_byLines, cX8_byLines, 4, (some .int))
theorem yy_X8_byLines : zz_YV mX8_byLines 1 := ⟨⟨zz_in (i := 56) (by decide +kernel) rfl, zz_in (i := 953) (by decide +kernel) rfl, ⟨by decide +kernel, by decide +kernel, by decide +kernel⟩, by decide⟩, zz_in (i := 952) (by decide +kernel) rfl, zz_in (i := 27) (by decide +kernel) rfl⟩
def mX8_byShadow : ZY := (yX8_byShadow, cX8_byShadow, 7, (some .int))
theorem yy_X8_byShadow : zz_YV mX8_byShadow 1 := ⟨⟨zz_in (i := 56) (by decide +kernel) rfl, zz_in (i := 1114) (by decide +kernel) rfl, ⟨by decide +kernel, by decide +kernel, by decide +kernel⟩, by decide⟩, zz_in (i := 1113) (by decide +kernel) rfl, zz_in (i := 46) (by decide +kernel) rfl⟩
def mX8_carry : ZY := (yX8_carry, cX8_carry, 5, (some .int))
theorem yy_X8_carry : zz_YV mX8_carry 4 := ⟨⟨zz_in (i := 56) (by decide +kernel) rfl, zz_in (i := 1070) (by decide +kernel) rfl, ⟨by decide +kernel, by decide +kernel, by decide +kernel⟩, by decide⟩, zz_in (i := 1069) (by decide +kernel) rfl, zz_in (i := 43) (by decide +kernel) rfl⟩
def mX8_cast : ZY := (yX8_cast, cX8_cast, 2, (some .int))
theorem yy_X8_cast : zz_YV mX8_cast 0 := ⟨⟨zz_in (i := 56) (by decide +kernel) rfl, zz_in (i := 967) (by decide +kernel) rfl, ⟨by decide +kernel, by decide +kernel, by decide +kernel⟩, by decide⟩, zz_in (i := 965) (by decide +kernel) rfl, zz_in (i := 966) (by decide +kernel) rfl⟩
def mX8_castCode : ZY := (yX8_castCode, cX8_castCode, 1, (some .int))
theorem yy_X8_castCode : zz_YV mX8_castCode 0 := ⟨⟨zz_in (i := 56) (by decide +kernel) rfl, zz_in (i := 971) (by decide +kernel) rfl, ⟨by decide +kernel, by decide +kernel, by decide +kernel⟩, by decide⟩, zz_in (i := 970) (by decide +kernel) rfl, zz_in (i := 29) (by decide +kernel) rfl⟩
def mX8_castNow : ZY := (yX8_castNow, cX8_castNow, 3, (some .int))
theorem yy_X8_castNow : zz_YV mX8_castNow 0 := ⟨⟨zz_in (i := 56) (by decide +kernel) rfl, zz_in (i := 983) (by decide +kernel) rfl, ⟨by decide +kernel, by decide +kernel, by decide +kernel⟩, by decide⟩, zz_in (i := 982) (by decide +kernel) rfl, zz_in (i := 32) (by decide +kernel) rfl⟩
def mX8_clearText : ZY := (yX8_clearText, cX8_clearText, 2, (some .int))
theorem yy_X8_clearText : zz_YV mX8_clearText 0 := ⟨⟨zz_in (i := 56) (by decide +kernel) rfl, zz_in (i := 1021) (by decide +kernel) rfl, ⟨by decide +kernel, by decide +kernel, by decide +kernel⟩, by decide⟩, zz_in (i := 1019) (by decide +kernel) rfl, zz_in (i := 1020) (by decide +kernel) rfl⟩
def mX8_codeOf : ZY := (yX8_codeOf, cX8_codeOf, 5, (some .int))
theorem yy_X8_codeOf : zz_YV mX8_codeOf 4 := ⟨⟨zz_in (i := 56) (by decide +kernel) rfl, zz_in (i := 1066) (by decide +kernel) rfl, ⟨by decide +kernel, by decide +kernel, by decide +kernel⟩, by decide⟩, zz_in (i := 1065) (by decide +kernel) rfl, zz_in (i := 42) (by decide +kernel) rfl⟩
def mX8_command : ZY := (yX8_command, cX8_command, 4, (some .int))
theorem yy_X8_command : zz_YV mX8_command 0 := ⟨⟨zz_in (i := 56) (by decide +kernel) rfl, zz_in (i := 1037) (by decide +kernel) rfl, ⟨by decide +kernel, by decide +kernel, by decide +kernel⟩, by decide⟩, zz_in (i := 1036) (by decide +kernel) rfl, zz_in (i := 37) (by decide +kernel) rfl⟩
def mX8_commission : ZY := (yX8_commission, cX8_commission, 3, (some .int))
theorem yy_X8_commission : zz_YV mX8_commission 2 := ⟨⟨zz_in (i := 56) (by decide +kernel) rfl, zz_in (i := 1090) (by decide +kernel) rfl, ⟨by decide +kernel, by decide +kernel, by decide +kernel⟩, by decide⟩, zz_in (i := 1088) (by decide +kernel) rfl, zz_in (i := 1089) (by decide +kernel) rfl⟩
def mX8_commissionsFor : ZY := (yX8_commissionsFor, cX8_commissionsFor, 4, (some .int))
theorem yy_X8_commissionsFor : zz_YV mX8_commissionsFor 1 := ⟨⟨zz_in (i := 56) (by decide +kernel) rfl, zz_in (i := 1086) (by decide +kernel) rfl, ⟨by decide +kernel, by decide +kernel, by decide +kernel⟩, by decide⟩, zz_in (i := 1085) (by decide +kernel) rfl, zz_in (i := 45) (by decide +kernel) rfl⟩
def mX8_correction : ZY := (yX8_correction, cX8_correction, 2, (some .int))
theorem yy_X8_correction : zz_YV mX8_correction 1 := ⟨⟨zz_in (i := 56) (by decide +kernel) rfl, zz_in (i := 1094) (by decide +kernel) rfl, ⟨by decide +kernel, by decide +kernel, by decide +kernel⟩, by decide⟩, zz_in (i := 1092) (by decide +kernel) rfl, zz_in (i := 1093) (by decide +kernel) rfl⟩
def mX8_cosineOf : ZY := (yX8_cosineOf, cX8_cosineOf, 1, (some .long))
theorem yy_X8_cosineOf : zz_YS mX8_cosineOf 1 := ⟨⟨zz_in (i := 56) (by decide +kernel) rfl, zz_in (i := 922) (by decide +kernel) rfl, ⟨by decide +kernel, by decide +kernel, by decide +kernel⟩, by decide⟩, zz_in (i := 921) (by decide +kernel) rfl⟩
def mX8_count : ZY := (yX8_count, cX8_count, 2, (some .int))
theorem yy_X8_count : zz_YV mX8_count 1 := ⟨⟨zz_in (i := 56) (by decide +kernel) rfl, zz_in (i := 1074) (by decide +kernel) rfl, ⟨by decide +kernel, by decide +kernel, by decide +kernel⟩, by decide⟩, zz_in (i := 1072) (by decide +kernel) rfl, zz_in (i := 1073) (by decide +kernel) rfl⟩
def mX8_decide : ZY := (yX8_decide, cX8_decide, 3, (some .int))
theorem yy_X8_decide : zz_YV mX8_decide 1 := ⟨⟨zz_in (i := 56) (by decide +kernel) rfl, zz_in (i := 882) (by decide +kernel) rfl, ⟨by decide +kernel, by decide +kernel, by decide +kernel⟩, by decide⟩, zz_in (i := 880) (by decide +kernel) rfl, zz_in (i := 881) (by decide +kernel) rfl⟩
def mX8_decideNow : ZY := (yX8_decideNow, cX8_decideNow, 3, (some .int))
theorem yy_X8_decideNow : zz_YV mX8_decideNow 1 := ⟨⟨zz_in (i := 56) (by decide +kernel) rfl, zz_in (i := 899) (by decide +kernel) rfl, ⟨by decide +kernel, by decide +kernel, by decide +kernel⟩, by decide⟩, zz_in (i := 898) (by decide +kernel) rfl, zz_in (i := 18) (by decide +kernel) rfl⟩
def mX8_declinationOf : ZY := (yX8_declinationOf, cX8_declinationOf, 3, (some .int))
theorem yy_X8_declinationOf : zz_YV mX8_declinationOf 1 := ⟨⟨zz_in (i := 56) (by decide +kernel) rfl, zz_in (i := 911) (by decide +kernel) rfl, ⟨by decide +kernel, by decide +kernel, by decide +kernel⟩, by decide⟩, zz_in (i := 910) (by decide +kernel) rfl, zz_in (i := 21) (by decide +kernel) rfl⟩
def mX8_declinationOfWall : ZY := (yX8_declinationOfWall, cX8_declinationOfWall, 3, (some .int))
theorem yy_X8_declinationOfWall : zz_YV mX8_declinationOfWall 1 := ⟨⟨zz_in (i := 56) (by decide +kernel) rfl, zz_in (i := 855) (by decide +kernel) rfl, ⟨by decide +kernel, by decide +kernel, by decide +kernel⟩, by decide⟩, zz_in (i := 854) (by decide +kernel) rfl, zz_in (i := 11) (by decide +kernel) rfl⟩
def mX8_deliver : ZY := (yX8_deliver, cX8_deliver, 3, (some .int))
theorem yy_X8_deliver : zz_YV mX8_deliver 1 := ⟨⟨zz_in (i := 56) (by decide +kernel) rfl, zz_in (i := 987) (by decide +kernel) rfl, ⟨by decide +kernel, by decide +kernel, by decide +kernel⟩, by decide⟩, zz_in (i := 985) (by decide +kernel) rfl, zz_in (i := 986) (by decide +kernel) rfl⟩
def mX8_deliverNow : ZY := (yX8_deliverNow, cX8_deliverNow, 2, (some .int))
theorem yy_X8_deliverNow : zz_YV mX8_deliverNow 1 := ⟨⟨zz_in (i := 56) (by decide +kernel) rfl, zz_in (i := 991) (by decide +kernel) rfl, ⟨by decide +kernel, by decide +kernel, by decide +kernel⟩, by decide⟩, zz_in (i := 990) (by decide +kernel) rfl, zz_in (i := 33) (by decide +kernel) rfl⟩
def mX8_fail : ZY := (yX8_fail, cX8_fail, 2, none)
theorem yy_X8_fail : zz_YV mX8_fail 1 := ⟨⟨zz_in (i := 56) (by decide +kernel) rfl, zz_in (i := 1055) (by decide +kernel) rfl, ⟨by decide +kernel, by decide +kernel, by decide +kernel⟩, by decide⟩, zz_in (i := 1054) (by decide +kernel) rfl, zz_in (i := 40) (by decide +kernel) rfl⟩
def mX8_frontOf : ZY := (yX8_frontOf, cX8_frontOf, 4, (some .long))
theorem yy_X8_frontOf : zz_YS mX8_frontOf 4 := ⟨⟨zz_in (i := 56) (by decide +kernel) rfl, zz_in (i := 918) (by decide +kernel) rfl, ⟨by decide +kernel, by decide +kernel, by decide +kernel⟩, by decide⟩, zz_in (i := 917) (by decide +kernel) rfl⟩
def mX8_has : ZY := (yX8_has, cX8_has, 2, (some .boolean))
theorem yy_X8_has : zz_YV mX8_has 1 := ⟨⟨zz_in (i := 56) (by decide +kernel) rfl, zz_in (i := 941) (by decide +kernel) rfl, ⟨by decide +kernel, by decide +kernel, by decide +kernel⟩, by decide⟩, zz_in (i := 940) (by decide +kernel) rfl, zz_in (i := 24) (by decide +kernel) rfl⟩
def mX8_hourLines : ZY := (yX8_hourLines, cX8_hourLines, 3, (some .int))
theorem yy_X8_hourLines : zz_YV mX8_hourLines 0 := ⟨⟨zz_in (i := 56) (by decide +kernel) rfl, zz_in (i := 937) (by decide +kernel) rfl, ⟨by decide +kernel, by decide +kernel, by decide +kernel⟩, by decide⟩, zz_in (i := 936) (by decide +kernel) rfl, zz_in (i := 23) (by decide +kernel) rfl⟩
def mX8_in : ZY := (yX8_in, cX8_in, 3, (some .boolean))
theorem yy_X8_in : zz_YS mX8_in 3 := ⟨⟨zz_in (i := 56) (by decide +kernel) rfl, zz_in (i := 806) (by decide +kernel) rfl, ⟨by decide +kernel, by decide +kernel, by decide +kernel⟩, by decide⟩, zz_in (i := 805) (by decide +kernel) rfl⟩
def mX8_inState : ZY := (yX8_inState, cX8_inState, 4, (some .int))
theorem yy_X8_inState : zz_YV mX8_inState 1 := ⟨⟨zz_in (i := 56) (by decide +kernel) rfl, zz_in (i := 995) (by decide +kernel) rfl, ⟨by decide +kernel, by decide +kernel, by decide +kernel⟩, by decide⟩, zz_in (i := 994) (by decide +kernel) rfl, zz_in (i := 34) (by decide +kernel) rfl⟩
def mX8_init : ZY := (yX8_init, cX8_init, 1, none)
theorem yy_X8_init : zz_YI mX8_init 0 := ⟨⟨zz_in (i := 56) (by decide +kernel) rfl, zz_in (i := 752) (by decide +kernel) rfl, ⟨by decide +kernel, by decide +kernel, by decide +kernel⟩, by decide⟩, zz_in (i := 751) (by decide +kernel) rfl, rfl, rfl⟩
def mX8_isBit : ZY := (yX8_isBit, cX8_isBit, 1, (some .boolean))
theorem yy_X8_isBit : zz_YS mX8_isBit 1 := ⟨⟨zz_in (i := 56) (by decide +kernel) rfl, zz_in (i := 1002) (by decide +kernel) rfl, ⟨by decide +kernel, by decide +kernel, by decide +kernel⟩, by decide⟩, zz_in (i := 1001) (by decide +kernel) rfl⟩
def mX8_isCommission : ZY := (yX8_isCommission, cX8_isCommission, 2, (some .boolean))
theorem yy_X8_isCommission : zz_YV mX8_isCommission 1 := ⟨⟨zz_in (i := 56) (by decide +kernel) rfl, zz_in (i := 890) (by decide +kernel) rfl, ⟨by decide +kernel, by decide +kernel, by decide +kernel⟩, by decide⟩, zz_in (i := 889) (by decide +kernel) rfl, zz_in (i := 16) (by decide +kernel) rfl⟩
def mX8_isWall : ZY := (yX8_isWall, cX8_isWall, 2, (some .boolean))
theorem yy_X8_isWall : zz_YV mX8_isWall 1 := ⟨⟨zz_in (i := 56) (by decide +kernel) rfl, zz_in (i := 847) (by decide +kernel) rfl, ⟨by decide +kernel, by decide +kernel, by decide +kernel⟩, by decide⟩, zz_in (i := 846) (by decide +kernel) rfl, zz_in (i := 9) (by decide +kernel) rfl⟩
def mX8_isWord : ZY := (yX8_isWord, cX8_isWord, 4, (some .boolean))
theorem yy_X8_isWord : zz_YV mX8_isWord 1 := ⟨⟨zz_in (i := 56) (by decide +kernel) rfl, zz_in (i := 1045) (by decide +kernel) rfl, ⟨by decide +kernel, by decide +kernel, by decide +kernel⟩, by decide⟩, zz_in (i := 1044) (by decide +kernel) rfl, zz_in (i := 39) (by decide +kernel) rfl⟩
def mX8_knownWalls : ZY := (yX8_knownWalls, cX8_knownWalls, 3, (some .int))
theorem yy_X8_knownWalls : zz_YV mX8_knownWalls 0 := ⟨⟨zz_in (i := 56) (by decide +kernel) rfl, zz_in (i := 1078) (by decide +kernel) rfl, ⟨by decide +kernel, by decide +kernel, by decide +kernel⟩, by decide⟩, zz_in (i := 1077) (by decide +kernel) rfl, zz_in (i := 44) (by decide +kernel) rfl⟩
def mX8_leastOf : ZY := (yX8_leastOf, cX8_leastOf, 1, (some .int))
theorem yy_X8_leastOf : zz_YS mX8_leastOf 1 := ⟨⟨zz_in (i := 56) (by decide +kernel) rfl, zz_in (i := 818) (by decide +kernel) rfl, ⟨by decide +kernel, by decide +kernel, by decide +kernel⟩, by decide⟩, zz_in (i := 817) (by decide +kernel) rfl⟩
def mX8_letterOf : ZY := (yX8_letterOf, cX8_letterOf, 2, (some .int))
theorem yy_X8_letterOf : zz_YS mX8_letterOf 2 := ⟨⟨zz_in (i := 56) (by decide +kernel) rfl, zz_in (i := 1048) (by decide +kernel) rfl, ⟨by decide +kernel, by decide +kernel, by decide +kernel⟩, by decide⟩, zz_in (i := 1047) (by decide +kernel) rfl⟩
def mX8_lines : ZY := (yX8_lines, cX8_lines, 6, (some .int))
theorem yy_X8_lines : zz_YV mX8_lines 2 := ⟨⟨zz_in (i := 56) (by decide +kernel) rfl, zz_in (i := 1106) (by decide +kernel) rfl, ⟨by decide +kernel, by decide +kernel, by decide +kernel⟩, by decide⟩, zz_in (i := 1104) (by decide +kernel) rfl, zz_in (i := 1105) (by decide +kernel) rfl⟩
def mX8_measure : ZY := (yX8_measure, cX8_measure, 4, (some .int))
theorem yy_X8_measure : zz_YV mX8_measure 2 := ⟨⟨zz_in (i := 56) (by decide +kernel) rfl, zz_in (i := 839) (by decide +kernel) rfl, ⟨by decide +kernel, by decide +kernel, by decide +kernel⟩, by decide⟩, zz_in (i := 837) (by decide +kernel) rfl, zz_in (i := 838) (by decide +kernel) rfl⟩
def mX8_measureCode : ZY := (yX8_measureCode, cX8_measureCode, 3, (some .int))
theorem yy_X8_measureCode : zz_YV mX8_measureCode 2 := ⟨⟨zz_in (i := 56) (by decide +kernel) rfl, zz_in (i := 843) (by decide +kernel) rfl, ⟨by decide +kernel, by decide +kernel, by decide +kernel⟩, by decide⟩, zz_in (i := 842) (by decide +kernel) rfl, zz_in (i := 8) (by decide +kernel) rfl⟩
def mX8_measureNow : ZY := (yX8_measureNow, cX8_measureNow, 4, (some .int))
theorem yy_X8_measureNow : zz_YV mX8_measureNow 2 := ⟨⟨zz_in (i := 56) (by decide +kernel) rfl, zz_in (i := 851) (by decide +kernel) rfl, ⟨by decide +kernel, by decide +kernel, by decide +kernel⟩, by decide⟩, zz_in (i := 850) (by decide +kernel) rfl, zz_in (i := 10) (by decide +kernel) rfl⟩
def mX8_melt : ZY := (yX8_melt, cX8_melt, 4, (some .int))
theorem yy_X8_melt : zz_YV mX8_melt 0 := ⟨⟨zz_in (i := 56) (by decide +kernel) rfl, zz_in (i := 979) (by decide +kernel) rfl, ⟨by decide +kernel, by decide +kernel, by decide +kernel⟩, by decide⟩, zz_in (i := 978) (by decide +kernel) rfl, zz_in (i := 31) (by decide +kernel) rfl⟩
def mX8_melts : ZY := (yX8_melts, cX8_melts, 4, (some .int))
theorem yy_X8_melts : zz_YV mX8_melts 0 := ⟨⟨zz_in (i := 56) (by decide +kernel) rfl, zz_in (i := 1130) (by decide +kernel) rfl, ⟨by decide +kernel, by decide +kernel, by decide +kernel⟩, by decide⟩, zz_in (i := 1128) (by decide +kernel) rfl, zz_in (i := 1129) (by decide +kernel) rfl⟩
def mX8_mostOf : ZY := (yX8_mostOf, cX8_mostOf, 1, (some .int))
theorem yy_X8_mostOf : zz_YS mX8_mostOf 1 := ⟨⟨zz_in (i := 56) (by decide +kernel) rfl, zz_in (i := 821) (by decide +kernel) rfl, ⟨by decide +kernel, by decide +kernel, by decide +kernel⟩, by decide⟩, zz_in (i := 820) (by decide +kernel) rfl⟩
def mX8_next : ZY := (yX8_next, cX8_next, 1, none)
theorem yy_X8_next : zz_YV mX8_next 0 := ⟨⟨zz_in (i := 56) (by decide +kernel) rfl, zz_in (i := 1029) (by decide +kernel) rfl, ⟨by decide +kernel, by decide +kernel, by decide +kernel⟩, by decide⟩, zz_in (i := 1028) (by decide +kernel) rfl, zz_in (i := 35) (by decide +kernel) rfl⟩
def mX8_numbersOf : ZY := (yX8_numbersOf, cX8_numbersOf, 1, (some .int))
theorem yy_X8_numbersOf : zz_YS mX8_numbersOf 1 := ⟨⟨zz_in (i := 56) (by decide +kernel) rfl, zz_in (i := 1058) (by decide +kernel) rfl, ⟨by decide +kernel, by decide +kernel, by decide +kernel⟩, by decide⟩, zz_in (i := 1057) (by decide +kernel) rfl⟩
def mX8_of : ZY := (yX8_of, cX8_of, 3, (some .int))
theorem yy_X8_of : zz_YV mX8_of 2 := ⟨⟨zz_in (i := 56) (by decide +kernel) rfl, zz_in (i := 894) (by decide +kernel) rfl, ⟨by decide +kernel, by decide +kernel, by decide +kernel⟩, by decide⟩, zz_in (i := 893) (by decide +kernel) rfl, zz_in (i := 17) (by decide +kernel) rfl⟩
def mX8_off : ZY := (yX8_off, cX8_off, 2, (some .int))
theorem yy_X8_off : zz_YV mX8_off 1 := ⟨⟨zz_in (i := 56) (by decide +kernel) rfl, zz_in (i := 949) (by decide +kernel) rfl, ⟨by decide +kernel, by decide +kernel, by decide +kernel⟩, by decide⟩, zz_in (i := 948) (by decide +kernel) rfl, zz_in (i := 26) (by decide +kernel) rfl⟩
def mX8_offset : ZY := (yX8_offset, cX8_offset, 3, (some .int))
theorem yy_X8_offset : zz_YV mX8_offset 2 := ⟨⟨zz_in (i := 56) (by decide +kernel) rfl, zz_in (i := 1102) (by decide +kernel) rfl, ⟨by decide +kernel, by decide +kernel, by decide +kernel⟩, by decide⟩, zz_in (i := 1100) (by decide +kernel) rfl, zz_in (i := 1101) (by decide +kernel) rfl⟩
def mX8_put : ZY := (yX8_put, cX8_put, 4, none)
theorem yy_X8_put : zz_YV mX8_put 3 := ⟨⟨zz_in (i := 56) (by decide +kernel) rfl, zz_in (i := 878) (by decide +kernel) rfl, ⟨by decide +kernel, by decide +kernel, by decide +kernel⟩, by decide⟩, zz_in (i := 877) (by decide +kernel) rfl, zz_in (i := 14) (by decide +kernel) rfl⟩
def mX8_read : ZY := (yX8_read, cX8_read, 6, (some .int))
theorem yy_X8_read : zz_YV mX8_read 4 := ⟨⟨zz_in (i := 56) (by decide +kernel) rfl, zz_in (i := 1110) (by decide +kernel) rfl, ⟨by decide +kernel, by decide +kernel, by decide +kernel⟩, by decide⟩, zz_in (i := 1108) (by decide +kernel) rfl, zz_in (i := 1109) (by decide +kernel) rfl⟩
def mX8_readNumber : ZY := (yX8_readNumber, cX8_readNumber, 6, none)
theorem yy_X8_readNumber : zz_YV mX8_readNumber 2 := ⟨⟨zz_in (i := 56) (by decide +kernel) rfl, zz_in (i := 1062) (by decide +kernel) rfl, ⟨by decide +kernel, by decide +kernel, by decide +kernel⟩, by decide⟩, zz_in (i := 1061) (by decide +kernel) rfl, zz_in (i := 41) (by decide +kernel) rfl⟩
def mX8_reason : ZY := (yX8_reason, cX8_reason, 2, (some .int))
theorem yy_X8_reason : zz_YV mX8_reason 1 := ⟨⟨zz_in (i := 56) (by decide +kernel) rfl, zz_in (i := 1122) (by decide +kernel) rfl, ⟨by decide +kernel, by decide +kernel, by decide +kernel⟩, by decide⟩, zz_in (i := 1120) (by decide +kernel) rfl, zz_in (i := 1121) (by decide +kernel) rfl⟩
def mX8_reasonFor : ZY := (yX8_reasonFor, cX8_reasonFor, 2, (some .int))
theorem yy_X8_reasonFor : zz_YV mX8_reasonFor 1 := ⟨⟨zz_in (i := 56) (by decide +kernel) rfl, zz_in (i := 903) (by decide +kernel) rfl, ⟨by decide +kernel, by decide +kernel, by decide +kernel⟩, by decide⟩, zz_in (i := 902) (by decide +kernel) rfl, zz_in (i := 19) (by decide +kernel) rfl⟩
def mX8_reckon : ZY := (yX8_reckon, cX8_reckon, 12, none)
theorem yy_X8_reckon : zz_YV mX8_reckon 3 := ⟨⟨zz_in (i := 56) (by decide +kernel) rfl, zz_in (i := 915) (by decide +kernel) rfl, ⟨by decide +kernel, by decide +kernel, by decide +kernel⟩, by decide⟩, zz_in (i := 914) (by decide +kernel) rfl, zz_in (i := 22) (by decide +kernel) rfl⟩
def mX8_restore : ZY := (yX8_restore, cX8_restore, 3, (some .int))
theorem yy_X8_restore : zz_YV mX8_restore 1 := ⟨⟨zz_in (i := 56) (by decide +kernel) rfl, zz_in (i := 1009) (by decide +kernel) rfl, ⟨by decide +kernel, by decide +kernel, by decide +kernel⟩, by decide⟩, zz_in (i := 1007) (by decide +kernel) rfl, zz_in (i := 1008) (by decide +kernel) rfl⟩
def mX8_rounded : ZY := (yX8_rounded, cX8_rounded, 10, (some .long))
theorem yy_X8_rounded : zz_YS mX8_rounded 2 := ⟨⟨zz_in (i := 56) (by decide +kernel) rfl, zz_in (i := 862) (by decide +kernel) rfl, ⟨by decide +kernel, by decide +kernel, by decide +kernel⟩, by decide⟩, zz_in (i := 861) (by decide +kernel) rfl⟩
def mX8_run : ZY := (yX8_run, cX8_run, 4, (some .int))
theorem yy_X8_run : zz_YV mX8_run 0 := ⟨⟨zz_in (i := 56) (by decide +kernel) rfl, zz_in (i := 1025) (by decide +kernel) rfl, ⟨by decide +kernel, by decide +kernel, by decide +kernel⟩, by decide⟩, zz_in (i := 1023) (by decide +kernel) rfl, zz_in (i := 1024) (by decide +kernel) rfl⟩
def mX8_set : ZY := (yX8_set, cX8_set, 4, (some .int))
theorem yy_X8_set : zz_YV mX8_set 2 := ⟨⟨zz_in (i := 56) (by decide +kernel) rfl, zz_in (i := 815) (by decide +kernel) rfl, ⟨by decide +kernel, by decide +kernel, by decide +kernel⟩, by decide⟩, zz_in (i := 813) (by decide +kernel) rfl, zz_in (i := 814) (by decide +kernel) rfl⟩
def mX8_setCorrection : ZY := (yX8_setCorrection, cX8_setCorrection, 4, (some .int))
theorem yy_X8_setCorrection : zz_YV mX8_setCorrection 2 := ⟨⟨zz_in (i := 56) (by decide +kernel) rfl, zz_in (i := 803) (by decide +kernel) rfl, ⟨by decide +kernel, by decide +kernel, by decide +kernel⟩, by decide⟩, zz_in (i := 801) (by decide +kernel) rfl, zz_in (i := 802) (by decide +kernel) rfl⟩
def mX8_sideOf : ZY := (yX8_sideOf, cX8_sideOf, 3, (some .long))
theorem yy_X8_sideOf : zz_YS mX8_sideOf 3 := ⟨⟨zz_in (i := 56) (by decide +kernel) rfl, zz_in (i := 931) (by decide +kernel) rfl, ⟨by decide +kernel, by decide +kernel, by decide +kernel⟩, by decide⟩, zz_in (i := 930) (by decide +kernel) rfl⟩
def mX8_sine : ZY := (yX8_sine, cX8_sine, 2, (some .int))
theorem yy_X8_sine : zz_YV mX8_sine 1 := ⟨⟨zz_in (i := 56) (by decide +kernel) rfl, zz_in (i := 1098) (by decide +kernel) rfl, ⟨by decide +kernel, by decide +kernel, by decide +kernel⟩, by decide⟩, zz_in (i := 1096) (by decide +kernel) rfl, zz_in (i := 1097) (by decide +kernel) rfl⟩
def mX8_sineOf : ZY := (yX8_sineOf, cX8_sineOf, 6, (some .long))
theorem yy_X8_sineOf : zz_YS mX8_sineOf 1 := ⟨⟨zz_in (i := 56) (by decide +kernel) rfl, zz_in (i := 925) (by decide +kernel) rfl, ⟨by decide +kernel, by decide +kernel, by decide +kernel⟩, by decide⟩, zz_in (i := 924) (by decide +kernel) rfl⟩
def mX8_size : ZY := (yX8_size, cX8_size, 1, (some .int))
theorem yy_X8_size : zz_YS mX8_size 1 := ⟨⟨zz_in (i := 56) (by decide +kernel) rfl, zz_in (i := 858) (by decide +kernel) rfl, ⟨by decide +kernel, by decide +kernel, by decide +kernel⟩, by decide⟩, zz_in (i := 857) (by decide +kernel) rfl⟩
def mX8_slotAt : ZY := (yX8_slotAt, cX8_slotAt, 1, (some .int))
theorem yy_X8_slotAt : zz_YS mX8_slotAt 1 := ⟨⟨zz_in (i := 56) (by decide +kernel) rfl, zz_in (i := 1005) (by decide +kernel) rfl, ⟨by decide +kernel, by decide +kernel, by decide +kernel⟩, by decide⟩, zz_in (i := 1004) (by decide +kernel) rfl⟩
def mX8_spelled : ZY := (yX8_spelled, cX8_spelled, 7, (some .int))
theorem yy_X8_spelled : zz_YS mX8_spelled 7 := ⟨⟨zz_in (i := 56) (by decide +kernel) rfl, zz_in (i := 1051) (by decide +kernel) rfl, ⟨by decide +kernel, by decide +kernel, by decide +kernel⟩, by decide⟩, zz_in (i := 1050) (by decide +kernel) rfl⟩
def mX8_stateCode : ZY := (yX8_stateCode, cX8_stateCode, 3, (some .int))
theorem yy_X8_stateCode : zz_YV mX8_stateCode 2 := ⟨⟨zz_in (i := 56) (by decide +kernel) rfl, zz_in (i := 886) (by decide +kernel) rfl, ⟨by decide +kernel, by decide +kernel, by decide +kernel⟩, by decide⟩, zz_in (i := 885) (by decide +kernel) rfl, zz_in (i := 15) (by decide +kernel) rfl⟩
def mX8_take : ZY := (yX8_take, cX8_take, 3, (some .int))
theorem yy_X8_take : zz_YV mX8_take 1 := ⟨⟨zz_in (i := 56) (by decide +kernel) rfl, zz_in (i := 999) (by decide +kernel) rfl, ⟨by decide +kernel, by decide +kernel, by decide +kernel⟩, by decide⟩, zz_in (i := 997) (by decide +kernel) rfl, zz_in (i := 998) (by decide +kernel) rfl⟩
def mX8_takeDial : ZY := (yX8_takeDial, cX8_takeDial, 3, (some .boolean))
theorem yy_X8_takeDial : zz_YV mX8_takeDial 1 := ⟨⟨zz_in (i := 56) (by decide +kernel) rfl, zz_in (i := 907) (by decide +kernel) rfl, ⟨by decide +kernel, by decide +kernel, by decide +kernel⟩, by decide⟩, zz_in (i := 906) (by decide +kernel) rfl, zz_in (i := 20) (by decide +kernel) rfl⟩
def mX8_takeStates : ZY := (yX8_takeStates, cX8_takeStates, 2, none)
theorem yy_X8_takeStates : zz_YV mX8_takeStates 0 := ⟨⟨zz_in (i := 56) (by decide +kernel) rfl, zz_in (i := 975) (by decide +kernel) rfl, ⟨by decide +kernel, by decide +kernel, by decide +kernel⟩, by decide⟩, zz_in (i := 974) (by decide +kernel) rfl, zz_in (i := 30) (by decide +kernel) rfl⟩
def mX8_undo : ZY := (yX8_undo, cX8_undo, 2, (some .int))
theorem yy_X8_undo : zz_YV mX8_undo 0 := ⟨⟨zz_in (i := 56) (by decide +kernel) rfl, zz_in (i := 1013) (by decide +kernel) rfl, ⟨by decide +kernel, by decide +kernel, by decide +kernel⟩, by decide⟩, zz_in (i := 1011) (by decide +kernel) rfl, zz_in (i := 1012) (by decide +kernel) rfl⟩
def mX8_wall : ZY := (yX8_wall, cX8_wall, 3, (some .int))
theorem yy_X8_wall : zz_YV mX8_wall 2 := ⟨⟨zz_in (i := 56) (by decide +kernel) rfl, zz_in (i := 1082) (by decide +kernel) rfl, ⟨by decide +kernel, by decide +kernel, by decide +kernel⟩, by decide⟩, zz_in (i := 1080) (by decide +kernel) rfl, zz_in (i := 1081) (by decide +kernel) rfl⟩
def mX8_wallCode : ZY := (yX8_wallCode, cX8_wallCode, 1, (some .int))
theorem yy_X8_wallCode : zz_YV mX8_wallCode 0 := ⟨⟨zz_in (i := 56) (by decide +kernel) rfl, zz_in (i := 829) (by decide +kernel) rfl, ⟨by decide +kernel, by decide +kernel, by decide +kernel⟩, by decide⟩, zz_in (i := 828) (by decide +kernel) rfl, zz_in (i := 6) (by decide +kernel) rfl⟩
def mX8_wallNow : ZY := (yX8_wallNow, cX8_wallNow, 2, (some .int))
theorem yy_X8_wallNow : zz_YV mX8_wallNow 0 := ⟨⟨zz_in (i := 56) (by decide +kernel) rfl, zz_in (i := 834) (by decide +kernel) rfl, ⟨by decide +kernel, by decide +kernel, by decide +kernel⟩, by decide⟩, zz_in (i := 833) (by decide +kernel) rfl, zz_in (i := 7) (by decide +kernel) rfl⟩
def mX8_weightOf : ZY := (yX8_weightOf, cX8_weightOf, 2, (some .int))
theorem yy_X8_weightOf : zz_YV mX8_weightOf 1 := ⟨⟨zz_in (i := 56) (by decide +kernel) rfl, zz_in (i := 958) (by decide +kernel) rfl, ⟨by decide +kernel, by decide +kernel, by decide +kernel⟩, by decide⟩, zz_in (i := 957) (by decide +kernel) rfl, zz_in (i := 28) (by decide +kernel) rfl⟩
def mX8_wordHere : ZY := (yX8_wordHere, cX8_wordHere, 2, (some .int))
theorem yy_X8_wordHere : zz_YV mX8_wordHere 0 := ⟨⟨zz_in (i := 56) (by decide +kernel) rfl, zz_in (i := 1041) (by decide +kernel) rfl, ⟨by decide +kernel, by decide +kernel, by decide +kernel⟩, by decide⟩, zz_in (i := 1040) (by decide +kernel) rfl, zz_in (i := 38) (by decide +kernel) rfl⟩
theorem lJ0_335 : Cond.methodLink RJ0 335 yJ0_coder_7d493 ∈ zz_t := zz_in (i := 602) (by decide +kernel) rfl
theorem lJ0_492 : Cond.methodLink RJ0 492 yJ0_isLatin1_aae02 ∈ zz_t := zz_in (i := 612) (by decide +kernel) rfl
theorem lJ0_495 : Cond.methodLink RJ0 495 yJ1_charAt_3b067 ∈ zz_t := zz_in (i := 616) (by decide +kernel) rfl
theorem lJ0_498 : Cond.methodLink RJ0 498 yJ2_charAt_3b067 ∈ zz_t := zz_in (i := 627) (by decide +kernel) rfl
theorem lJ0_1059 : Cond.methodLink RJ0 1059 yJ3_checkIndex_8e157 ∈ zz_t := zz_in (i := 624) (by decide +kernel) rfl
theorem lJ1_9 : Cond.methodLink RJ1 9 yJ0_checkIndex_df160 ∈ zz_t := zz_in (i := 619) (by decide +kernel) rfl
theorem lJ2_48 : Cond.methodLink RJ2 48 yJ2_length_9d52b ∈ zz_t := zz_in (i := 633) (by decide +kernel) rfl
theorem lJ2_67 : Cond.methodLink RJ2 67 yJ2_checkIndex_2214a ∈ zz_t := zz_in (i := 630) (by decide +kernel) rfl
theorem lJ2_71 : Cond.methodLink RJ2 71 yJ2_getChar_3b067 ∈ zz_t := zz_in (i := 637) (by decide +kernel) rfl
theorem lJ2_414 : Cond.methodLink RJ2 414 yJ0_checkIndex_df160 ∈ zz_t := zz_in (i := 636) (by decide +kernel) rfl
theorem lL_9 : Cond.methodLink RL 9 yX7_init ∈ zz_t := zz_in (i := 66) (by decide +kernel) rfl
theorem lL_12 : Cond.methodLink RL 12 yX8_init ∈ zz_t := zz_in (i := 750) (by decide +kernel) rfl
theorem lL_13 : Cond.methodLink RL 13 yX7_setCorrection ∈ zz_t := zz_in (i := 280) (by decide +kernel) rfl
theorem lL_17 : Cond.methodLink RL 17 yX8_setCorrection ∈ zz_t := zz_in (i := 800) (by decide +kernel) rfl
theorem lL_18 : Cond.methodLink RL 18 yX7_set ∈ zz_t := zz_in (i := 332) (by decide +kernel) rfl
theorem lL_21 : Cond.methodLink RL 21 yX8_set ∈ zz_t := zz_in (i := 812) (by decide +kernel) rfl
theorem lL_22 : Cond.methodLink RL 22 yX7_addWall ∈ zz_t := zz_in (i := 344) (by decide +kernel) rfl
theorem lL_26 : Cond.methodLink RL 26 yX8_addWall ∈ zz_t := zz_in (i := 822) (by decide +kernel) rfl
theorem lL_27 : Cond.methodLink RL 27 yX7_measure ∈ zz_t := zz_in (i := 354) (by decide +kernel) rfl
theorem lL_30 : Cond.methodLink RL 30 yX8_measure ∈ zz_t := zz_in (i := 836) (by decide +kernel) rfl
theorem lL_31 : Cond.methodLink RL 31 yX7_ask ∈ zz_t := zz_in (i := 373) (by decide +kernel) rfl
theorem lL_35 : Cond.methodLink RL 35 yX8_ask ∈ zz_t := zz_in (i := 863) (by decide +kernel) rfl
theorem lL_36 : Cond.methodLink RL 36 yX7_decide ∈ zz_t := zz_in (i := 381) (by decide +kernel) rfl
theorem lL_40 : Cond.methodLink RL 40 yX8_decide ∈ zz_t := zz_in (i := 879) (by decide +kernel) rfl
theorem lL_41 : Cond.methodLink RL 41 yX7_askAgain ∈ zz_t := zz_in (i := 467) (by decide +kernel) rfl
theorem lL_44 : Cond.methodLink RL 44 yX8_askAgain ∈ zz_t := zz_in (i := 960) (by decide +kernel) rfl
theorem lL_45 : Cond.methodLink RL 45 yX7_cast ∈ zz_t := zz_in (i := 475) (by decide +kernel) rfl
theorem lL_48 : Cond.methodLink RL 48 yX8_cast ∈ zz_t := zz_in (i := 964) (by decide +kernel) rfl
theorem lL_49 : Cond.methodLink RL 49 yX7_deliver ∈ zz_t := zz_in (i := 498) (by decide +kernel) rfl
theorem lL_52 : Cond.methodLink RL 52 yX8_deliver ∈ zz_t := zz_in (i := 984) (by decide +kernel) rfl
theorem lL_53 : Cond.methodLink RL 53 yX7_take ∈ zz_t := zz_in (i := 510) (by decide +kernel) rfl
theorem lL_56 : Cond.methodLink RL 56 yX8_take ∈ zz_t := zz_in (i := 996) (by decide +kernel) rfl
theorem lL_57 : Cond.methodLink RL 57 yX7_restore ∈ zz_t := zz_in (i := 520) (by decide +kernel) rfl
theorem lL_60 : Cond.methodLink RL 60 yX8_restore ∈ zz_t := zz_in (i := 1006) (by decide +kernel) rfl
theorem lL_61 : Cond.methodLink RL 61 yX7_undo ∈ zz_t := zz_in (i := 529) (by decide +kernel) rfl
theorem lL_64 : Cond.methodLink RL 64 yX8_undo ∈ zz_t := zz_in (i := 1010) (by decide +kernel) rfl
theorem lL_65 : Cond.methodLink RL 65 yX7_append ∈ zz_t := zz_in (i := 541) (by decide +kernel) rfl
theorem lL_68 : Cond.methodLink RL 68 yX8_append ∈ zz_t := zz_in (i := 1014) (by decide +kernel) rfl
theorem lL_69 : Cond.methodLink RL 69 yX7_clearText ∈ zz_t := zz_in (i := 552) (by decide +kernel) rfl
theorem lL_72 : Cond.methodLink RL 72 yX8_clearText ∈ zz_t := zz_in (i := 1018) (by decide +kernel) rfl
theorem lL_73 : Cond.methodLink RL 73 yX7_run ∈ zz_t := zz_in (i := 560) (by decide +kernel) rfl
theorem lL_76 : Cond.methodLink RL 76 yX8_run ∈ zz_t := zz_in (i := 1022) (by decide +kernel) rfl
theorem lL_77 : Cond.methodLink RL 77 yX7_count ∈ zz_t := zz_in (i := 665) (by decide +kernel) rfl
theorem lL_80 : Cond.methodLink RL 80 yX8_count ∈ zz_t := zz_in (i := 1071) (by decide +kernel) rfl
theorem lL_81 : Cond.methodLink RL 81 yX7_wall ∈ zz_t := zz_in (i := 678) (by decide +kernel) rfl
theorem lL_84 : Cond.methodLink RL 84 yX8_wall ∈ zz_t := zz_in (i := 1079) (by decide +kernel) rfl
theorem lL_85 : Cond.methodLink RL 85 yX7_commission ∈ zz_t := zz_in (i := 688) (by decide +kernel) rfl
theorem lL_88 : Cond.methodLink RL 88 yX8_commission ∈ zz_t := zz_in (i := 1087) (by decide +kernel) rfl
theorem lL_89 : Cond.methodLink RL 89 yX7_correction ∈ zz_t := zz_in (i := 692) (by decide +kernel) rfl
theorem lL_92 : Cond.methodLink RL 92 yX8_correction ∈ zz_t := zz_in (i := 1091) (by decide +kernel) rfl
theorem lL_93 : Cond.methodLink RL 93 yX7_sine ∈ zz_t := zz_in (i := 697) (by decide +kernel) rfl
theorem lL_96 : Cond.methodLink RL 96 yX8_sine ∈ zz_t := zz_in (i := 1095) (by decide +kernel) rfl
theorem lL_97 : Cond.methodLink RL 97 yX7_offset ∈ zz_t := zz_in (i := 702) (by decide +kernel) rfl
theorem lL_100 : Cond.methodLink RL 100 yX8_offset ∈ zz_t := zz_in (i := 1099) (by decide +kernel) rfl
theorem lL_101 : Cond.methodLink RL 101 yX7_lines ∈ zz_t := zz_in (i := 707) (by decide +kernel) rfl
theorem lL_104 : Cond.methodLink RL 104 yX8_lines ∈ zz_t := zz_in (i := 1103) (by decide +kernel) rfl
theorem lL_105 : Cond.methodLink RL 105 yX7_read ∈ zz_t := zz_in (i := 719) (by decide +kernel) rfl
theorem lL_108 : Cond.methodLink RL 108 yX8_read ∈ zz_t := zz_in (i := 1107) (by decide +kernel) rfl
theorem lL_109 : Cond.methodLink RL 109 yX7_apart ∈ zz_t := zz_in (i := 728) (by decide +kernel) rfl
theorem lL_112 : Cond.methodLink RL 112 yX8_apart ∈ zz_t := zz_in (i := 1115) (by decide +kernel) rfl
theorem lL_113 : Cond.methodLink RL 113 yX7_reason ∈ zz_t := zz_in (i := 732) (by decide +kernel) rfl
theorem lL_116 : Cond.methodLink RL 116 yX8_reason ∈ zz_t := zz_in (i := 1119) (by decide +kernel) rfl
theorem lL_117 : Cond.methodLink RL 117 yX7_bestLatitude ∈ zz_t := zz_in (i := 736) (by decide +kernel) rfl
theorem lL_120 : Cond.methodLink RL 120 yX8_bestLatitude ∈ zz_t := zz_in (i := 1123) (by decide +kernel) rfl
theorem lL_121 : Cond.methodLink RL 121 yX7_melts ∈ zz_t := zz_in (i := 740) (by decide +kernel) rfl
theorem lL_124 : Cond.methodLink RL 124 yX8_melts ∈ zz_t := zz_in (i := 1127) (by decide +kernel) rfl
theorem lX0_3 : Cond.methodLink RX0 3 objectInit ∈ zz_t := zz_in (i := 110) (by decide +kernel) rfl
theorem lX0_38 : Cond.methodLinkNest RX0 38 yX7_rounded "SundialWorks" ∈ zz_nw := zz_inN (i := 460) (by decide +kernel) rfl
theorem lX1_3 : Cond.methodLink RX1 3 objectInit ∈ zz_t := zz_in (i := 251) (by decide +kernel) rfl
theorem lX1_15 : Cond.methodLinkNest RX1 15 yX7_sineOf "SundialWorks" ∈ zz_nw := zz_inN (i := 420) (by decide +kernel) rfl
theorem lX1_21 : Cond.methodLink RX1 21 yX1_offsetOfShadow ∈ zz_t := zz_in (i := 429) (by decide +kernel) rfl
theorem lX1_28 : Cond.methodLinkNest RX1 28 yX7_rounded "SundialWorks" ∈ zz_nw := zz_inN (i := 434) (by decide +kernel) rfl
theorem lX1_36 : Cond.methodLinkNest RX1 36 yX7_isWithin "SundialWorks" ∈ zz_nw := zz_inN (i := 445) (by decide +kernel) rfl
theorem lX1_40 : Cond.methodLink RX1 40 yX1_offsetAt ∈ zz_t := zz_in (i := 441) (by decide +kernel) rfl
theorem lX1_43 : Cond.methodLink RX1 43 Lib.Math.abs.name ∈ zz_t := zz_in (i := 454) (by decide +kernel) rfl
theorem lX1_55 : Cond.methodLink RX1 55 yX1_readingByLines ∈ zz_t := zz_in (i := 450) (by decide +kernel) rfl
theorem lX2_3 : Cond.methodLink RX2 3 objectInit ∈ zz_t := zz_in (i := 205) (by decide +kernel) rfl
theorem lX2_17 : Cond.methodLink RX2 17 yX5_init ∈ zz_t := zz_in (i := 208) (by decide +kernel) rfl
theorem lX2_22 : Cond.methodLink RX2 22 yX5_copyFrom ∈ zz_t := zz_in (i := 288) (by decide +kernel) rfl
theorem lX2_29 : Cond.methodLink RX2 29 Lib.Math.min.name ∈ zz_t := zz_in (i := 329) (by decide +kernel) rfl
theorem lX2_35 : Cond.methodLink RX2 35 yX2_returnToMarked ∈ zz_t := zz_in (i := 537) (by decide +kernel) rfl
theorem lX3_3 : Cond.methodLink RX3 3 objectInit ∈ zz_t := zz_in (i := 225) (by decide +kernel) rfl
theorem lX3_19 : Cond.methodLinkNest RX3 19 yX7_isWithin "SundialWorks" ∈ zz_nw := zz_inN (i := 549) (by decide +kernel) rfl
theorem lX3_35 : Cond.methodLink RX3 35 yX3_kindOf ∈ zz_t := zz_in (i := 572) (by decide +kernel) rfl
theorem lX3_39 : Cond.methodLink RX3 39 yX3_commandOfToken ∈ zz_t := zz_in (i := 579) (by decide +kernel) rfl
theorem lX3_46 : Cond.methodLink RX3 46 yX3_advance ∈ zz_t := zz_in (i := 648) (by decide +kernel) rfl
theorem lX3_52 : Cond.methodLink RX3 52 yX3_tokenIs ∈ zz_t := zz_in (i := 594) (by decide +kernel) rfl
theorem lX3_56 : Cond.methodLink RX3 56 yX3_numberOfToken ∈ zz_t := zz_in (i := 650) (by decide +kernel) rfl
theorem lX3_61 : Cond.methodLink RX3 61 yX3_wordOf ∈ zz_t := zz_in (i := 583) (by decide +kernel) rfl
theorem lX3_81 : Cond.methodLink RX3 81 yJ0_length_8abf5 ∈ zz_t := zz_in (i := 598) (by decide +kernel) rfl
theorem lX3_85 : Cond.methodLink RX3 85 yJ0_charAt_5068e ∈ zz_t := zz_in (i := 608) (by decide +kernel) rfl
theorem lX4_3 : Cond.methodLink RX4 3 objectInit ∈ zz_t := zz_in (i := 83) (by decide +kernel) rfl
theorem lX4_30 : Cond.methodLinkNest RX4 30 yX6_init "SundialWorks" ∈ zz_nw := zz_inN (i := 89) (by decide +kernel) rfl
theorem lX4_31 : Cond.methodLinkNest RX4 31 yX0_init "SundialWorks" ∈ zz_nw := zz_inN (i := 107) (by decide +kernel) rfl
theorem lX4_35 : Cond.methodLink RX4 35 yX6_copyFrom ∈ zz_t := zz_in (i := 296) (by decide +kernel) rfl
theorem lX4_39 : Cond.methodLink RX4 39 yX0_copyFrom ∈ zz_t := zz_in (i := 300) (by decide +kernel) rfl
theorem lX4_42 : Cond.methodLink RX4 42 arraycopyName ∈ zz_t := zz_in (i := 304) (by decide +kernel) rfl
theorem lX4_61 : Cond.methodLinkNest RX4 61 yX7_isWithin "SundialWorks" ∈ zz_nw := zz_inN (i := 311) (by decide +kernel) rfl
theorem lX4_80 : Cond.methodLink RX4 80 yX4_hasWall ∈ zz_t := zz_in (i := 362) (by decide +kernel) rfl
theorem lX4_84 : Cond.methodLink RX4 84 yX6_isKnown ∈ zz_t := zz_in (i := 366) (by decide +kernel) rfl
theorem lX4_111 : Cond.methodLink RX4 111 yX4_hasCommission ∈ zz_t := zz_in (i := 401) (by decide +kernel) rfl
theorem lX4_115 : Cond.methodLink RX4 115 yX4_declinationOfDial ∈ zz_t := zz_in (i := 466) (by decide +kernel) rfl
theorem lX4_119 : Cond.methodLink RX4 119 yX4_acceptedOnes ∈ zz_t := zz_in (i := 483) (by decide +kernel) rfl
theorem lX4_123 : Cond.methodLink RX4 123 yX4_nextMelt ∈ zz_t := zz_in (i := 487) (by decide +kernel) rfl
theorem lX4_126 : Cond.methodLink RX4 126 yX0_weight ∈ zz_t := zz_in (i := 491) (by decide +kernel) rfl
theorem lX4_129 : Cond.methodLink RX4 129 yJ6_bitCount_0f7a4 ∈ zz_t := zz_in (i := 492) (by decide +kernel) rfl
theorem lX4_134 : Cond.methodLink RX4 134 yX4_commissionsInState ∈ zz_t := zz_in (i := 506) (by decide +kernel) rfl
theorem lX4_139 : Cond.methodLinkNest RX4 139 yX7_rounded "SundialWorks" ∈ zz_nw := zz_inN (i := 411) (by decide +kernel) rfl
theorem lX4_143 : Cond.methodLink RX4 143 yX0_isByWallNow ∈ zz_t := zz_in (i := 402) (by decide +kernel) rfl
theorem lX4_147 : Cond.methodLink RX4 147 yX4_declinationOfWall ∈ zz_t := zz_in (i := 406) (by decide +kernel) rfl
theorem lX5_3 : Cond.methodLink RX5 3 objectInit ∈ zz_t := zz_in (i := 77) (by decide +kernel) rfl
theorem lX5_11 : Cond.methodLink RX5 11 yX4_init ∈ zz_t := zz_in (i := 80) (by decide +kernel) rfl
theorem lX5_26 : Cond.methodLink RX5 26 yX4_copyFrom ∈ zz_t := zz_in (i := 292) (by decide +kernel) rfl
theorem lX5_30 : Cond.methodLinkNest RX5 30 yX7_isWithin "SundialWorks" ∈ zz_nw := zz_inN (i := 518) (by decide +kernel) rfl
theorem lX6_3 : Cond.methodLink RX6 3 objectInit ∈ zz_t := zz_in (i := 92) (by decide +kernel) rfl
theorem lX6_19 : Cond.methodLink RX6 19 Lib.Math.abs.name ∈ zz_t := zz_in (i := 370) (by decide +kernel) rfl
theorem lX7_1 : Cond.methodLink RX7 1 objectInit ∈ zz_t := zz_in (i := 69) (by decide +kernel) rfl
theorem lX7_9 : Cond.methodLink RX7 9 yX5_init ∈ zz_t := zz_in (i := 74) (by decide +kernel) rfl
theorem lX7_18 : Cond.methodLink RX7 18 yX2_init ∈ zz_t := zz_in (i := 202) (by decide +kernel) rfl
theorem lX7_25 : Cond.methodLinkNest RX7 25 yX3_init "SundialWorks" ∈ zz_nw := zz_inN (i := 222) (by decide +kernel) rfl
theorem lX7_32 : Cond.methodLinkNest RX7 32 yX1_init "SundialWorks" ∈ zz_nw := zz_inN (i := 248) (by decide +kernel) rfl
theorem lX7_42 : Cond.methodLink RX7 42 yX2_mark ∈ zz_t := zz_in (i := 284) (by decide +kernel) rfl
theorem lX7_46 : Cond.methodLink RX7 46 yX4_changeCorrection ∈ zz_t := zz_in (i := 307) (by decide +kernel) rfl
theorem lX7_52 : Cond.methodLink RX7 52 yX7_recorded ∈ zz_t := zz_in (i := 315) (by decide +kernel) rfl
theorem lX7_56 : Cond.methodLink RX7 56 yX4_changeSetting ∈ zz_t := zz_in (i := 336) (by decide +kernel) rfl
theorem lX7_59 : Cond.methodLink RX7 59 yX4_openWall ∈ zz_t := zz_in (i := 348) (by decide +kernel) rfl
theorem lX7_63 : Cond.methodLink RX7 63 yX4_measureWall ∈ zz_t := zz_in (i := 358) (by decide +kernel) rfl
theorem lX7_66 : Cond.methodLink RX7 66 yX4_openCommission ∈ zz_t := zz_in (i := 377) (by decide +kernel) rfl
theorem lX7_70 : Cond.methodLink RX7 70 yX7_judge ∈ zz_t := zz_in (i := 385) (by decide +kernel) rfl
theorem lX7_73 : Cond.methodLink RX7 73 yX4_conclude ∈ zz_t := zz_in (i := 461) (by decide +kernel) rfl
theorem lX7_76 : Cond.methodLink RX7 76 yX4_reopen ∈ zz_t := zz_in (i := 471) (by decide +kernel) rfl
theorem lX7_79 : Cond.methodLink RX7 79 yX4_castMelt ∈ zz_t := zz_in (i := 479) (by decide +kernel) rfl
theorem lX7_82 : Cond.methodLink RX7 82 yX4_handOver ∈ zz_t := zz_in (i := 502) (by decide +kernel) rfl
theorem lX7_85 : Cond.methodLink RX7 85 yX5_keepSnapshot ∈ zz_t := zz_in (i := 514) (by decide +kernel) rfl
theorem lX7_88 : Cond.methodLink RX7 88 yX5_fetchSnapshot ∈ zz_t := zz_in (i := 524) (by decide +kernel) rfl
theorem lX7_96 : Cond.methodLink RX7 96 yX2_stepBack ∈ zz_t := zz_in (i := 533) (by decide +kernel) rfl
theorem lX7_99 : Cond.methodLink RX7 99 yX3_add ∈ zz_t := zz_in (i := 545) (by decide +kernel) rfl
theorem lX7_102 : Cond.methodLink RX7 102 yX3_empty ∈ zz_t := zz_in (i := 556) (by decide +kernel) rfl
theorem lX7_105 : Cond.methodLink RX7 105 yX3_rewind ∈ zz_t := zz_in (i := 564) (by decide +kernel) rfl
theorem lX7_108 : Cond.methodLink RX7 108 yX3_advance ∈ zz_t := zz_in (i := 568) (by decide +kernel) rfl
theorem lX7_115 : Cond.methodLink RX7 115 yX3_parseCommand ∈ zz_t := zz_in (i := 575) (by decide +kernel) rfl
theorem lX7_118 : Cond.methodLink RX7 118 yX7_failedAt ∈ zz_t := zz_in (i := 655) (by decide +kernel) rfl
theorem lX7_121 : Cond.methodLink RX7 121 yX7_perform ∈ zz_t := zz_in (i := 660) (by decide +kernel) rfl
theorem lX7_124 : Cond.methodLink RX7 124 yX7_isError ∈ zz_t := zz_in (i := 319) (by decide +kernel) rfl
theorem lX7_128 : Cond.methodLink RX7 128 yX2_keepMarked ∈ zz_t := zz_in (i := 325) (by decide +kernel) rfl
theorem lX7_134 : Cond.methodLink RX7 134 yX4_knownWalls ∈ zz_t := zz_in (i := 669) (by decide +kernel) rfl
theorem lX7_140 : Cond.methodLink RX7 140 yX4_commissionsInState ∈ zz_t := zz_in (i := 673) (by decide +kernel) rfl
theorem lX7_149 : Cond.methodLink RX7 149 yX5_snapshots ∈ zz_t := zz_in (i := 674) (by decide +kernel) rfl
theorem lX7_160 : Cond.methodLink RX7 160 yX4_hasWall ∈ zz_t := zz_in (i := 682) (by decide +kernel) rfl
theorem lX7_175 : Cond.methodLink RX7 175 yX4_declinationOfWall ∈ zz_t := zz_in (i := 683) (by decide +kernel) rfl
theorem lX7_178 : Cond.methodLink RX7 178 yX4_commissionsForWall ∈ zz_t := zz_in (i := 684) (by decide +kernel) rfl
theorem lX7_181 : Cond.methodLink RX7 181 yX4_hasCommission ∈ zz_t := zz_in (i := 389) (by decide +kernel) rfl
theorem lX7_204 : Cond.methodLink RX7 204 yX4_declinationOfDial ∈ zz_t := zz_in (i := 397) (by decide +kernel) rfl
theorem lX7_207 : Cond.methodLink RX7 207 yX0_weight ∈ zz_t := zz_in (i := 455) (by decide +kernel) rfl
theorem lX7_216 : Cond.methodLink RX7 216 yX7_isWithin ∈ zz_t := zz_in (i := 696) (by decide +kernel) rfl
theorem lX7_223 : Cond.methodLink RX7 223 yX7_sineOf ∈ zz_t := zz_in (i := 701) (by decide +kernel) rfl
theorem lX7_226 : Cond.methodLink RX7 226 yX7_layDial ∈ zz_t := zz_in (i := 393) (by decide +kernel) rfl
theorem lX7_229 : Cond.methodLink RX7 229 yX1_offsetAt ∈ zz_t := zz_in (i := 706) (by decide +kernel) rfl
theorem lX7_232 : Cond.methodLink RX7 232 yX1_countLines ∈ zz_t := zz_in (i := 437) (by decide +kernel) rfl
theorem lX7_235 : Cond.methodLink RX7 235 yX1_firstLine ∈ zz_t := zz_in (i := 711) (by decide +kernel) rfl
theorem lX7_238 : Cond.methodLink RX7 238 yX1_lastLine ∈ zz_t := zz_in (i := 715) (by decide +kernel) rfl
theorem lX7_241 : Cond.methodLink RX7 241 yX1_readingByLines ∈ zz_t := zz_in (i := 723) (by decide +kernel) rfl
theorem lX7_244 : Cond.methodLink RX7 244 yX1_readingByShadow ∈ zz_t := zz_in (i := 724) (by decide +kernel) rfl
theorem lX7_248 : Cond.methodLink RX7 248 yX1_compareReadings ∈ zz_t := zz_in (i := 446) (by decide +kernel) rfl
theorem lX7_257 : Cond.methodLink RX7 257 yX1_lay ∈ zz_t := zz_in (i := 416) (by decide +kernel) rfl
theorem lX7_261 : Cond.methodLink RX7 261 yX4_meltsNeeded ∈ zz_t := zz_in (i := 744) (by decide +kernel) rfl
theorem lX7_264 : Cond.methodLink RX7 264 yX2_returnToMarked ∈ zz_t := zz_in (i := 659) (by decide +kernel) rfl
theorem lX7_273 : Cond.methodLink RX7 273 Lib.Math.abs.name ∈ zz_t := zz_in (i := 423) (by decide +kernel) rfl
theorem lX7_284 : Cond.methodLink RX7 284 yX7_rounded ∈ zz_t := zz_in (i := 427) (by decide +kernel) rfl
theorem lX8_1 : Cond.methodLink RX8 1 objectInit ∈ zz_t := zz_in (i := 753) (by decide +kernel) rfl
theorem lX8_46 : Cond.methodLink RX8 46 yX8_rounded ∈ zz_t := zz_in (i := 860) (by decide +kernel) rfl
theorem lX8_50 : Cond.methodLink RX8 50 yX8_sineOf ∈ zz_t := zz_in (i := 923) (by decide +kernel) rfl
theorem lX8_56 : Cond.methodLink RX8 56 yX8_cosineOf ∈ zz_t := zz_in (i := 920) (by decide +kernel) rfl
theorem lX8_59 : Cond.methodLink RX8 59 yX8_frontOf ∈ zz_t := zz_in (i := 916) (by decide +kernel) rfl
theorem lX8_65 : Cond.methodLink RX8 65 yX8_sideOf ∈ zz_t := zz_in (i := 929) (by decide +kernel) rfl
theorem lX8_73 : Cond.methodLink RX8 73 yX8_has ∈ zz_t := zz_in (i := 938) (by decide +kernel) rfl
theorem lX8_77 : Cond.methodLink RX8 77 yX8_off ∈ zz_t := zz_in (i := 946) (by decide +kernel) rfl
theorem lX8_84 : Cond.methodLink RX8 84 yX8_size ∈ zz_t := zz_in (i := 856) (by decide +kernel) rfl
theorem lX8_87 : Cond.methodLink RX8 87 yX8_byLines ∈ zz_t := zz_in (i := 950) (by decide +kernel) rfl
theorem lX8_90 : Cond.methodLink RX8 90 yX8_in ∈ zz_t := zz_in (i := 804) (by decide +kernel) rfl
theorem lX8_95 : Cond.methodLink RX8 95 yX8_act ∈ zz_t := zz_in (i := 808) (by decide +kernel) rfl
theorem lX8_98 : Cond.methodLink RX8 98 yX8_leastOf ∈ zz_t := zz_in (i := 816) (by decide +kernel) rfl
theorem lX8_101 : Cond.methodLink RX8 101 yX8_mostOf ∈ zz_t := zz_in (i := 819) (by decide +kernel) rfl
theorem lX8_105 : Cond.methodLink RX8 105 yX8_wallCode ∈ zz_t := zz_in (i := 826) (by decide +kernel) rfl
theorem lX8_109 : Cond.methodLink RX8 109 yX8_wallNow ∈ zz_t := zz_in (i := 831) (by decide +kernel) rfl
theorem lX8_114 : Cond.methodLink RX8 114 yX8_isWall ∈ zz_t := zz_in (i := 844) (by decide +kernel) rfl
theorem lX8_117 : Cond.methodLink RX8 117 yX8_declinationOfWall ∈ zz_t := zz_in (i := 852) (by decide +kernel) rfl
theorem lX8_120 : Cond.methodLink RX8 120 yX8_measureCode ∈ zz_t := zz_in (i := 840) (by decide +kernel) rfl
theorem lX8_124 : Cond.methodLink RX8 124 yX8_measureNow ∈ zz_t := zz_in (i := 848) (by decide +kernel) rfl
theorem lX8_127 : Cond.methodLink RX8 127 yX8_of ∈ zz_t := zz_in (i := 891) (by decide +kernel) rfl
theorem lX8_130 : Cond.methodLink RX8 130 yX8_declinationOf ∈ zz_t := zz_in (i := 908) (by decide +kernel) rfl
theorem lX8_133 : Cond.methodLink RX8 133 yX8_reckon ∈ zz_t := zz_in (i := 912) (by decide +kernel) rfl
theorem lX8_139 : Cond.methodLink RX8 139 yX8_takeDial ∈ zz_t := zz_in (i := 904) (by decide +kernel) rfl
theorem lX8_142 : Cond.methodLink RX8 142 yX8_hourLines ∈ zz_t := zz_in (i := 934) (by decide +kernel) rfl
theorem lX8_145 : Cond.methodLink RX8 145 yX8_apartOf ∈ zz_t := zz_in (i := 942) (by decide +kernel) rfl
theorem lX8_148 : Cond.methodLink RX8 148 yX8_weightOf ∈ zz_t := zz_in (i := 955) (by decide +kernel) rfl
theorem lX8_151 : Cond.methodLink RX8 151 yX8_put ∈ zz_t := zz_in (i := 875) (by decide +kernel) rfl
theorem lX8_155 : Cond.methodLink RX8 155 yX8_askCode ∈ zz_t := zz_in (i := 867) (by decide +kernel) rfl
theorem lX8_159 : Cond.methodLink RX8 159 yX8_askNow ∈ zz_t := zz_in (i := 871) (by decide +kernel) rfl
theorem lX8_162 : Cond.methodLink RX8 162 yX8_isCommission ∈ zz_t := zz_in (i := 887) (by decide +kernel) rfl
theorem lX8_166 : Cond.methodLink RX8 166 yX8_reasonFor ∈ zz_t := zz_in (i := 900) (by decide +kernel) rfl
theorem lX8_169 : Cond.methodLink RX8 169 yX8_stateCode ∈ zz_t := zz_in (i := 883) (by decide +kernel) rfl
theorem lX8_172 : Cond.methodLink RX8 172 yX8_decideNow ∈ zz_t := zz_in (i := 896) (by decide +kernel) rfl
theorem lX8_175 : Cond.methodLink RX8 175 yX8_takeStates ∈ zz_t := zz_in (i := 972) (by decide +kernel) rfl
theorem lX8_178 : Cond.methodLink RX8 178 yX8_melt ∈ zz_t := zz_in (i := 976) (by decide +kernel) rfl
theorem lX8_181 : Cond.methodLink RX8 181 yX8_castCode ∈ zz_t := zz_in (i := 968) (by decide +kernel) rfl
theorem lX8_184 : Cond.methodLink RX8 184 yX8_castNow ∈ zz_t := zz_in (i := 980) (by decide +kernel) rfl
theorem lX8_187 : Cond.methodLink RX8 187 yX8_inState ∈ zz_t := zz_in (i := 992) (by decide +kernel) rfl
theorem lX8_190 : Cond.methodLink RX8 190 yX8_deliverNow ∈ zz_t := zz_in (i := 988) (by decide +kernel) rfl
theorem lX8_193 : Cond.methodLink RX8 193 yX8_isBit ∈ zz_t := zz_in (i := 1000) (by decide +kernel) rfl
theorem lX8_196 : Cond.methodLink RX8 196 yX8_slotAt ∈ zz_t := zz_in (i := 1003) (by decide +kernel) rfl
theorem lX8_208 : Cond.methodLink RX8 208 yX8_at ∈ zz_t := zz_in (i := 1030) (by decide +kernel) rfl
theorem lX8_217 : Cond.methodLink RX8 217 yX8_spelled ∈ zz_t := zz_in (i := 1049) (by decide +kernel) rfl
theorem lX8_221 : Cond.methodLink RX8 221 yX8_letterOf ∈ zz_t := zz_in (i := 1046) (by decide +kernel) rfl
theorem lX8_224 : Cond.methodLink RX8 224 yX8_isWord ∈ zz_t := zz_in (i := 1042) (by decide +kernel) rfl
theorem lX8_227 : Cond.methodLink RX8 227 yX8_next ∈ zz_t := zz_in (i := 1026) (by decide +kernel) rfl
theorem lX8_230 : Cond.methodLink RX8 230 yX8_fail ∈ zz_t := zz_in (i := 1052) (by decide +kernel) rfl
theorem lX8_234 : Cond.methodLink RX8 234 yX8_wordHere ∈ zz_t := zz_in (i := 1038) (by decide +kernel) rfl
theorem lX8_237 : Cond.methodLink RX8 237 yX8_numbersOf ∈ zz_t := zz_in (i := 1056) (by decide +kernel) rfl
theorem lX8_240 : Cond.methodLink RX8 240 yX8_readNumber ∈ zz_t := zz_in (i := 1059) (by decide +kernel) rfl
theorem lX8_244 : Cond.methodLink RX8 244 yX8_codeOf ∈ zz_t := zz_in (i := 1063) (by decide +kernel) rfl
theorem lX8_247 : Cond.methodLink RX8 247 yX8_carry ∈ zz_t := zz_in (i := 1067) (by decide +kernel) rfl
theorem lX8_250 : Cond.methodLink RX8 250 yX8_command ∈ zz_t := zz_in (i := 1034) (by decide +kernel) rfl
theorem lX8_253 : Cond.methodLink RX8 253 yX8_knownWalls ∈ zz_t := zz_in (i := 1075) (by decide +kernel) rfl
theorem lX8_256 : Cond.methodLink RX8 256 yX8_commissionsFor ∈ zz_t := zz_in (i := 1083) (by decide +kernel) rfl
theorem lX8_259 : Cond.methodLink RX8 259 yX8_byShadow ∈ zz_t := zz_in (i := 1111) (by decide +kernel) rfl
theorem fJ0_9 : Cond.fieldLink RJ0 9 "java/lang/String" "value" "[B" ∈ zz_t := zz_in (i := 1131) (by decide +kernel) rfl
theorem fJ0_15 : Cond.fieldLink RJ0 15 "java/lang/String" "coder" "B" ∈ zz_t := zz_in (i := 1132) (by decide +kernel) rfl
theorem fJ0_38 : Cond.fieldLink RJ0 38 "java/lang/String" "COMPACT_STRINGS" "Z" ∈ zz_t := zz_in (i := 606) (by decide +kernel) rfl
theorem fJ0_1053 : Cond.fieldLink RJ0 1053 "jdk/internal/util/Preconditions" "SIOOBE_FORMATTER" "Ljava/util/function/BiFunction;" ∈ zz_t := zz_in (i := 622) (by decide +kernel) rfl
theorem fJ2_44 : Cond.fieldLink RJ2 44 "java/lang/StringUTF16" "$assertionsDisabled" "Z" ∈ zz_t := zz_in (i := 640) (by decide +kernel) rfl
theorem fJ2_59 : Cond.fieldLink RJ2 59 "java/lang/StringUTF16" "HI_BYTE_SHIFT" "I" ∈ zz_t := zz_in (i := 642) (by decide +kernel) rfl
theorem fJ2_63 : Cond.fieldLink RJ2 63 "java/lang/StringUTF16" "LO_BYTE_SHIFT" "I" ∈ zz_t := zz_in (i := 644) (by decide +kernel) rfl
theorem fX0_9 : zz_F RX0 9 0 0 := ⟨zz_in (i := 111) (by decide +kernel) rfl, by decide, by decide, rfl⟩
theorem fX0_15 : zz_F RX0 15 0 1 := ⟨zz_in (i := 114) (by decide +kernel) rfl, by decide, by decide, rfl⟩
theorem fX0_18 : zz_F RX0 18 0 2 := ⟨zz_in (i := 117) (by decide +kernel) rfl, by decide, by decide, rfl⟩
theorem fX0_21 : zz_F RX0 21 0 3 := ⟨zz_in (i := 120) (by decide +kernel) rfl, by decide, by decide, rfl⟩
theorem fX0_24 : zz_F RX0 24 0 4 := ⟨zz_in (i := 123) (by decide +kernel) rfl, by decide, by decide, rfl⟩
theorem fX0_27 : zz_F RX0 27 0 5 := ⟨zz_in (i := 126) (by decide +kernel) rfl, by decide, by decide, rfl⟩
theorem fX0_30 : zz_F RX0 30 0 6 := ⟨zz_in (i := 128) (by decide +kernel) rfl, by decide, by decide, rfl⟩
theorem fX0_33 : zz_F RX0 33 0 7 := ⟨zz_in (i := 131) (by decide +kernel) rfl, by decide, by decide, rfl⟩
theorem fX1_9 : zz_F RX1 9 1 0 := ⟨zz_in (i := 252) (by decide +kernel) rfl, by decide, by decide, rfl⟩
theorem fX1_48 : zz_F RX1 48 1 1 := ⟨zz_in (i := 253) (by decide +kernel) rfl, by decide, by decide, rfl⟩
theorem fX1_52 : zz_F RX1 52 1 2 := ⟨zz_in (i := 255) (by decide +kernel) rfl, by decide, by decide, rfl⟩
theorem fX2_11 : zz_F RX2 11 2 0 := ⟨zz_in (i := 209) (by decide +kernel) rfl, by decide, by decide, rfl⟩
theorem fX2_18 : zz_F RX2 18 2 1 := ⟨zz_in (i := 210) (by decide +kernel) rfl, by decide, by decide, rfl⟩
theorem fX2_26 : zz_F RX2 26 2 2 := ⟨zz_in (i := 211) (by decide +kernel) rfl, by decide, by decide, rfl⟩
theorem fX3_9 : zz_F RX3 9 3 0 := ⟨zz_in (i := 226) (by decide +kernel) rfl, by decide, by decide, rfl⟩
theorem fX3_15 : zz_F RX3 15 3 1 := ⟨zz_in (i := 227) (by decide +kernel) rfl, by decide, by decide, rfl⟩
theorem fX3_24 : zz_F RX3 24 3 2 := ⟨zz_in (i := 229) (by decide +kernel) rfl, by decide, by decide, rfl⟩
theorem fX3_29 : zz_F RX3 29 3 3 := ⟨zz_in (i := 231) (by decide +kernel) rfl, by decide, by decide, rfl⟩
theorem fX3_32 : zz_F RX3 32 3 4 := ⟨zz_in (i := 233) (by decide +kernel) rfl, by decide, by decide, rfl⟩
theorem fX3_43 : Cond.fieldLinkNest RX3 43 "SundialWorks" "NUMBERS_OF_COMMANDS" "[I" "SundialWorks" ∈ zz_nw := zz_inN (i := 646) (by decide +kernel) rfl
theorem fX4_11 : zz_F RX4 11 4 0 := ⟨zz_in (i := 153) (by decide +kernel) rfl, by decide, by decide, rfl⟩
theorem fX4_17 : zz_F RX4 17 4 1 := ⟨zz_in (i := 155) (by decide +kernel) rfl, by decide, by decide, rfl⟩
theorem fX4_21 : zz_F RX4 21 4 2 := ⟨zz_in (i := 157) (by decide +kernel) rfl, by decide, by decide, rfl⟩
theorem fX4_26 : zz_F RX4 26 4 3 := ⟨zz_in (i := 159) (by decide +kernel) rfl, by decide, by decide, rfl⟩
theorem fX4_32 : Cond.fieldLinkNest RX4 32 "SundialWorks" "FIRST_VALUES" "[I" "SundialWorks" ∈ zz_nw := zz_inN (i := 151) (by decide +kernel) rfl
theorem fX4_48 : zz_F RX4 48 4 4 := ⟨zz_in (i := 161) (by decide +kernel) rfl, by decide, by decide, rfl⟩
theorem fX4_52 : zz_F RX4 52 4 5 := ⟨zz_in (i := 163) (by decide +kernel) rfl, by decide, by decide, rfl⟩
theorem fX4_55 : zz_F RX4 55 4 6 := ⟨zz_in (i := 166) (by decide +kernel) rfl, by decide, by decide, rfl⟩
theorem fX4_58 : zz_F RX4 58 4 7 := ⟨zz_in (i := 168) (by decide +kernel) rfl, by decide, by decide, rfl⟩
theorem fX4_66 : Cond.fieldLinkNest RX4 66 "SundialWorks" "LEAST_VALUES" "[I" "SundialWorks" ∈ zz_nw := zz_inN (i := 340) (by decide +kernel) rfl
theorem fX4_69 : Cond.fieldLinkNest RX4 69 "SundialWorks" "GREATEST_VALUES" "[I" "SundialWorks" ∈ zz_nw := zz_inN (i := 342) (by decide +kernel) rfl
theorem fX4_74 : zz_F RX4 74 6 0 := ⟨zz_in (i := 95) (by decide +kernel) rfl, by decide, by decide, rfl⟩
theorem fX4_77 : zz_F RX4 77 6 1 := ⟨zz_in (i := 98) (by decide +kernel) rfl, by decide, by decide, rfl⟩
theorem fX4_87 : zz_F RX4 87 0 0 := ⟨zz_in (i := 112) (by decide +kernel) rfl, by decide, by decide, rfl⟩
theorem fX4_90 : zz_F RX4 90 0 1 := ⟨zz_in (i := 115) (by decide +kernel) rfl, by decide, by decide, rfl⟩
theorem fX4_93 : zz_F RX4 93 0 2 := ⟨zz_in (i := 118) (by decide +kernel) rfl, by decide, by decide, rfl⟩
theorem fX4_96 : zz_F RX4 96 0 3 := ⟨zz_in (i := 121) (by decide +kernel) rfl, by decide, by decide, rfl⟩
theorem fX4_99 : zz_F RX4 99 0 4 := ⟨zz_in (i := 124) (by decide +kernel) rfl, by decide, by decide, rfl⟩
theorem fX4_102 : zz_F RX4 102 0 5 := ⟨zz_in (i := 127) (by decide +kernel) rfl, by decide, by decide, rfl⟩
theorem fX4_105 : zz_F RX4 105 0 6 := ⟨zz_in (i := 129) (by decide +kernel) rfl, by decide, by decide, rfl⟩
theorem fX4_108 : zz_F RX4 108 0 7 := ⟨zz_in (i := 132) (by decide +kernel) rfl, by decide, by decide, rfl⟩
theorem fX5_12 : zz_F RX5 12 5 0 := ⟨zz_in (i := 188) (by decide +kernel) rfl, by decide, by decide, rfl⟩
theorem fX5_18 : zz_F RX5 18 5 1 := ⟨zz_in (i := 190) (by decide +kernel) rfl, by decide, by decide, rfl⟩
theorem fX5_22 : zz_F RX5 22 5 2 := ⟨zz_in (i := 191) (by decide +kernel) rfl, by decide, by decide, rfl⟩
theorem fX5_35 : zz_F RX5 35 4 5 := ⟨zz_in (i := 164) (by decide +kernel) rfl, by decide, by decide, rfl⟩
theorem fX6_10 : zz_F RX6 10 6 0 := ⟨zz_in (i := 94) (by decide +kernel) rfl, by decide, by decide, rfl⟩
theorem fX6_16 : zz_F RX6 16 6 1 := ⟨zz_in (i := 97) (by decide +kernel) rfl, by decide, by decide, rfl⟩
theorem fX7_10 : zz_F RX7 10 7 0 := ⟨zz_in (i := 264) (by decide +kernel) rfl, by decide, by decide, rfl⟩
theorem fX7_19 : zz_F RX7 19 7 1 := ⟨zz_in (i := 265) (by decide +kernel) rfl, by decide, by decide, rfl⟩
theorem fX7_26 : zz_F RX7 26 7 2 := ⟨zz_in (i := 266) (by decide +kernel) rfl, by decide, by decide, rfl⟩
theorem fX7_33 : zz_F RX7 33 7 3 := ⟨zz_in (i := 267) (by decide +kernel) rfl, by decide, by decide, rfl⟩
theorem fX7_37 : zz_F RX7 37 5 0 := ⟨zz_in (i := 189) (by decide +kernel) rfl, by decide, by decide, rfl⟩
theorem fX7_41 : zz_F RX7 41 7 4 := ⟨zz_in (i := 268) (by decide +kernel) rfl, by decide, by decide, rfl⟩
theorem fX7_91 : zz_F RX7 91 2 2 := ⟨zz_in (i := 212) (by decide +kernel) rfl, by decide, by decide, rfl⟩
theorem fX7_112 : zz_F RX7 112 3 3 := ⟨zz_in (i := 232) (by decide +kernel) rfl, by decide, by decide, rfl⟩
theorem fX7_131 : zz_F RX7 131 4 4 := ⟨zz_in (i := 162) (by decide +kernel) rfl, by decide, by decide, rfl⟩
theorem fX7_137 : zz_F RX7 137 4 5 := ⟨zz_in (i := 165) (by decide +kernel) rfl, by decide, by decide, rfl⟩
theorem fX7_143 : zz_F RX7 143 4 6 := ⟨zz_in (i := 167) (by decide +kernel) rfl, by decide, by decide, rfl⟩
theorem fX7_146 : zz_F RX7 146 4 7 := ⟨zz_in (i := 169) (by decide +kernel) rfl, by decide, by decide, rfl⟩
theorem fX7_152 : zz_F RX7 152 3 2 := ⟨zz_in (i := 230) (by decide +kernel) rfl, by decide, by decide, rfl⟩
theorem fX7_155 : zz_F RX7 155 4 2 := ⟨zz_in (i := 158) (by decide +kernel) rfl, by decide, by decide, rfl⟩
theorem fX7_163 : zz_F RX7 163 4 0 := ⟨zz_in (i := 154) (by decide +kernel) rfl, by decide, by decide, rfl⟩
theorem fX7_167 : zz_F RX7 167 6 0 := ⟨zz_in (i := 96) (by decide +kernel) rfl, by decide, by decide, rfl⟩
theorem fX7_172 : zz_F RX7 172 6 1 := ⟨zz_in (i := 99) (by decide +kernel) rfl, by decide, by decide, rfl⟩
theorem fX7_184 : zz_F RX7 184 4 3 := ⟨zz_in (i := 160) (by decide +kernel) rfl, by decide, by decide, rfl⟩
theorem fX7_188 : zz_F RX7 188 0 0 := ⟨zz_in (i := 113) (by decide +kernel) rfl, by decide, by decide, rfl⟩
theorem fX7_193 : zz_F RX7 193 0 1 := ⟨zz_in (i := 116) (by decide +kernel) rfl, by decide, by decide, rfl⟩
theorem fX7_196 : zz_F RX7 196 0 2 := ⟨zz_in (i := 119) (by decide +kernel) rfl, by decide, by decide, rfl⟩
theorem fX7_199 : zz_F RX7 199 0 3 := ⟨zz_in (i := 122) (by decide +kernel) rfl, by decide, by decide, rfl⟩
theorem fX7_202 : zz_F RX7 202 0 4 := ⟨zz_in (i := 125) (by decide +kernel) rfl, by decide, by decide, rfl⟩
theorem fX7_210 : zz_F RX7 210 0 6 := ⟨zz_in (i := 130) (by decide +kernel) rfl, by decide, by decide, rfl⟩
theorem fX7_213 : zz_F RX7 213 0 7 := ⟨zz_in (i := 133) (by decide +kernel) rfl, by decide, by decide, rfl⟩
theorem fX7_220 : zz_F RX7 220 4 1 := ⟨zz_in (i := 156) (by decide +kernel) rfl, by decide, by decide, rfl⟩
theorem fX7_251 : zz_F RX7 251 1 1 := ⟨zz_in (i := 254) (by decide +kernel) rfl, by decide, by decide, rfl⟩
theorem fX7_254 : zz_F RX7 254 1 2 := ⟨zz_in (i := 256) (by decide +kernel) rfl, by decide, by decide, rfl⟩
theorem fX7_267 : zz_F RX7 267 3 1 := ⟨zz_in (i := 228) (by decide +kernel) rfl, by decide, by decide, rfl⟩
theorem fX8_7 : zz_F RX8 7 8 1 := ⟨zz_in (i := 755) (by decide +kernel) rfl, by decide, by decide, rfl⟩
theorem fX8_13 : zz_F RX8 13 8 2 := ⟨zz_in (i := 756) (by decide +kernel) rfl, by decide, by decide, rfl⟩
theorem fX8_16 : zz_F RX8 16 8 3 := ⟨zz_in (i := 757) (by decide +kernel) rfl, by decide, by decide, rfl⟩
theorem fX8_19 : zz_F RX8 19 8 5 := ⟨zz_in (i := 759) (by decide +kernel) rfl, by decide, by decide, rfl⟩
theorem fX8_22 : zz_F RX8 22 8 7 := ⟨zz_in (i := 761) (by decide +kernel) rfl, by decide, by decide, rfl⟩
theorem fX8_25 : zz_F RX8 25 8 8 := ⟨zz_in (i := 762) (by decide +kernel) rfl, by decide, by decide, rfl⟩
theorem fX8_28 : zz_F RX8 28 8 9 := ⟨zz_in (i := 763) (by decide +kernel) rfl, by decide, by decide, rfl⟩
theorem fX8_32 : zz_F RX8 32 8 10 := ⟨zz_in (i := 764) (by decide +kernel) rfl, by decide, by decide, rfl⟩
theorem fX8_35 : zz_F RX8 35 8 0 := ⟨zz_in (i := 754) (by decide +kernel) rfl, by decide, by decide, rfl⟩
theorem fX8_39 : zz_F RX8 39 8 4 := ⟨zz_in (i := 758) (by decide +kernel) rfl, by decide, by decide, rfl⟩
theorem fX8_199 : zz_F RX8 199 8 6 := ⟨zz_in (i := 760) (by decide +kernel) rfl, by decide, by decide, rfl⟩
theorem fX8_202 : zz_F RX8 202 8 13 := ⟨zz_in (i := 767) (by decide +kernel) rfl, by decide, by decide, rfl⟩
theorem fX8_205 : zz_F RX8 205 8 12 := ⟨zz_in (i := 766) (by decide +kernel) rfl, by decide, by decide, rfl⟩
theorem fX8_211 : zz_F RX8 211 8 11 := ⟨zz_in (i := 765) (by decide +kernel) rfl, by decide, by decide, rfl⟩
theorem fX8_214 : zz_F RX8 214 8 14 := ⟨zz_in (i := 768) (by decide +kernel) rfl, by decide, by decide, rfl⟩
theorem kJ6_265 : Cond.constant RJ6 265 (1431655765) ∈ zz_t := zz_in (i := 495) (by decide +kernel) rfl
theorem kJ6_266 : Cond.constant RJ6 266 (858993459) ∈ zz_t := zz_in (i := 496) (by decide +kernel) rfl
theorem kJ6_267 : Cond.constant RJ6 267 (252645135) ∈ zz_t := zz_in (i := 497) (by decide +kernel) rfl
theorem kX1_25 : Cond.constant RX1 25 (-100009) ∈ zz_t := zz_in (i := 432) (by decide +kernel) rfl
theorem kX3_23 : Cond.constant RX3 23 (-100001) ∈ zz_t := zz_in (i := 550) (by decide +kernel) rfl
theorem kX3_28 : Cond.constant RX3 28 (-100003) ∈ zz_t := zz_in (i := 551) (by decide +kernel) rfl
theorem kX4_65 : Cond.constant RX4 65 (-100001) ∈ zz_t := zz_in (i := 314) (by decide +kernel) rfl
theorem kX4_72 : Cond.constant RX4 72 (-100003) ∈ zz_t := zz_in (i := 352) (by decide +kernel) rfl
theorem kX4_73 : Cond.constant RX4 73 (-100009) ∈ zz_t := zz_in (i := 353) (by decide +kernel) rfl
theorem kX4_114 : Cond.constant RX4 114 (-100002) ∈ zz_t := zz_in (i := 465) (by decide +kernel) rfl
theorem kX5_34 : Cond.constant RX5 34 (-100001) ∈ zz_t := zz_in (i := 519) (by decide +kernel) rfl
theorem kX5_39 : Cond.constant RX5 39 (-100002) ∈ zz_t := zz_in (i := 528) (by decide +kernel) rfl
theorem kX6_9 : Cond.constant RX6 9 (-100009) ∈ zz_t := zz_in (i := 93) (by decide +kernel) rfl
theorem kX7_95 : Cond.constant RX7 95 (-100002) ∈ zz_t := zz_in (i := 323) (by decide +kernel) rfl
theorem kX7_159 : Cond.constant RX7 159 (-100001) ∈ zz_t := zz_in (i := 322) (by decide +kernel) rfl
theorem kX7_247 : Cond.constant RX7 247 (-100009) ∈ zz_t := zz_in (i := 415) (by decide +kernel) rfl
theorem kX7_270 : Cond.constant RX7 270 (-100003) ∈ zz_t := zz_in (i := 324) (by decide +kernel) rfl
theorem kX8_83 : Cond.constant RX8 83 (-100009) ∈ zz_t := zz_in (i := 835) (by decide +kernel) rfl
theorem kX8_94 : Cond.constant RX8 94 (-100001) ∈ zz_t := zz_in (i := 807) (by decide +kernel) rfl
theorem kX8_104 : Cond.constant RX8 104 (-100003) ∈ zz_t := zz_in (i := 830) (by decide +kernel) rfl
theorem kX8_165 : Cond.constant RX8 165 (-100002) ∈ zz_t := zz_in (i := 895) (by decide +kernel) rfl
theorem kX0_36 : Cond.constantLong RX0 36 (100) ∈ zz_t := zz_in (i := 459) (by decide +kernel) rfl
theorem kX1_19 : Cond.constantLong RX1 19 (10000) ∈ zz_t := zz_in (i := 428) (by decide +kernel) rfl
theorem kX1_26 : Cond.constantLong RX1 26 (1000) ∈ zz_t := zz_in (i := 433) (by decide +kernel) rfl
theorem kX1_32 : Cond.constantLong RX1 32 (-3000) ∈ zz_t := zz_in (i := 435) (by decide +kernel) rfl
theorem kX1_34 : Cond.constantLong RX1 34 (3000) ∈ zz_t := zz_in (i := 436) (by decide +kernel) rfl
theorem kX4_137 : Cond.constantLong RX4 137 (2) ∈ zz_t := zz_in (i := 410) (by decide +kernel) rfl
theorem kX7_271 : Cond.constantLong RX7 271 (2) ∈ zz_t := zz_in (i := 414) (by decide +kernel) rfl
theorem kX7_278 : Cond.constantLong RX7 278 (720) ∈ zz_t := zz_in (i := 424) (by decide +kernel) rfl
theorem kX7_280 : Cond.constantLong RX7 280 (40000) ∈ zz_t := zz_in (i := 425) (by decide +kernel) rfl
theorem kX7_282 : Cond.constantLong RX7 282 (648000) ∈ zz_t := zz_in (i := 426) (by decide +kernel) rfl
theorem kX8_42 : Cond.constantLong RX8 42 (40000) ∈ zz_t := zz_in (i := 926) (by decide +kernel) rfl
theorem kX8_44 : Cond.constantLong RX8 44 (648000) ∈ zz_t := zz_in (i := 927) (by decide +kernel) rfl
theorem kX8_54 : Cond.constantLong RX8 54 (10000) ∈ zz_t := zz_in (i := 919) (by decide +kernel) rfl
theorem kX8_63 : Cond.constantLong RX8 63 (1000) ∈ zz_t := zz_in (i := 928) (by decide +kernel) rfl
theorem kX8_69 : Cond.constantLong RX8 69 (-3000) ∈ zz_t := zz_in (i := 932) (by decide +kernel) rfl
theorem kX8_71 : Cond.constantLong RX8 71 (3000) ∈ zz_t := zz_in (i := 933) (by decide +kernel) rfl
theorem kX8_81 : Cond.constantLong RX8 81 (60) ∈ zz_t := zz_in (i := 954) (by decide +kernel) rfl
theorem kX8_112 : Cond.constantLong RX8 112 (2) ∈ zz_t := zz_in (i := 859) (by decide +kernel) rfl
theorem kX8_137 : Cond.constantLong RX8 137 (100) ∈ zz_t := zz_in (i := 959) (by decide +kernel) rfl
theorem nL_7 : Cond.classLink RL 7 RX7 ∈ zz_t := zz_in (i := 64) (by decide +kernel) rfl
theorem nL_10 : Cond.classLink RL 10 RX8 ∈ zz_t := zz_in (i := 748) (by decide +kernel) rfl
theorem nX2_9 : Cond.classLink RX2 9 RX5 ∈ zz_t := zz_in (i := 206) (by decide +kernel) rfl
theorem nX4_9 : Cond.classLink RX4 9 RX6 ∈ zz_t := zz_in (i := 84) (by decide +kernel) rfl
theorem nX4_24 : Cond.classLink RX4 24 RX0 ∈ zz_t := zz_in (i := 86) (by decide +kernel) rfl
theorem nX5_9 : Cond.classLink RX5 9 RX4 ∈ zz_t := zz_in (i := 78) (by decide +kernel) rfl
theorem nX7_7 : Cond.classLink RX7 7 RX5 ∈ zz_t := zz_in (i := 72) (by decide +kernel) rfl
theorem nX7_16 : Cond.classLink RX7 16 RX2 ∈ zz_t := zz_in (i := 200) (by decide +kernel) rfl
theorem nX7_23 : Cond.classLink RX7 23 RX3 ∈ zz_t := zz_in (i := 220) (by decide +kernel) rfl
theorem nX7_30 : Cond.classLink RX7 30 RX1 ∈ zz_t := zz_in (i := 246) (by decide +kernel) rfl
theorem n_inst0 : Cond.instantiable (zz_cn 0) (zz_n 0) ∈ zz_t ∧ Cond.initialized (zz_cn 0) ∈ zz_t := ⟨zz_in (i := 106) (by decide +kernel) rfl, zz_in (i := 52) (by decide +kernel) rfl⟩
theorem n_inst1 : Cond.instantiable (zz_cn 1) (zz_n 1) ∈ zz_t ∧ Cond.initialized (zz_cn 1) ∈ zz_t := ⟨zz_in (i := 247) (by decide +kernel) rfl, zz_in (i := 55) (by decide +kernel) rfl⟩
theorem n_inst2 : Cond.instantiable (zz_cn 2) (zz_n 2) ∈ zz_t ∧ Cond.initialized (zz_cn 2) ∈ zz_t := ⟨zz_in (i := 201) (by decide +kernel) rfl, zz_in (i := 53) (by decide +kernel) rfl⟩
theorem n_inst3 : Cond.instantiable (zz_cn 3) (zz_n 3) ∈ zz_t ∧ Cond.initialized (zz_cn 3) ∈ zz_t := ⟨zz_in (i := 221) (by decide +kernel) rfl, zz_in (i := 54) (by decide +kernel) rfl⟩
theorem n_inst4 : Cond.instantiable (zz_cn 4) (zz_n 4) ∈ zz_t ∧ Cond.initialized (zz_cn 4) ∈ zz_t := ⟨zz_in (i := 79) (by decide +kernel) rfl, zz_in (i := 50) (by decide +kernel) rfl⟩
theorem n_inst5 : Cond.instantiable (zz_cn 5) (zz_n 5) ∈ zz_t ∧ Cond.initialized (zz_cn 5) ∈ zz_t := ⟨zz_in (i := 73) (by decide +kernel) rfl, zz_in (i := 49) (by decide +kernel) rfl⟩
theorem n_inst6 : Cond.instantiable (zz_cn 6) (zz_n 6) ∈ zz_t ∧ Cond.initialized (zz_cn 6) ∈ zz_t := ⟨zz_in (i := 88) (by decide +kernel) rfl, zz_in (i := 51) (by decide +kernel) rfl⟩
theorem n_inst7 : Cond.instantiable (zz_cn 7) (zz_n 7) ∈ zz_t ∧ Cond.initialized (zz_cn 7) ∈ zz_t := ⟨zz_in (i := 65) (by decide +kernel) rfl, zz_in (i := 48) (by decide +kernel) rfl⟩
theorem n_inst8 : Cond.instantiable (zz_cn 8) (zz_n 8) ∈ zz_t ∧ Cond.initialized (zz_cn 8) ∈ zz_t := ⟨zz_in (i := 749) (by decide +kernel) rfl, zz_in (i := 56) (by decide +kernel) rfl⟩
theorem n_objIn : Cond.instanceMethod objectInit ∈ zz_t := zz_in (i := 70) (by decide +kernel) rfl
theorem n_objCo : Cond.code objectInit ⟨#[0xb1]⟩ 1 none ∈ zz_t := zz_in (i := 71) (by decide +kernel) rfl
theorem n_absSt : Cond.static Lib.Math.abs.name ∈ zz_t := zz_in (i := 371) (by decide +kernel) rfl
theorem n_absCo : Cond.code Lib.Math.abs.name Lib.Math.abs.code 1 (some .int) ∈ zz_t := zz_in (i := 372) (by decide +kernel) rfl
theorem n_minSt : Cond.static Lib.Math.min.name ∈ zz_t := zz_in (i := 330) (by decide +kernel) rfl
theorem n_minCo : Cond.code Lib.Math.min.name Lib.Math.min.code 2 (some .int) ∈ zz_t := zz_in (i := 331) (by decide +kernel) rfl
theorem n_MathIni : Cond.initialized "java/lang/Math" ∈ zz_t := zz_in (i := 58) (by decide +kernel) rfl
theorem n_SysIni : Cond.initialized "java/lang/System" ∈ zz_t := zz_in (i := 57) (by decide +kernel) rfl
theorem n_acNa : Cond.native arraycopyName ∈ zz_t := zz_in (i := 306) (by decide +kernel) rfl
theorem n_acSt : Cond.static arraycopyName ∈ zz_t := zz_in (i := 305) (by decide +kernel) rfl
theorem n_arrI : Cond.arrayClass .int ∈ zz_t := zz_in (i := 105) (by decide +kernel) rfl
theorem n_arrZ : Cond.arrayClass .boolean ∈ zz_t := zz_in (i := 199) (by decide +kernel) rfl
theorem n_arrC : Cond.arrayClass .char ∈ zz_t := zz_in (i := 245) (by decide +kernel) rfl
end
section
theorem dX0_init_0 : decode cX0_init 0 = .ok (.aload_n 0, 1) := by decide +kernel
theorem dX0_init_1 : decode cX0_init 1 = .ok (.invokespecial 3, 3) := by decide +kernel
theorem dX0_init_4 : decode cX0_init 4 = .ok (.return_, 1) := by decide +kernel
theorem dX0_copyFrom_0 : decode cX0_copyFrom 0 = .ok (.aload_n 0, 1) := by decide +kernel
theorem dX0_copyFrom_1 : decode cX0_copyFrom 1 = .ok (.aload_n 1, 1) := by decide +kernel
theorem dX0_copyFrom_2 : decode cX0_copyFrom 2 = .ok (.getfield 9, 3) := by decide +kernel
theorem dX0_copyFrom_5 : decode cX0_copyFrom 5 = .ok (.putfield 9, 3) := by decide +kernel
theorem dX0_copyFrom_8 : decode cX0_copyFrom 8 = .ok (.aload_n 0, 1) := by decide +kernel
theorem dX0_copyFrom_9 : decode cX0_copyFrom 9 = .ok (.aload_n 1, 1) := by decide +kernel
theorem dX0_copyFrom_10 : decode cX0_copyFrom 10 = .ok (.getfield 15, 3) := by decide +kernel
theorem dX0_copyFrom_13 : decode cX0_copyFrom 13 = .ok (.putfield 15, 3) := by decide +kernel
theorem dX0_copyFrom_16 : decode cX0_copyFrom 16 = .ok (.aload_n 0, 1) := by decide +kernel
theorem dX0_copyFrom_17 : decode cX0_copyFrom 17 = .ok (.aload_n 1, 1) := by decide +kernel
theorem dX0_copyFrom_18 : decode cX0_copyFrom 18 = .ok (.getfield 18, 3) := by decide +kernel
theorem dX0_copyFrom_21 : decode cX0_copyFrom 21 = .ok (.putfield 18, 3) := by decide +kernel
theorem dX0_copyFrom_24 : decode cX0_copyFrom 24 = .ok (.aload_n 0, 1) := by decide +kernel
theorem dX0_copyFrom_25 : decode cX0_copyFrom 25 = .ok (.aload_n 1, 1) := by decide +kernel
theorem dX0_copyFrom_26 : decode cX0_copyFrom 26 = .ok (.getfield 21, 3) := by decide +kernel
theorem dX0_copyFrom_29 : decode cX0_copyFrom 29 = .ok (.putfield 21, 3) := by decide +kernel
theorem dX0_copyFrom_32 : decode cX0_copyFrom 32 = .ok (.aload_n 0, 1) := by decide +kernel
theorem dX0_copyFrom_33 : decode cX0_copyFrom 33 = .ok (.aload_n 1, 1) := by decide +kernel
theorem dX0_copyFrom_34 : decode cX0_copyFrom 34 = .ok (.getfield 24, 3) := by decide +kernel
theorem dX0_copyFrom_37 : decode cX0_copyFrom 37 = .ok (.putfield 24, 3) := by decide +kernel
theorem dX0_copyFrom_40 : decode cX0_copyFrom 40 = .ok (.aload_n 0, 1) := by decide +kernel
theorem dX0_copyFrom_41 : decode cX0_copyFrom 41 = .ok (.aload_n 1, 1) := by decide +kernel
theorem dX0_copyFrom_42 : decode cX0_copyFrom 42 = .ok (.getfield 27, 3) := by decide +kernel
theorem dX0_copyFrom_45 : decode cX0_copyFrom 45 = .ok (.putfield 27, 3) := by decide +kernel
theorem dX0_copyFrom_48 : decode cX0_copyFrom 48 = .ok (.aload_n 0, 1) := by decide +kernel
theorem dX0_copyFrom_49 : decode cX0_copyFrom 49 = .ok (.aload_n 1, 1) := by decide +kernel
theorem dX0_copyFrom_50 : decode cX0_copyFrom 50 = .ok (.getfield 30, 3) := by decide +kernel
theorem dX0_copyFrom_53 : decode cX0_copyFrom 53 = .ok (.putfield 30, 3) := by decide +kernel
theorem dX0_copyFrom_56 : decode cX0_copyFrom 56 = .ok (.aload_n 0, 1) := by decide +kernel
theorem dX0_copyFrom_57 : decode cX0_copyFrom 57 = .ok (.aload_n 1, 1) := by decide +kernel
theorem dX0_copyFrom_58 : decode cX0_copyFrom 58 = .ok (.getfield 33, 3) := by decide +kernel
theorem dX0_copyFrom_61 : decode cX0_copyFrom 61 = .ok (.putfield 33, 3) := by decide +kernel
theorem dX0_copyFrom_64 : decode cX0_copyFrom 64 = .ok (.return_, 1) := by decide +kernel
theorem dX0_weight_0 : decode cX0_weight 0 = .ok (.aload_n 0, 1) := by decide +kernel
theorem dX0_weight_1 : decode cX0_weight 1 = .ok (.getfield 18, 3) := by decide +kernel
theorem dX0_weight_4 : decode cX0_weight 4 = .ok (.aload_n 0, 1) := by decide +kernel
theorem dX0_weight_5 : decode cX0_weight 5 = .ok (.getfield 18, 3) := by decide +kernel
theorem dX0_weight_8 : decode cX0_weight 8 = .ok (.imul, 1) := by decide +kernel
theorem dX0_weight_9 : decode cX0_weight 9 = .ok (.i2l, 1) := by decide +kernel
theorem dX0_weight_10 : decode cX0_weight 10 = .ok (.ldc2_w 36, 3) := by decide +kernel
theorem dX0_weight_13 : decode cX0_weight 13 = .ok (.invokestatic 38, 3) := by decide +kernel
theorem dX0_weight_16 : decode cX0_weight 16 = .ok (.l2i, 1) := by decide +kernel
theorem dX0_weight_17 : decode cX0_weight 17 = .ok (.ireturn, 1) := by decide +kernel
theorem dX0_isByWallNow_0 : decode cX0_isByWallNow 0 = .ok (.aload_n 0, 1) := by decide +kernel
theorem dX0_isByWallNow_1 : decode cX0_isByWallNow 1 = .ok (.getfield 24, 3) := by decide +kernel
theorem dX0_isByWallNow_4 : decode cX0_isByWallNow 4 = .ok (.ifCond .eq 11, 3) := by decide +kernel
theorem dX0_isByWallNow_7 : decode cX0_isByWallNow 7 = .ok (.aload_n 0, 1) := by decide +kernel
theorem dX0_isByWallNow_8 : decode cX0_isByWallNow 8 = .ok (.getfield 24, 3) := by decide +kernel
theorem dX0_isByWallNow_11 : decode cX0_isByWallNow 11 = .ok (.iconst 4, 1) := by decide +kernel
theorem dX0_isByWallNow_12 : decode cX0_isByWallNow 12 = .ok (.if_icmp .ne 7, 3) := by decide +kernel
theorem dX0_isByWallNow_15 : decode cX0_isByWallNow 15 = .ok (.iconst 1, 1) := by decide +kernel
theorem dX0_isByWallNow_16 : decode cX0_isByWallNow 16 = .ok (.goto 4, 3) := by decide +kernel
theorem dX0_isByWallNow_19 : decode cX0_isByWallNow 19 = .ok (.iconst 0, 1) := by decide +kernel
theorem dX0_isByWallNow_20 : decode cX0_isByWallNow 20 = .ok (.ireturn, 1) := by decide +kernel
theorem dX1_init_0 : decode cX1_init 0 = .ok (.aload_n 0, 1) := by decide +kernel
theorem dX1_init_1 : decode cX1_init 1 = .ok (.invokespecial 3, 3) := by decide +kernel
theorem dX1_init_4 : decode cX1_init 4 = .ok (.aload_n 0, 1) := by decide +kernel
theorem dX1_init_5 : decode cX1_init 5 = .ok (.sipush 721, 3) := by decide +kernel
theorem dX1_init_8 : decode cX1_init 8 = .ok (.newarray .int, 2) := by decide +kernel
theorem dX1_init_10 : decode cX1_init 10 = .ok (.putfield 9, 3) := by decide +kernel
theorem dX1_init_13 : decode cX1_init 13 = .ok (.return_, 1) := by decide +kernel
theorem dX1_lay_0 : decode cX1_lay 0 = .ok (.iconst 4, 1) := by decide +kernel
theorem dX1_lay_1 : decode cX1_lay 1 = .ok (.iload_n 2, 1) := by decide +kernel
theorem dX1_lay_2 : decode cX1_lay 2 = .ok (.imul, 1) := by decide +kernel
theorem dX1_lay_3 : decode cX1_lay 3 = .ok (.invokestatic 15, 3) := by decide +kernel
theorem dX1_lay_6 : decode cX1_lay 6 = .ok (.i2l, 1) := by decide +kernel
theorem dX1_lay_7 : decode cX1_lay 7 = .ok (.lstore 4, 2) := by decide +kernel
theorem dX1_lay_9 : decode cX1_lay 9 = .ok (.lload 4, 2) := by decide +kernel
theorem dX1_lay_11 : decode cX1_lay 11 = .ok (.lstore 6, 2) := by decide +kernel
theorem dX1_lay_13 : decode cX1_lay 13 = .ok (.ldc2_w 19, 3) := by decide +kernel
theorem dX1_lay_16 : decode cX1_lay 16 = .ok (.lstore 8, 2) := by decide +kernel
theorem dX1_lay_18 : decode cX1_lay 18 = .ok (.lconst 0, 1) := by decide +kernel
theorem dX1_lay_19 : decode cX1_lay 19 = .ok (.lstore 10, 2) := by decide +kernel
theorem dX1_lay_21 : decode cX1_lay 21 = .ok (.iload_n 1, 1) := by decide +kernel
theorem dX1_lay_22 : decode cX1_lay 22 = .ok (.ifCond .eq 49, 3) := by decide +kernel
theorem dX1_lay_25 : decode cX1_lay 25 = .ok (.ldc2_w 19, 3) := by decide +kernel
theorem dX1_lay_28 : decode cX1_lay 28 = .ok (.sipush 360, 3) := by decide +kernel
theorem dX1_lay_31 : decode cX1_lay 31 = .ok (.iconst 4, 1) := by decide +kernel
theorem dX1_lay_32 : decode cX1_lay 32 = .ok (.iload_n 2, 1) := by decide +kernel
theorem dX1_lay_33 : decode cX1_lay 33 = .ok (.imul, 1) := by decide +kernel
theorem dX1_lay_34 : decode cX1_lay 34 = .ok (.iadd, 1) := by decide +kernel
theorem dX1_lay_35 : decode cX1_lay 35 = .ok (.invokestatic 15, 3) := by decide +kernel
theorem dX1_lay_38 : decode cX1_lay 38 = .ok (.i2l, 1) := by decide +kernel
theorem dX1_lay_39 : decode cX1_lay 39 = .ok (.lmul, 1) := by decide +kernel
theorem dX1_lay_40 : decode cX1_lay 40 = .ok (.lstore 6, 2) := by decide +kernel
theorem dX1_lay_42 : decode cX1_lay 42 = .ok (.ldc2_w 19, 3) := by decide +kernel
theorem dX1_lay_45 : decode cX1_lay 45 = .ok (.sipush 360, 3) := by decide +kernel
theorem dX1_lay_48 : decode cX1_lay 48 = .ok (.iconst 4, 1) := by decide +kernel
theorem dX1_lay_49 : decode cX1_lay 49 = .ok (.iload_n 3, 1) := by decide +kernel
theorem dX1_lay_50 : decode cX1_lay 50 = .ok (.imul, 1) := by decide +kernel
theorem dX1_lay_51 : decode cX1_lay 51 = .ok (.iadd, 1) := by decide +kernel
theorem dX1_lay_52 : decode cX1_lay 52 = .ok (.invokestatic 15, 3) := by decide +kernel
theorem dX1_lay_55 : decode cX1_lay 55 = .ok (.i2l, 1) := by decide +kernel
theorem dX1_lay_56 : decode cX1_lay 56 = .ok (.lmul, 1) := by decide +kernel
theorem dX1_lay_57 : decode cX1_lay 57 = .ok (.lstore 8, 2) := by decide +kernel
theorem dX1_lay_59 : decode cX1_lay 59 = .ok (.iconst 4, 1) := by decide +kernel
theorem dX1_lay_60 : decode cX1_lay 60 = .ok (.iload_n 3, 1) := by decide +kernel
theorem dX1_lay_61 : decode cX1_lay 61 = .ok (.imul, 1) := by decide +kernel
theorem dX1_lay_62 : decode cX1_lay 62 = .ok (.invokestatic 15, 3) := by decide +kernel
theorem dX1_lay_65 : decode cX1_lay 65 = .ok (.i2l, 1) := by decide +kernel
theorem dX1_lay_66 : decode cX1_lay 66 = .ok (.lload 4, 2) := by decide +kernel
theorem dX1_lay_68 : decode cX1_lay 68 = .ok (.lmul, 1) := by decide +kernel
theorem dX1_lay_69 : decode cX1_lay 69 = .ok (.lstore 10, 2) := by decide +kernel
theorem dX1_lay_71 : decode cX1_lay 71 = .ok (.sipush (-360), 3) := by decide +kernel
theorem dX1_lay_74 : decode cX1_lay 74 = .ok (.istore 12, 2) := by decide +kernel
theorem dX1_lay_76 : decode cX1_lay 76 = .ok (.iload 12, 2) := by decide +kernel
theorem dX1_lay_78 : decode cX1_lay 78 = .ok (.sipush 360, 3) := by decide +kernel
theorem dX1_lay_81 : decode cX1_lay 81 = .ok (.if_icmp .gt 59, 3) := by decide +kernel
theorem dX1_lay_84 : decode cX1_lay 84 = .ok (.iload 12, 2) := by decide +kernel
theorem dX1_lay_86 : decode cX1_lay 86 = .ok (.invokestatic 15, 3) := by decide +kernel
theorem dX1_lay_89 : decode cX1_lay 89 = .ok (.i2l, 1) := by decide +kernel
theorem dX1_lay_90 : decode cX1_lay 90 = .ok (.lstore 13, 2) := by decide +kernel
theorem dX1_lay_92 : decode cX1_lay 92 = .ok (.sipush 360, 3) := by decide +kernel
theorem dX1_lay_95 : decode cX1_lay 95 = .ok (.iload 12, 2) := by decide +kernel
theorem dX1_lay_97 : decode cX1_lay 97 = .ok (.iadd, 1) := by decide +kernel
theorem dX1_lay_98 : decode cX1_lay 98 = .ok (.invokestatic 15, 3) := by decide +kernel
theorem dX1_lay_101 : decode cX1_lay 101 = .ok (.i2l, 1) := by decide +kernel
theorem dX1_lay_102 : decode cX1_lay 102 = .ok (.lstore 15, 2) := by decide +kernel
theorem dX1_lay_104 : decode cX1_lay 104 = .ok (.aload_n 0, 1) := by decide +kernel
theorem dX1_lay_105 : decode cX1_lay 105 = .ok (.getfield 9, 3) := by decide +kernel
theorem dX1_lay_108 : decode cX1_lay 108 = .ok (.iload 12, 2) := by decide +kernel
theorem dX1_lay_110 : decode cX1_lay 110 = .ok (.sipush 360, 3) := by decide +kernel
theorem dX1_lay_113 : decode cX1_lay 113 = .ok (.iadd, 1) := by decide +kernel
theorem dX1_lay_114 : decode cX1_lay 114 = .ok (.lload 6, 2) := by decide +kernel
theorem dX1_lay_116 : decode cX1_lay 116 = .ok (.lload 13, 2) := by decide +kernel
theorem dX1_lay_118 : decode cX1_lay 118 = .ok (.lmul, 1) := by decide +kernel
theorem dX1_lay_119 : decode cX1_lay 119 = .ok (.lload 8, 2) := by decide +kernel
theorem dX1_lay_121 : decode cX1_lay 121 = .ok (.lload 15, 2) := by decide +kernel
theorem dX1_lay_123 : decode cX1_lay 123 = .ok (.lmul, 1) := by decide +kernel
theorem dX1_lay_124 : decode cX1_lay 124 = .ok (.lload 10, 2) := by decide +kernel
theorem dX1_lay_126 : decode cX1_lay 126 = .ok (.lload 13, 2) := by decide +kernel
theorem dX1_lay_128 : decode cX1_lay 128 = .ok (.lmul, 1) := by decide +kernel
theorem dX1_lay_129 : decode cX1_lay 129 = .ok (.ladd, 1) := by decide +kernel
theorem dX1_lay_130 : decode cX1_lay 130 = .ok (.invokestatic 21, 3) := by decide +kernel
theorem dX1_lay_133 : decode cX1_lay 133 = .ok (.iastore, 1) := by decide +kernel
theorem dX1_lay_134 : decode cX1_lay 134 = .ok (.iinc 12 1, 3) := by decide +kernel
theorem dX1_lay_137 : decode cX1_lay 137 = .ok (.goto (-61), 3) := by decide +kernel
theorem dX1_lay_140 : decode cX1_lay 140 = .ok (.return_, 1) := by decide +kernel
theorem dX1_offsetOfShadow_0 : decode cX1_offsetOfShadow 0 = .ok (.lload_n 2, 1) := by decide +kernel
theorem dX1_offsetOfShadow_1 : decode cX1_offsetOfShadow 1 = .ok (.lconst 0, 1) := by decide +kernel
theorem dX1_offsetOfShadow_2 : decode cX1_offsetOfShadow 2 = .ok (.lcmp, 1) := by decide +kernel
theorem dX1_offsetOfShadow_3 : decode cX1_offsetOfShadow 3 = .ok (.ifCond .gt 6, 3) := by decide +kernel
theorem dX1_offsetOfShadow_6 : decode cX1_offsetOfShadow 6 = .ok (.ldc 25, 2) := by decide +kernel
theorem dX1_offsetOfShadow_8 : decode cX1_offsetOfShadow 8 = .ok (.ireturn, 1) := by decide +kernel
theorem dX1_offsetOfShadow_9 : decode cX1_offsetOfShadow 9 = .ok (.ldc2_w 26, 3) := by decide +kernel
theorem dX1_offsetOfShadow_12 : decode cX1_offsetOfShadow 12 = .ok (.lload_n 0, 1) := by decide +kernel
theorem dX1_offsetOfShadow_13 : decode cX1_offsetOfShadow 13 = .ok (.lmul, 1) := by decide +kernel
theorem dX1_offsetOfShadow_14 : decode cX1_offsetOfShadow 14 = .ok (.lload_n 2, 1) := by decide +kernel
theorem dX1_offsetOfShadow_15 : decode cX1_offsetOfShadow 15 = .ok (.invokestatic 28, 3) := by decide +kernel
theorem dX1_offsetOfShadow_18 : decode cX1_offsetOfShadow 18 = .ok (.lstore 4, 2) := by decide +kernel
theorem dX1_offsetOfShadow_20 : decode cX1_offsetOfShadow 20 = .ok (.lload 4, 2) := by decide +kernel
theorem dX1_offsetOfShadow_22 : decode cX1_offsetOfShadow 22 = .ok (.ldc2_w 32, 3) := by decide +kernel
theorem dX1_offsetOfShadow_25 : decode cX1_offsetOfShadow 25 = .ok (.lcmp, 1) := by decide +kernel
theorem dX1_offsetOfShadow_26 : decode cX1_offsetOfShadow 26 = .ok (.ifCond .lt 12, 3) := by decide +kernel
theorem dX1_offsetOfShadow_29 : decode cX1_offsetOfShadow 29 = .ok (.lload 4, 2) := by decide +kernel
theorem dX1_offsetOfShadow_31 : decode cX1_offsetOfShadow 31 = .ok (.ldc2_w 34, 3) := by decide +kernel
theorem dX1_offsetOfShadow_34 : decode cX1_offsetOfShadow 34 = .ok (.lcmp, 1) := by decide +kernel
theorem dX1_offsetOfShadow_35 : decode cX1_offsetOfShadow 35 = .ok (.ifCond .le 8, 3) := by decide +kernel
theorem dX1_offsetOfShadow_38 : decode cX1_offsetOfShadow 38 = .ok (.ldc 25, 2) := by decide +kernel
theorem dX1_offsetOfShadow_40 : decode cX1_offsetOfShadow 40 = .ok (.goto 6, 3) := by decide +kernel
theorem dX1_offsetOfShadow_43 : decode cX1_offsetOfShadow 43 = .ok (.lload 4, 2) := by decide +kernel
theorem dX1_offsetOfShadow_45 : decode cX1_offsetOfShadow 45 = .ok (.l2i, 1) := by decide +kernel
theorem dX1_offsetOfShadow_46 : decode cX1_offsetOfShadow 46 = .ok (.ireturn, 1) := by decide +kernel
theorem dX1_offsetAt_0 : decode cX1_offsetAt 0 = .ok (.iload_n 1, 1) := by decide +kernel
theorem dX1_offsetAt_1 : decode cX1_offsetAt 1 = .ok (.sipush (-360), 3) := by decide +kernel
theorem dX1_offsetAt_4 : decode cX1_offsetAt 4 = .ok (.sipush 360, 3) := by decide +kernel
theorem dX1_offsetAt_7 : decode cX1_offsetAt 7 = .ok (.invokestatic 36, 3) := by decide +kernel
theorem dX1_offsetAt_10 : decode cX1_offsetAt 10 = .ok (.ifCond .ne 6, 3) := by decide +kernel
theorem dX1_offsetAt_13 : decode cX1_offsetAt 13 = .ok (.ldc 25, 2) := by decide +kernel
theorem dX1_offsetAt_15 : decode cX1_offsetAt 15 = .ok (.ireturn, 1) := by decide +kernel
theorem dX1_offsetAt_16 : decode cX1_offsetAt 16 = .ok (.aload_n 0, 1) := by decide +kernel
theorem dX1_offsetAt_17 : decode cX1_offsetAt 17 = .ok (.getfield 9, 3) := by decide +kernel
theorem dX1_offsetAt_20 : decode cX1_offsetAt 20 = .ok (.iload_n 1, 1) := by decide +kernel
theorem dX1_offsetAt_21 : decode cX1_offsetAt 21 = .ok (.sipush 360, 3) := by decide +kernel
theorem dX1_offsetAt_24 : decode cX1_offsetAt 24 = .ok (.iadd, 1) := by decide +kernel
theorem dX1_offsetAt_25 : decode cX1_offsetAt 25 = .ok (.iaload, 1) := by decide +kernel
theorem dX1_offsetAt_26 : decode cX1_offsetAt 26 = .ok (.ireturn, 1) := by decide +kernel
theorem dX1_countLines_0 : decode cX1_countLines 0 = .ok (.iconst 0, 1) := by decide +kernel
theorem dX1_countLines_1 : decode cX1_countLines 1 = .ok (.istore_n 1, 1) := by decide +kernel
theorem dX1_countLines_2 : decode cX1_countLines 2 = .ok (.sipush (-360), 3) := by decide +kernel
theorem dX1_countLines_5 : decode cX1_countLines 5 = .ok (.istore_n 2, 1) := by decide +kernel
theorem dX1_countLines_6 : decode cX1_countLines 6 = .ok (.iload_n 2, 1) := by decide +kernel
theorem dX1_countLines_7 : decode cX1_countLines 7 = .ok (.sipush 360, 3) := by decide +kernel
theorem dX1_countLines_10 : decode cX1_countLines 10 = .ok (.if_icmp .gt 22, 3) := by decide +kernel
theorem dX1_countLines_13 : decode cX1_countLines 13 = .ok (.aload_n 0, 1) := by decide +kernel
theorem dX1_countLines_14 : decode cX1_countLines 14 = .ok (.iload_n 2, 1) := by decide +kernel
theorem dX1_countLines_15 : decode cX1_countLines 15 = .ok (.invokevirtual 40, 3) := by decide +kernel
theorem dX1_countLines_18 : decode cX1_countLines 18 = .ok (.ldc 25, 2) := by decide +kernel
theorem dX1_countLines_20 : decode cX1_countLines 20 = .ok (.if_icmp .eq 6, 3) := by decide +kernel
theorem dX1_countLines_23 : decode cX1_countLines 23 = .ok (.iinc 1 1, 3) := by decide +kernel
theorem dX1_countLines_26 : decode cX1_countLines 26 = .ok (.iinc 2 60, 3) := by decide +kernel
theorem dX1_countLines_29 : decode cX1_countLines 29 = .ok (.goto (-23), 3) := by decide +kernel
theorem dX1_countLines_32 : decode cX1_countLines 32 = .ok (.iload_n 1, 1) := by decide +kernel
theorem dX1_countLines_33 : decode cX1_countLines 33 = .ok (.ireturn, 1) := by decide +kernel
theorem dX1_firstLine_0 : decode cX1_firstLine 0 = .ok (.sipush (-360), 3) := by decide +kernel
theorem dX1_firstLine_3 : decode cX1_firstLine 3 = .ok (.istore_n 1, 1) := by decide +kernel
theorem dX1_firstLine_4 : decode cX1_firstLine 4 = .ok (.iload_n 1, 1) := by decide +kernel
theorem dX1_firstLine_5 : decode cX1_firstLine 5 = .ok (.sipush 360, 3) := by decide +kernel
theorem dX1_firstLine_8 : decode cX1_firstLine 8 = .ok (.if_icmp .gt 21, 3) := by decide +kernel
theorem dX1_firstLine_11 : decode cX1_firstLine 11 = .ok (.aload_n 0, 1) := by decide +kernel
theorem dX1_firstLine_12 : decode cX1_firstLine 12 = .ok (.iload_n 1, 1) := by decide +kernel
theorem dX1_firstLine_13 : decode cX1_firstLine 13 = .ok (.invokevirtual 40, 3) := by decide +kernel
theorem dX1_firstLine_16 : decode cX1_firstLine 16 = .ok (.ldc 25, 2) := by decide +kernel
theorem dX1_firstLine_18 : decode cX1_firstLine 18 = .ok (.if_icmp .eq 5, 3) := by decide +kernel
theorem dX1_firstLine_21 : decode cX1_firstLine 21 = .ok (.iload_n 1, 1) := by decide +kernel
theorem dX1_firstLine_22 : decode cX1_firstLine 22 = .ok (.ireturn, 1) := by decide +kernel
theorem dX1_firstLine_23 : decode cX1_firstLine 23 = .ok (.iinc 1 60, 3) := by decide +kernel
theorem dX1_firstLine_26 : decode cX1_firstLine 26 = .ok (.goto (-22), 3) := by decide +kernel
theorem dX1_firstLine_29 : decode cX1_firstLine 29 = .ok (.ldc 25, 2) := by decide +kernel
theorem dX1_firstLine_31 : decode cX1_firstLine 31 = .ok (.ireturn, 1) := by decide +kernel
theorem dX1_lastLine_0 : decode cX1_lastLine 0 = .ok (.sipush 360, 3) := by decide +kernel
theorem dX1_lastLine_3 : decode cX1_lastLine 3 = .ok (.istore_n 1, 1) := by decide +kernel
theorem dX1_lastLine_4 : decode cX1_lastLine 4 = .ok (.iload_n 1, 1) := by decide +kernel
theorem dX1_lastLine_5 : decode cX1_lastLine 5 = .ok (.sipush (-360), 3) := by decide +kernel
theorem dX1_lastLine_8 : decode cX1_lastLine 8 = .ok (.if_icmp .lt 21, 3) := by decide +kernel
theorem dX1_lastLine_11 : decode cX1_lastLine 11 = .ok (.aload_n 0, 1) := by decide +kernel
theorem dX1_lastLine_12 : decode cX1_lastLine 12 = .ok (.iload_n 1, 1) := by decide +kernel
theorem dX1_lastLine_13 : decode cX1_lastLine 13 = .ok (.invokevirtual 40, 3) := by decide +kernel
theorem dX1_lastLine_16 : decode cX1_lastLine 16 = .ok (.ldc 25, 2) := by decide +kernel
theorem dX1_lastLine_18 : decode cX1_lastLine 18 = .ok (.if_icmp .eq 5, 3) := by decide +kernel
theorem dX1_lastLine_21 : decode cX1_lastLine 21 = .ok (.iload_n 1, 1) := by decide +kernel
theorem dX1_lastLine_22 : decode cX1_lastLine 22 = .ok (.ireturn, 1) := by decide +kernel
theorem dX1_lastLine_23 : decode cX1_lastLine 23 = .ok (.iinc 1 (-60), 3) := by decide +kernel
theorem dX1_lastLine_26 : decode cX1_lastLine 26 = .ok (.goto (-22), 3) := by decide +kernel
theorem dX1_lastLine_29 : decode cX1_lastLine 29 = .ok (.ldc 25, 2) := by decide +kernel
theorem dX1_lastLine_31 : decode cX1_lastLine 31 = .ok (.ireturn, 1) := by decide +kernel
theorem dX1_readingByLines_0 : decode cX1_readingByLines 0 = .ok (.sipush (-360), 3) := by decide +kernel
theorem dX1_readingByLines_3 : decode cX1_readingByLines 3 = .ok (.istore_n 2, 1) := by decide +kernel
theorem dX1_readingByLines_4 : decode cX1_readingByLines 4 = .ok (.iload_n 2, 1) := by decide +kernel
theorem dX1_readingByLines_5 : decode cX1_readingByLines 5 = .ok (.sipush 360, 3) := by decide +kernel
theorem dX1_readingByLines_8 : decode cX1_readingByLines 8 = .ok (.if_icmp .ge 81, 3) := by decide +kernel
theorem dX1_readingByLines_11 : decode cX1_readingByLines 11 = .ok (.aload_n 0, 1) := by decide +kernel
theorem dX1_readingByLines_12 : decode cX1_readingByLines 12 = .ok (.iload_n 2, 1) := by decide +kernel
theorem dX1_readingByLines_13 : decode cX1_readingByLines 13 = .ok (.invokevirtual 40, 3) := by decide +kernel
theorem dX1_readingByLines_16 : decode cX1_readingByLines 16 = .ok (.istore_n 3, 1) := by decide +kernel
theorem dX1_readingByLines_17 : decode cX1_readingByLines 17 = .ok (.aload_n 0, 1) := by decide +kernel
theorem dX1_readingByLines_18 : decode cX1_readingByLines 18 = .ok (.iload_n 2, 1) := by decide +kernel
theorem dX1_readingByLines_19 : decode cX1_readingByLines 19 = .ok (.bipush 60, 2) := by decide +kernel
theorem dX1_readingByLines_21 : decode cX1_readingByLines 21 = .ok (.iadd, 1) := by decide +kernel
theorem dX1_readingByLines_22 : decode cX1_readingByLines 22 = .ok (.invokevirtual 40, 3) := by decide +kernel
theorem dX1_readingByLines_25 : decode cX1_readingByLines 25 = .ok (.istore 4, 2) := by decide +kernel
theorem dX1_readingByLines_27 : decode cX1_readingByLines 27 = .ok (.iload_n 3, 1) := by decide +kernel
theorem dX1_readingByLines_28 : decode cX1_readingByLines 28 = .ok (.ldc 25, 2) := by decide +kernel
theorem dX1_readingByLines_30 : decode cX1_readingByLines 30 = .ok (.if_icmp .eq 53, 3) := by decide +kernel
theorem dX1_readingByLines_33 : decode cX1_readingByLines 33 = .ok (.iload 4, 2) := by decide +kernel
theorem dX1_readingByLines_35 : decode cX1_readingByLines 35 = .ok (.ldc 25, 2) := by decide +kernel
theorem dX1_readingByLines_37 : decode cX1_readingByLines 37 = .ok (.if_icmp .eq 46, 3) := by decide +kernel
theorem dX1_readingByLines_40 : decode cX1_readingByLines 40 = .ok (.iload_n 3, 1) := by decide +kernel
theorem dX1_readingByLines_41 : decode cX1_readingByLines 41 = .ok (.iload_n 1, 1) := by decide +kernel
theorem dX1_readingByLines_42 : decode cX1_readingByLines 42 = .ok (.if_icmp .gt 41, 3) := by decide +kernel
theorem dX1_readingByLines_45 : decode cX1_readingByLines 45 = .ok (.iload 4, 2) := by decide +kernel
theorem dX1_readingByLines_47 : decode cX1_readingByLines 47 = .ok (.iload_n 1, 1) := by decide +kernel
theorem dX1_readingByLines_48 : decode cX1_readingByLines 48 = .ok (.if_icmp .ge 6, 3) := by decide +kernel
theorem dX1_readingByLines_51 : decode cX1_readingByLines 51 = .ok (.goto 32, 3) := by decide +kernel
theorem dX1_readingByLines_54 : decode cX1_readingByLines 54 = .ok (.iload_n 3, 1) := by decide +kernel
theorem dX1_readingByLines_55 : decode cX1_readingByLines 55 = .ok (.iload 4, 2) := by decide +kernel
theorem dX1_readingByLines_57 : decode cX1_readingByLines 57 = .ok (.if_icmp .ne 7, 3) := by decide +kernel
theorem dX1_readingByLines_60 : decode cX1_readingByLines 60 = .ok (.iload_n 2, 1) := by decide +kernel
theorem dX1_readingByLines_61 : decode cX1_readingByLines 61 = .ok (.goto 21, 3) := by decide +kernel
theorem dX1_readingByLines_64 : decode cX1_readingByLines 64 = .ok (.iload_n 2, 1) := by decide +kernel
theorem dX1_readingByLines_65 : decode cX1_readingByLines 65 = .ok (.bipush 60, 2) := by decide +kernel
theorem dX1_readingByLines_67 : decode cX1_readingByLines 67 = .ok (.iload_n 1, 1) := by decide +kernel
theorem dX1_readingByLines_68 : decode cX1_readingByLines 68 = .ok (.iload_n 3, 1) := by decide +kernel
theorem dX1_readingByLines_69 : decode cX1_readingByLines 69 = .ok (.isub, 1) := by decide +kernel
theorem dX1_readingByLines_70 : decode cX1_readingByLines 70 = .ok (.imul, 1) := by decide +kernel
theorem dX1_readingByLines_71 : decode cX1_readingByLines 71 = .ok (.i2l, 1) := by decide +kernel
theorem dX1_readingByLines_72 : decode cX1_readingByLines 72 = .ok (.iload 4, 2) := by decide +kernel
theorem dX1_readingByLines_74 : decode cX1_readingByLines 74 = .ok (.iload_n 3, 1) := by decide +kernel
theorem dX1_readingByLines_75 : decode cX1_readingByLines 75 = .ok (.isub, 1) := by decide +kernel
theorem dX1_readingByLines_76 : decode cX1_readingByLines 76 = .ok (.i2l, 1) := by decide +kernel
theorem dX1_readingByLines_77 : decode cX1_readingByLines 77 = .ok (.invokestatic 28, 3) := by decide +kernel
theorem dX1_readingByLines_80 : decode cX1_readingByLines 80 = .ok (.l2i, 1) := by decide +kernel
theorem dX1_readingByLines_81 : decode cX1_readingByLines 81 = .ok (.iadd, 1) := by decide +kernel
theorem dX1_readingByLines_82 : decode cX1_readingByLines 82 = .ok (.ireturn, 1) := by decide +kernel
theorem dX1_readingByLines_83 : decode cX1_readingByLines 83 = .ok (.iinc 2 60, 3) := by decide +kernel
theorem dX1_readingByLines_86 : decode cX1_readingByLines 86 = .ok (.goto (-82), 3) := by decide +kernel
theorem dX1_readingByLines_89 : decode cX1_readingByLines 89 = .ok (.ldc 25, 2) := by decide +kernel
theorem dX1_readingByLines_91 : decode cX1_readingByLines 91 = .ok (.ireturn, 1) := by decide +kernel
theorem dX1_readingByShadow_0 : decode cX1_readingByShadow 0 = .ok (.ldc 25, 2) := by decide +kernel
theorem dX1_readingByShadow_2 : decode cX1_readingByShadow 2 = .ok (.istore_n 2, 1) := by decide +kernel
theorem dX1_readingByShadow_3 : decode cX1_readingByShadow 3 = .ok (.iconst 0, 1) := by decide +kernel
theorem dX1_readingByShadow_4 : decode cX1_readingByShadow 4 = .ok (.istore_n 3, 1) := by decide +kernel
theorem dX1_readingByShadow_5 : decode cX1_readingByShadow 5 = .ok (.sipush (-360), 3) := by decide +kernel
theorem dX1_readingByShadow_8 : decode cX1_readingByShadow 8 = .ok (.istore 4, 2) := by decide +kernel
theorem dX1_readingByShadow_10 : decode cX1_readingByShadow 10 = .ok (.iload 4, 2) := by decide +kernel
theorem dX1_readingByShadow_12 : decode cX1_readingByShadow 12 = .ok (.sipush 360, 3) := by decide +kernel
theorem dX1_readingByShadow_15 : decode cX1_readingByShadow 15 = .ok (.if_icmp .gt 54, 3) := by decide +kernel
theorem dX1_readingByShadow_18 : decode cX1_readingByShadow 18 = .ok (.aload_n 0, 1) := by decide +kernel
theorem dX1_readingByShadow_19 : decode cX1_readingByShadow 19 = .ok (.iload 4, 2) := by decide +kernel
theorem dX1_readingByShadow_21 : decode cX1_readingByShadow 21 = .ok (.invokevirtual 40, 3) := by decide +kernel
theorem dX1_readingByShadow_24 : decode cX1_readingByShadow 24 = .ok (.istore 5, 2) := by decide +kernel
theorem dX1_readingByShadow_26 : decode cX1_readingByShadow 26 = .ok (.iload 5, 2) := by decide +kernel
theorem dX1_readingByShadow_28 : decode cX1_readingByShadow 28 = .ok (.ldc 25, 2) := by decide +kernel
theorem dX1_readingByShadow_30 : decode cX1_readingByShadow 30 = .ok (.if_icmp .ne 6, 3) := by decide +kernel
theorem dX1_readingByShadow_33 : decode cX1_readingByShadow 33 = .ok (.goto 30, 3) := by decide +kernel
theorem dX1_readingByShadow_36 : decode cX1_readingByShadow 36 = .ok (.iload 5, 2) := by decide +kernel
theorem dX1_readingByShadow_38 : decode cX1_readingByShadow 38 = .ok (.iload_n 1, 1) := by decide +kernel
theorem dX1_readingByShadow_39 : decode cX1_readingByShadow 39 = .ok (.isub, 1) := by decide +kernel
theorem dX1_readingByShadow_40 : decode cX1_readingByShadow 40 = .ok (.invokestatic 43, 3) := by decide +kernel
theorem dX1_readingByShadow_43 : decode cX1_readingByShadow 43 = .ok (.istore 6, 2) := by decide +kernel
theorem dX1_readingByShadow_45 : decode cX1_readingByShadow 45 = .ok (.iload_n 2, 1) := by decide +kernel
theorem dX1_readingByShadow_46 : decode cX1_readingByShadow 46 = .ok (.ldc 25, 2) := by decide +kernel
theorem dX1_readingByShadow_48 : decode cX1_readingByShadow 48 = .ok (.if_icmp .eq 9, 3) := by decide +kernel
theorem dX1_readingByShadow_51 : decode cX1_readingByShadow 51 = .ok (.iload 6, 2) := by decide +kernel
theorem dX1_readingByShadow_53 : decode cX1_readingByShadow 53 = .ok (.iload_n 3, 1) := by decide +kernel
theorem dX1_readingByShadow_54 : decode cX1_readingByShadow 54 = .ok (.if_icmp .ge 9, 3) := by decide +kernel
theorem dX1_readingByShadow_57 : decode cX1_readingByShadow 57 = .ok (.iload 6, 2) := by decide +kernel
theorem dX1_readingByShadow_59 : decode cX1_readingByShadow 59 = .ok (.istore_n 3, 1) := by decide +kernel
theorem dX1_readingByShadow_60 : decode cX1_readingByShadow 60 = .ok (.iload 4, 2) := by decide +kernel
theorem dX1_readingByShadow_62 : decode cX1_readingByShadow 62 = .ok (.istore_n 2, 1) := by decide +kernel
theorem dX1_readingByShadow_63 : decode cX1_readingByShadow 63 = .ok (.iinc 4 1, 3) := by decide +kernel
theorem dX1_readingByShadow_66 : decode cX1_readingByShadow 66 = .ok (.goto (-56), 3) := by decide +kernel
theorem dX1_readingByShadow_69 : decode cX1_readingByShadow 69 = .ok (.iload_n 2, 1) := by decide +kernel
theorem dX1_readingByShadow_70 : decode cX1_readingByShadow 70 = .ok (.ireturn, 1) := by decide +kernel
theorem dX1_compareReadings_0 : decode cX1_compareReadings 0 = .ok (.aload_n 0, 1) := by decide +kernel
theorem dX1_compareReadings_1 : decode cX1_compareReadings 1 = .ok (.iconst 0, 1) := by decide +kernel
theorem dX1_compareReadings_2 : decode cX1_compareReadings 2 = .ok (.putfield 48, 3) := by decide +kernel
theorem dX1_compareReadings_5 : decode cX1_compareReadings 5 = .ok (.aload_n 0, 1) := by decide +kernel
theorem dX1_compareReadings_6 : decode cX1_compareReadings 6 = .ok (.ldc 25, 2) := by decide +kernel
theorem dX1_compareReadings_8 : decode cX1_compareReadings 8 = .ok (.putfield 52, 3) := by decide +kernel
theorem dX1_compareReadings_11 : decode cX1_compareReadings 11 = .ok (.sipush (-360), 3) := by decide +kernel
theorem dX1_compareReadings_14 : decode cX1_compareReadings 14 = .ok (.istore_n 1, 1) := by decide +kernel
theorem dX1_compareReadings_15 : decode cX1_compareReadings 15 = .ok (.iload_n 1, 1) := by decide +kernel
theorem dX1_compareReadings_16 : decode cX1_compareReadings 16 = .ok (.sipush 360, 3) := by decide +kernel
theorem dX1_compareReadings_19 : decode cX1_compareReadings 19 = .ok (.if_icmp .gt 78, 3) := by decide +kernel
theorem dX1_compareReadings_22 : decode cX1_compareReadings 22 = .ok (.aload_n 0, 1) := by decide +kernel
theorem dX1_compareReadings_23 : decode cX1_compareReadings 23 = .ok (.iload_n 1, 1) := by decide +kernel
theorem dX1_compareReadings_24 : decode cX1_compareReadings 24 = .ok (.invokevirtual 40, 3) := by decide +kernel
theorem dX1_compareReadings_27 : decode cX1_compareReadings 27 = .ok (.istore_n 2, 1) := by decide +kernel
theorem dX1_compareReadings_28 : decode cX1_compareReadings 28 = .ok (.iload_n 2, 1) := by decide +kernel
theorem dX1_compareReadings_29 : decode cX1_compareReadings 29 = .ok (.ldc 25, 2) := by decide +kernel
theorem dX1_compareReadings_31 : decode cX1_compareReadings 31 = .ok (.if_icmp .ne 8, 3) := by decide +kernel
theorem dX1_compareReadings_34 : decode cX1_compareReadings 34 = .ok (.ldc 25, 2) := by decide +kernel
theorem dX1_compareReadings_36 : decode cX1_compareReadings 36 = .ok (.goto 8, 3) := by decide +kernel
theorem dX1_compareReadings_39 : decode cX1_compareReadings 39 = .ok (.aload_n 0, 1) := by decide +kernel
theorem dX1_compareReadings_40 : decode cX1_compareReadings 40 = .ok (.iload_n 2, 1) := by decide +kernel
theorem dX1_compareReadings_41 : decode cX1_compareReadings 41 = .ok (.invokevirtual 55, 3) := by decide +kernel
theorem dX1_compareReadings_44 : decode cX1_compareReadings 44 = .ok (.istore_n 3, 1) := by decide +kernel
theorem dX1_compareReadings_45 : decode cX1_compareReadings 45 = .ok (.iload_n 3, 1) := by decide +kernel
theorem dX1_compareReadings_46 : decode cX1_compareReadings 46 = .ok (.ldc 25, 2) := by decide +kernel
theorem dX1_compareReadings_48 : decode cX1_compareReadings 48 = .ok (.if_icmp .ne 6, 3) := by decide +kernel
theorem dX1_compareReadings_51 : decode cX1_compareReadings 51 = .ok (.goto 40, 3) := by decide +kernel
theorem dX1_compareReadings_54 : decode cX1_compareReadings 54 = .ok (.iload_n 1, 1) := by decide +kernel
theorem dX1_compareReadings_55 : decode cX1_compareReadings 55 = .ok (.iload_n 3, 1) := by decide +kernel
theorem dX1_compareReadings_56 : decode cX1_compareReadings 56 = .ok (.isub, 1) := by decide +kernel
theorem dX1_compareReadings_57 : decode cX1_compareReadings 57 = .ok (.invokestatic 43, 3) := by decide +kernel
theorem dX1_compareReadings_60 : decode cX1_compareReadings 60 = .ok (.istore 4, 2) := by decide +kernel
theorem dX1_compareReadings_62 : decode cX1_compareReadings 62 = .ok (.aload_n 0, 1) := by decide +kernel
theorem dX1_compareReadings_63 : decode cX1_compareReadings 63 = .ok (.getfield 52, 3) := by decide +kernel
theorem dX1_compareReadings_66 : decode cX1_compareReadings 66 = .ok (.ldc 25, 2) := by decide +kernel
theorem dX1_compareReadings_68 : decode cX1_compareReadings 68 = .ok (.if_icmp .eq 12, 3) := by decide +kernel
theorem dX1_compareReadings_71 : decode cX1_compareReadings 71 = .ok (.iload 4, 2) := by decide +kernel
theorem dX1_compareReadings_73 : decode cX1_compareReadings 73 = .ok (.aload_n 0, 1) := by decide +kernel
theorem dX1_compareReadings_74 : decode cX1_compareReadings 74 = .ok (.getfield 48, 3) := by decide +kernel
theorem dX1_compareReadings_77 : decode cX1_compareReadings 77 = .ok (.if_icmp .le 14, 3) := by decide +kernel
theorem dX1_compareReadings_80 : decode cX1_compareReadings 80 = .ok (.aload_n 0, 1) := by decide +kernel
theorem dX1_compareReadings_81 : decode cX1_compareReadings 81 = .ok (.iload 4, 2) := by decide +kernel
theorem dX1_compareReadings_83 : decode cX1_compareReadings 83 = .ok (.putfield 48, 3) := by decide +kernel
theorem dX1_compareReadings_86 : decode cX1_compareReadings 86 = .ok (.aload_n 0, 1) := by decide +kernel
theorem dX1_compareReadings_87 : decode cX1_compareReadings 87 = .ok (.iload_n 1, 1) := by decide +kernel
theorem dX1_compareReadings_88 : decode cX1_compareReadings 88 = .ok (.putfield 52, 3) := by decide +kernel
theorem dX1_compareReadings_91 : decode cX1_compareReadings 91 = .ok (.iinc 1 1, 3) := by decide +kernel
theorem dX1_compareReadings_94 : decode cX1_compareReadings 94 = .ok (.goto (-79), 3) := by decide +kernel
theorem dX1_compareReadings_97 : decode cX1_compareReadings 97 = .ok (.return_, 1) := by decide +kernel
theorem dX2_init_0 : decode cX2_init 0 = .ok (.aload_n 0, 1) := by decide +kernel
theorem dX2_init_1 : decode cX2_init 1 = .ok (.invokespecial 3, 3) := by decide +kernel
theorem dX2_init_4 : decode cX2_init 4 = .ok (.aload_n 0, 1) := by decide +kernel
theorem dX2_init_5 : decode cX2_init 5 = .ok (.bipush 6, 2) := by decide +kernel
theorem dX2_init_7 : decode cX2_init 7 = .ok (.anewarray 9, 3) := by decide +kernel
theorem dX2_init_10 : decode cX2_init 10 = .ok (.putfield 11, 3) := by decide +kernel
theorem dX2_init_13 : decode cX2_init 13 = .ok (.iconst 0, 1) := by decide +kernel
theorem dX2_init_14 : decode cX2_init 14 = .ok (.istore_n 1, 1) := by decide +kernel
theorem dX2_init_15 : decode cX2_init 15 = .ok (.iload_n 1, 1) := by decide +kernel
theorem dX2_init_16 : decode cX2_init 16 = .ok (.iconst 5, 1) := by decide +kernel
theorem dX2_init_17 : decode cX2_init 17 = .ok (.if_icmp .gt 22, 3) := by decide +kernel
theorem dX2_init_20 : decode cX2_init 20 = .ok (.aload_n 0, 1) := by decide +kernel
theorem dX2_init_21 : decode cX2_init 21 = .ok (.getfield 11, 3) := by decide +kernel
theorem dX2_init_24 : decode cX2_init 24 = .ok (.iload_n 1, 1) := by decide +kernel
theorem dX2_init_25 : decode cX2_init 25 = .ok (.new 9, 3) := by decide +kernel
theorem dX2_init_28 : decode cX2_init 28 = .ok (.dup, 1) := by decide +kernel
theorem dX2_init_29 : decode cX2_init 29 = .ok (.invokespecial 17, 3) := by decide +kernel
theorem dX2_init_32 : decode cX2_init 32 = .ok (.aastore, 1) := by decide +kernel
theorem dX2_init_33 : decode cX2_init 33 = .ok (.iinc 1 1, 3) := by decide +kernel
theorem dX2_init_36 : decode cX2_init 36 = .ok (.goto (-21), 3) := by decide +kernel
theorem dX2_init_39 : decode cX2_init 39 = .ok (.return_, 1) := by decide +kernel
theorem dX2_mark_0 : decode cX2_mark 0 = .ok (.aload_n 0, 1) := by decide +kernel
theorem dX2_mark_1 : decode cX2_mark 1 = .ok (.getfield 11, 3) := by decide +kernel
theorem dX2_mark_4 : decode cX2_mark 4 = .ok (.aload_n 0, 1) := by decide +kernel
theorem dX2_mark_5 : decode cX2_mark 5 = .ok (.getfield 18, 3) := by decide +kernel
theorem dX2_mark_8 : decode cX2_mark 8 = .ok (.aaload, 1) := by decide +kernel
theorem dX2_mark_9 : decode cX2_mark 9 = .ok (.aload_n 1, 1) := by decide +kernel
theorem dX2_mark_10 : decode cX2_mark 10 = .ok (.invokevirtual 22, 3) := by decide +kernel
theorem dX2_mark_13 : decode cX2_mark 13 = .ok (.return_, 1) := by decide +kernel
theorem dX2_keepMarked_0 : decode cX2_keepMarked 0 = .ok (.aload_n 0, 1) := by decide +kernel
theorem dX2_keepMarked_1 : decode cX2_keepMarked 1 = .ok (.aload_n 0, 1) := by decide +kernel
theorem dX2_keepMarked_2 : decode cX2_keepMarked 2 = .ok (.getfield 18, 3) := by decide +kernel
theorem dX2_keepMarked_5 : decode cX2_keepMarked 5 = .ok (.iconst 1, 1) := by decide +kernel
theorem dX2_keepMarked_6 : decode cX2_keepMarked 6 = .ok (.iadd, 1) := by decide +kernel
theorem dX2_keepMarked_7 : decode cX2_keepMarked 7 = .ok (.bipush 6, 2) := by decide +kernel
theorem dX2_keepMarked_9 : decode cX2_keepMarked 9 = .ok (.irem, 1) := by decide +kernel
theorem dX2_keepMarked_10 : decode cX2_keepMarked 10 = .ok (.putfield 18, 3) := by decide +kernel
theorem dX2_keepMarked_13 : decode cX2_keepMarked 13 = .ok (.aload_n 0, 1) := by decide +kernel
theorem dX2_keepMarked_14 : decode cX2_keepMarked 14 = .ok (.aload_n 0, 1) := by decide +kernel
theorem dX2_keepMarked_15 : decode cX2_keepMarked 15 = .ok (.getfield 26, 3) := by decide +kernel
theorem dX2_keepMarked_18 : decode cX2_keepMarked 18 = .ok (.iconst 1, 1) := by decide +kernel
theorem dX2_keepMarked_19 : decode cX2_keepMarked 19 = .ok (.iadd, 1) := by decide +kernel
theorem dX2_keepMarked_20 : decode cX2_keepMarked 20 = .ok (.iconst 5, 1) := by decide +kernel
theorem dX2_keepMarked_21 : decode cX2_keepMarked 21 = .ok (.invokestatic 29, 3) := by decide +kernel
theorem dX2_keepMarked_24 : decode cX2_keepMarked 24 = .ok (.putfield 26, 3) := by decide +kernel
theorem dX2_keepMarked_27 : decode cX2_keepMarked 27 = .ok (.return_, 1) := by decide +kernel
theorem dX2_returnToMarked_0 : decode cX2_returnToMarked 0 = .ok (.aload_n 1, 1) := by decide +kernel
theorem dX2_returnToMarked_1 : decode cX2_returnToMarked 1 = .ok (.aload_n 0, 1) := by decide +kernel
theorem dX2_returnToMarked_2 : decode cX2_returnToMarked 2 = .ok (.getfield 11, 3) := by decide +kernel
theorem dX2_returnToMarked_5 : decode cX2_returnToMarked 5 = .ok (.aload_n 0, 1) := by decide +kernel
theorem dX2_returnToMarked_6 : decode cX2_returnToMarked 6 = .ok (.getfield 18, 3) := by decide +kernel
theorem dX2_returnToMarked_9 : decode cX2_returnToMarked 9 = .ok (.aaload, 1) := by decide +kernel
theorem dX2_returnToMarked_10 : decode cX2_returnToMarked 10 = .ok (.invokevirtual 22, 3) := by decide +kernel
theorem dX2_returnToMarked_13 : decode cX2_returnToMarked 13 = .ok (.return_, 1) := by decide +kernel
theorem dX2_stepBack_0 : decode cX2_stepBack 0 = .ok (.aload_n 0, 1) := by decide +kernel
theorem dX2_stepBack_1 : decode cX2_stepBack 1 = .ok (.getfield 26, 3) := by decide +kernel
theorem dX2_stepBack_4 : decode cX2_stepBack 4 = .ok (.ifCond .le 31, 3) := by decide +kernel
theorem dX2_stepBack_7 : decode cX2_stepBack 7 = .ok (.aload_n 0, 1) := by decide +kernel
theorem dX2_stepBack_8 : decode cX2_stepBack 8 = .ok (.aload_n 0, 1) := by decide +kernel
theorem dX2_stepBack_9 : decode cX2_stepBack 9 = .ok (.getfield 18, 3) := by decide +kernel
theorem dX2_stepBack_12 : decode cX2_stepBack 12 = .ok (.iconst 5, 1) := by decide +kernel
theorem dX2_stepBack_13 : decode cX2_stepBack 13 = .ok (.iadd, 1) := by decide +kernel
theorem dX2_stepBack_14 : decode cX2_stepBack 14 = .ok (.bipush 6, 2) := by decide +kernel
theorem dX2_stepBack_16 : decode cX2_stepBack 16 = .ok (.irem, 1) := by decide +kernel
theorem dX2_stepBack_17 : decode cX2_stepBack 17 = .ok (.putfield 18, 3) := by decide +kernel
theorem dX2_stepBack_20 : decode cX2_stepBack 20 = .ok (.aload_n 0, 1) := by decide +kernel
theorem dX2_stepBack_21 : decode cX2_stepBack 21 = .ok (.dup, 1) := by decide +kernel
theorem dX2_stepBack_22 : decode cX2_stepBack 22 = .ok (.getfield 26, 3) := by decide +kernel
theorem dX2_stepBack_25 : decode cX2_stepBack 25 = .ok (.iconst 1, 1) := by decide +kernel
theorem dX2_stepBack_26 : decode cX2_stepBack 26 = .ok (.isub, 1) := by decide +kernel
theorem dX2_stepBack_27 : decode cX2_stepBack 27 = .ok (.putfield 26, 3) := by decide +kernel
theorem dX2_stepBack_30 : decode cX2_stepBack 30 = .ok (.aload_n 0, 1) := by decide +kernel
theorem dX2_stepBack_31 : decode cX2_stepBack 31 = .ok (.aload_n 1, 1) := by decide +kernel
theorem dX2_stepBack_32 : decode cX2_stepBack 32 = .ok (.invokevirtual 35, 3) := by decide +kernel
theorem dX2_stepBack_35 : decode cX2_stepBack 35 = .ok (.return_, 1) := by decide +kernel
theorem dX3_init_0 : decode cX3_init 0 = .ok (.aload_n 0, 1) := by decide +kernel
theorem dX3_init_1 : decode cX3_init 1 = .ok (.invokespecial 3, 3) := by decide +kernel
theorem dX3_init_4 : decode cX3_init 4 = .ok (.aload_n 0, 1) := by decide +kernel
theorem dX3_init_5 : decode cX3_init 5 = .ok (.sipush 140, 3) := by decide +kernel
theorem dX3_init_8 : decode cX3_init 8 = .ok (.newarray .char, 2) := by decide +kernel
theorem dX3_init_10 : decode cX3_init 10 = .ok (.putfield 9, 3) := by decide +kernel
theorem dX3_init_13 : decode cX3_init 13 = .ok (.aload_n 0, 1) := by decide +kernel
theorem dX3_init_14 : decode cX3_init 14 = .ok (.iconst 3, 1) := by decide +kernel
theorem dX3_init_15 : decode cX3_init 15 = .ok (.newarray .int, 2) := by decide +kernel
theorem dX3_init_17 : decode cX3_init 17 = .ok (.putfield 15, 3) := by decide +kernel
theorem dX3_init_20 : decode cX3_init 20 = .ok (.return_, 1) := by decide +kernel
theorem dX3_add_0 : decode cX3_add 0 = .ok (.iload_n 1, 1) := by decide +kernel
theorem dX3_add_1 : decode cX3_add 1 = .ok (.iconst 1, 1) := by decide +kernel
theorem dX3_add_2 : decode cX3_add 2 = .ok (.sipush 255, 3) := by decide +kernel
theorem dX3_add_5 : decode cX3_add 5 = .ok (.invokestatic 19, 3) := by decide +kernel
theorem dX3_add_8 : decode cX3_add 8 = .ok (.ifCond .ne 6, 3) := by decide +kernel
theorem dX3_add_11 : decode cX3_add 11 = .ok (.ldc 23, 2) := by decide +kernel
theorem dX3_add_13 : decode cX3_add 13 = .ok (.ireturn, 1) := by decide +kernel
theorem dX3_add_14 : decode cX3_add 14 = .ok (.aload_n 0, 1) := by decide +kernel
theorem dX3_add_15 : decode cX3_add 15 = .ok (.getfield 24, 3) := by decide +kernel
theorem dX3_add_18 : decode cX3_add 18 = .ok (.sipush 140, 3) := by decide +kernel
theorem dX3_add_21 : decode cX3_add 21 = .ok (.if_icmp .lt 6, 3) := by decide +kernel
theorem dX3_add_24 : decode cX3_add 24 = .ok (.ldc 28, 2) := by decide +kernel
theorem dX3_add_26 : decode cX3_add 26 = .ok (.ireturn, 1) := by decide +kernel
theorem dX3_add_27 : decode cX3_add 27 = .ok (.aload_n 0, 1) := by decide +kernel
theorem dX3_add_28 : decode cX3_add 28 = .ok (.getfield 9, 3) := by decide +kernel
theorem dX3_add_31 : decode cX3_add 31 = .ok (.aload_n 0, 1) := by decide +kernel
theorem dX3_add_32 : decode cX3_add 32 = .ok (.getfield 24, 3) := by decide +kernel
theorem dX3_add_35 : decode cX3_add 35 = .ok (.iload_n 1, 1) := by decide +kernel
theorem dX3_add_36 : decode cX3_add 36 = .ok (.i2c, 1) := by decide +kernel
theorem dX3_add_37 : decode cX3_add 37 = .ok (.castore, 1) := by decide +kernel
theorem dX3_add_38 : decode cX3_add 38 = .ok (.aload_n 0, 1) := by decide +kernel
theorem dX3_add_39 : decode cX3_add 39 = .ok (.dup, 1) := by decide +kernel
theorem dX3_add_40 : decode cX3_add 40 = .ok (.getfield 24, 3) := by decide +kernel
theorem dX3_add_43 : decode cX3_add 43 = .ok (.iconst 1, 1) := by decide +kernel
theorem dX3_add_44 : decode cX3_add 44 = .ok (.iadd, 1) := by decide +kernel
theorem dX3_add_45 : decode cX3_add 45 = .ok (.putfield 24, 3) := by decide +kernel
theorem dX3_add_48 : decode cX3_add 48 = .ok (.aload_n 0, 1) := by decide +kernel
theorem dX3_add_49 : decode cX3_add 49 = .ok (.getfield 24, 3) := by decide +kernel
theorem dX3_add_52 : decode cX3_add 52 = .ok (.ireturn, 1) := by decide +kernel
theorem dX3_empty_0 : decode cX3_empty 0 = .ok (.aload_n 0, 1) := by decide +kernel
theorem dX3_empty_1 : decode cX3_empty 1 = .ok (.getfield 24, 3) := by decide +kernel
theorem dX3_empty_4 : decode cX3_empty 4 = .ok (.istore_n 1, 1) := by decide +kernel
theorem dX3_empty_5 : decode cX3_empty 5 = .ok (.aload_n 0, 1) := by decide +kernel
theorem dX3_empty_6 : decode cX3_empty 6 = .ok (.iconst 0, 1) := by decide +kernel
theorem dX3_empty_7 : decode cX3_empty 7 = .ok (.putfield 24, 3) := by decide +kernel
theorem dX3_empty_10 : decode cX3_empty 10 = .ok (.iload_n 1, 1) := by decide +kernel
theorem dX3_empty_11 : decode cX3_empty 11 = .ok (.ireturn, 1) := by decide +kernel
theorem dX3_rewind_0 : decode cX3_rewind 0 = .ok (.aload_n 0, 1) := by decide +kernel
theorem dX3_rewind_1 : decode cX3_rewind 1 = .ok (.iconst 0, 1) := by decide +kernel
theorem dX3_rewind_2 : decode cX3_rewind 2 = .ok (.putfield 29, 3) := by decide +kernel
theorem dX3_rewind_5 : decode cX3_rewind 5 = .ok (.aload_n 0, 1) := by decide +kernel
theorem dX3_rewind_6 : decode cX3_rewind 6 = .ok (.iconst 0, 1) := by decide +kernel
theorem dX3_rewind_7 : decode cX3_rewind 7 = .ok (.putfield 32, 3) := by decide +kernel
theorem dX3_rewind_10 : decode cX3_rewind 10 = .ok (.return_, 1) := by decide +kernel
theorem dX3_advance_0 : decode cX3_advance 0 = .ok (.aload_n 0, 1) := by decide +kernel
theorem dX3_advance_1 : decode cX3_advance 1 = .ok (.aload_n 0, 1) := by decide +kernel
theorem dX3_advance_2 : decode cX3_advance 2 = .ok (.getfield 32, 3) := by decide +kernel
theorem dX3_advance_5 : decode cX3_advance 5 = .ok (.putfield 29, 3) := by decide +kernel
theorem dX3_advance_8 : decode cX3_advance 8 = .ok (.aload_n 0, 1) := by decide +kernel
theorem dX3_advance_9 : decode cX3_advance 9 = .ok (.getfield 29, 3) := by decide +kernel
theorem dX3_advance_12 : decode cX3_advance 12 = .ok (.aload_n 0, 1) := by decide +kernel
theorem dX3_advance_13 : decode cX3_advance 13 = .ok (.getfield 24, 3) := by decide +kernel
theorem dX3_advance_16 : decode cX3_advance 16 = .ok (.if_icmp .ge 30, 3) := by decide +kernel
theorem dX3_advance_19 : decode cX3_advance 19 = .ok (.aload_n 0, 1) := by decide +kernel
theorem dX3_advance_20 : decode cX3_advance 20 = .ok (.getfield 9, 3) := by decide +kernel
theorem dX3_advance_23 : decode cX3_advance 23 = .ok (.aload_n 0, 1) := by decide +kernel
theorem dX3_advance_24 : decode cX3_advance 24 = .ok (.getfield 29, 3) := by decide +kernel
theorem dX3_advance_27 : decode cX3_advance 27 = .ok (.caload, 1) := by decide +kernel
theorem dX3_advance_28 : decode cX3_advance 28 = .ok (.bipush 32, 2) := by decide +kernel
theorem dX3_advance_30 : decode cX3_advance 30 = .ok (.if_icmp .ne 16, 3) := by decide +kernel
theorem dX3_advance_33 : decode cX3_advance 33 = .ok (.aload_n 0, 1) := by decide +kernel
theorem dX3_advance_34 : decode cX3_advance 34 = .ok (.dup, 1) := by decide +kernel
theorem dX3_advance_35 : decode cX3_advance 35 = .ok (.getfield 29, 3) := by decide +kernel
theorem dX3_advance_38 : decode cX3_advance 38 = .ok (.iconst 1, 1) := by decide +kernel
theorem dX3_advance_39 : decode cX3_advance 39 = .ok (.iadd, 1) := by decide +kernel
theorem dX3_advance_40 : decode cX3_advance 40 = .ok (.putfield 29, 3) := by decide +kernel
theorem dX3_advance_43 : decode cX3_advance 43 = .ok (.goto (-35), 3) := by decide +kernel
theorem dX3_advance_46 : decode cX3_advance 46 = .ok (.aload_n 0, 1) := by decide +kernel
theorem dX3_advance_47 : decode cX3_advance 47 = .ok (.aload_n 0, 1) := by decide +kernel
theorem dX3_advance_48 : decode cX3_advance 48 = .ok (.getfield 29, 3) := by decide +kernel
theorem dX3_advance_51 : decode cX3_advance 51 = .ok (.putfield 32, 3) := by decide +kernel
theorem dX3_advance_54 : decode cX3_advance 54 = .ok (.aload_n 0, 1) := by decide +kernel
theorem dX3_advance_55 : decode cX3_advance 55 = .ok (.getfield 29, 3) := by decide +kernel
theorem dX3_advance_58 : decode cX3_advance 58 = .ok (.aload_n 0, 1) := by decide +kernel
theorem dX3_advance_59 : decode cX3_advance 59 = .ok (.getfield 24, 3) := by decide +kernel
theorem dX3_advance_62 : decode cX3_advance 62 = .ok (.if_icmp .lt 5, 3) := by decide +kernel
theorem dX3_advance_65 : decode cX3_advance 65 = .ok (.iconst 0, 1) := by decide +kernel
theorem dX3_advance_66 : decode cX3_advance 66 = .ok (.ireturn, 1) := by decide +kernel
theorem dX3_advance_67 : decode cX3_advance 67 = .ok (.aload_n 0, 1) := by decide +kernel
theorem dX3_advance_68 : decode cX3_advance 68 = .ok (.getfield 9, 3) := by decide +kernel
theorem dX3_advance_71 : decode cX3_advance 71 = .ok (.aload_n 0, 1) := by decide +kernel
theorem dX3_advance_72 : decode cX3_advance 72 = .ok (.getfield 29, 3) := by decide +kernel
theorem dX3_advance_75 : decode cX3_advance 75 = .ok (.caload, 1) := by decide +kernel
theorem dX3_advance_76 : decode cX3_advance 76 = .ok (.invokestatic 35, 3) := by decide +kernel
theorem dX3_advance_79 : decode cX3_advance 79 = .ok (.istore_n 1, 1) := by decide +kernel
theorem dX3_advance_80 : decode cX3_advance 80 = .ok (.aload_n 0, 1) := by decide +kernel
theorem dX3_advance_81 : decode cX3_advance 81 = .ok (.dup, 1) := by decide +kernel
theorem dX3_advance_82 : decode cX3_advance 82 = .ok (.getfield 32, 3) := by decide +kernel
theorem dX3_advance_85 : decode cX3_advance 85 = .ok (.iconst 1, 1) := by decide +kernel
theorem dX3_advance_86 : decode cX3_advance 86 = .ok (.iadd, 1) := by decide +kernel
theorem dX3_advance_87 : decode cX3_advance 87 = .ok (.putfield 32, 3) := by decide +kernel
theorem dX3_advance_90 : decode cX3_advance 90 = .ok (.iload_n 1, 1) := by decide +kernel
theorem dX3_advance_91 : decode cX3_advance 91 = .ok (.ifCond .eq 43, 3) := by decide +kernel
theorem dX3_advance_94 : decode cX3_advance 94 = .ok (.aload_n 0, 1) := by decide +kernel
theorem dX3_advance_95 : decode cX3_advance 95 = .ok (.getfield 32, 3) := by decide +kernel
theorem dX3_advance_98 : decode cX3_advance 98 = .ok (.aload_n 0, 1) := by decide +kernel
theorem dX3_advance_99 : decode cX3_advance 99 = .ok (.getfield 24, 3) := by decide +kernel
theorem dX3_advance_102 : decode cX3_advance 102 = .ok (.if_icmp .ge 32, 3) := by decide +kernel
theorem dX3_advance_105 : decode cX3_advance 105 = .ok (.aload_n 0, 1) := by decide +kernel
theorem dX3_advance_106 : decode cX3_advance 106 = .ok (.getfield 9, 3) := by decide +kernel
theorem dX3_advance_109 : decode cX3_advance 109 = .ok (.aload_n 0, 1) := by decide +kernel
theorem dX3_advance_110 : decode cX3_advance 110 = .ok (.getfield 32, 3) := by decide +kernel
theorem dX3_advance_113 : decode cX3_advance 113 = .ok (.caload, 1) := by decide +kernel
theorem dX3_advance_114 : decode cX3_advance 114 = .ok (.invokestatic 35, 3) := by decide +kernel
theorem dX3_advance_117 : decode cX3_advance 117 = .ok (.iload_n 1, 1) := by decide +kernel
theorem dX3_advance_118 : decode cX3_advance 118 = .ok (.if_icmp .ne 16, 3) := by decide +kernel
theorem dX3_advance_121 : decode cX3_advance 121 = .ok (.aload_n 0, 1) := by decide +kernel
theorem dX3_advance_122 : decode cX3_advance 122 = .ok (.dup, 1) := by decide +kernel
theorem dX3_advance_123 : decode cX3_advance 123 = .ok (.getfield 32, 3) := by decide +kernel
theorem dX3_advance_126 : decode cX3_advance 126 = .ok (.iconst 1, 1) := by decide +kernel
theorem dX3_advance_127 : decode cX3_advance 127 = .ok (.iadd, 1) := by decide +kernel
theorem dX3_advance_128 : decode cX3_advance 128 = .ok (.putfield 32, 3) := by decide +kernel
theorem dX3_advance_131 : decode cX3_advance 131 = .ok (.goto (-41), 3) := by decide +kernel
theorem dX3_advance_134 : decode cX3_advance 134 = .ok (.iconst 1, 1) := by decide +kernel
theorem dX3_advance_135 : decode cX3_advance 135 = .ok (.ireturn, 1) := by decide +kernel
theorem dX3_kindOf_0 : decode cX3_kindOf 0 = .ok (.iload_n 0, 1) := by decide +kernel
theorem dX3_kindOf_1 : decode cX3_kindOf 1 = .ok (.bipush 97, 2) := by decide +kernel
theorem dX3_kindOf_3 : decode cX3_kindOf 3 = .ok (.if_icmp .lt 11, 3) := by decide +kernel
theorem dX3_kindOf_6 : decode cX3_kindOf 6 = .ok (.iload_n 0, 1) := by decide +kernel
theorem dX3_kindOf_7 : decode cX3_kindOf 7 = .ok (.bipush 122, 2) := by decide +kernel
theorem dX3_kindOf_9 : decode cX3_kindOf 9 = .ok (.if_icmp .gt 5, 3) := by decide +kernel
theorem dX3_kindOf_12 : decode cX3_kindOf 12 = .ok (.iconst 1, 1) := by decide +kernel
theorem dX3_kindOf_13 : decode cX3_kindOf 13 = .ok (.ireturn, 1) := by decide +kernel
theorem dX3_kindOf_14 : decode cX3_kindOf 14 = .ok (.iload_n 0, 1) := by decide +kernel
theorem dX3_kindOf_15 : decode cX3_kindOf 15 = .ok (.bipush 48, 2) := by decide +kernel
theorem dX3_kindOf_17 : decode cX3_kindOf 17 = .ok (.if_icmp .lt 13, 3) := by decide +kernel
theorem dX3_kindOf_20 : decode cX3_kindOf 20 = .ok (.iload_n 0, 1) := by decide +kernel
theorem dX3_kindOf_21 : decode cX3_kindOf 21 = .ok (.bipush 57, 2) := by decide +kernel
theorem dX3_kindOf_23 : decode cX3_kindOf 23 = .ok (.if_icmp .gt 7, 3) := by decide +kernel
theorem dX3_kindOf_26 : decode cX3_kindOf 26 = .ok (.iconst 2, 1) := by decide +kernel
theorem dX3_kindOf_27 : decode cX3_kindOf 27 = .ok (.goto 4, 3) := by decide +kernel
theorem dX3_kindOf_30 : decode cX3_kindOf 30 = .ok (.iconst 0, 1) := by decide +kernel
theorem dX3_kindOf_31 : decode cX3_kindOf 31 = .ok (.ireturn, 1) := by decide +kernel
theorem dX3_parseCommand_0 : decode cX3_parseCommand 0 = .ok (.aload_n 0, 1) := by decide +kernel
theorem dX3_parseCommand_1 : decode cX3_parseCommand 1 = .ok (.invokevirtual 39, 3) := by decide +kernel
theorem dX3_parseCommand_4 : decode cX3_parseCommand 4 = .ok (.istore_n 1, 1) := by decide +kernel
theorem dX3_parseCommand_5 : decode cX3_parseCommand 5 = .ok (.iload_n 1, 1) := by decide +kernel
theorem dX3_parseCommand_6 : decode cX3_parseCommand 6 = .ok (.iconst (-1), 1) := by decide +kernel
theorem dX3_parseCommand_7 : decode cX3_parseCommand 7 = .ok (.if_icmp .ne 5, 3) := by decide +kernel
theorem dX3_parseCommand_10 : decode cX3_parseCommand 10 = .ok (.iconst (-1), 1) := by decide +kernel
theorem dX3_parseCommand_11 : decode cX3_parseCommand 11 = .ok (.ireturn, 1) := by decide +kernel
theorem dX3_parseCommand_12 : decode cX3_parseCommand 12 = .ok (.iconst 0, 1) := by decide +kernel
theorem dX3_parseCommand_13 : decode cX3_parseCommand 13 = .ok (.istore_n 2, 1) := by decide +kernel
theorem dX3_parseCommand_14 : decode cX3_parseCommand 14 = .ok (.iload_n 2, 1) := by decide +kernel
theorem dX3_parseCommand_15 : decode cX3_parseCommand 15 = .ok (.getstatic 43, 3) := by decide +kernel
theorem dX3_parseCommand_18 : decode cX3_parseCommand 18 = .ok (.iload_n 1, 1) := by decide +kernel
theorem dX3_parseCommand_19 : decode cX3_parseCommand 19 = .ok (.iaload, 1) := by decide +kernel
theorem dX3_parseCommand_20 : decode cX3_parseCommand 20 = .ok (.if_icmp .ge 80, 3) := by decide +kernel
theorem dX3_parseCommand_23 : decode cX3_parseCommand 23 = .ok (.aload_n 0, 1) := by decide +kernel
theorem dX3_parseCommand_24 : decode cX3_parseCommand 24 = .ok (.invokevirtual 46, 3) := by decide +kernel
theorem dX3_parseCommand_27 : decode cX3_parseCommand 27 = .ok (.pop, 1) := by decide +kernel
theorem dX3_parseCommand_28 : decode cX3_parseCommand 28 = .ok (.iload_n 1, 1) := by decide +kernel
theorem dX3_parseCommand_29 : decode cX3_parseCommand 29 = .ok (.iconst 1, 1) := by decide +kernel
theorem dX3_parseCommand_30 : decode cX3_parseCommand 30 = .ok (.if_icmp .ne 21, 3) := by decide +kernel
theorem dX3_parseCommand_33 : decode cX3_parseCommand 33 = .ok (.iload_n 2, 1) := by decide +kernel
theorem dX3_parseCommand_34 : decode cX3_parseCommand 34 = .ok (.iconst 1, 1) := by decide +kernel
theorem dX3_parseCommand_35 : decode cX3_parseCommand 35 = .ok (.if_icmp .ne 16, 3) := by decide +kernel
theorem dX3_parseCommand_38 : decode cX3_parseCommand 38 = .ok (.aload_n 0, 1) := by decide +kernel
theorem dX3_parseCommand_39 : decode cX3_parseCommand 39 = .ok (.ldc 50, 2) := by decide +kernel
theorem dX3_parseCommand_41 : decode cX3_parseCommand 41 = .ok (.invokevirtual 52, 3) := by decide +kernel
theorem dX3_parseCommand_44 : decode cX3_parseCommand 44 = .ok (.ifCond .eq 7, 3) := by decide +kernel
theorem dX3_parseCommand_47 : decode cX3_parseCommand 47 = .ok (.iconst 1, 1) := by decide +kernel
theorem dX3_parseCommand_48 : decode cX3_parseCommand 48 = .ok (.goto 4, 3) := by decide +kernel
theorem dX3_parseCommand_51 : decode cX3_parseCommand 51 = .ok (.iconst 0, 1) := by decide +kernel
theorem dX3_parseCommand_52 : decode cX3_parseCommand 52 = .ok (.istore_n 3, 1) := by decide +kernel
theorem dX3_parseCommand_53 : decode cX3_parseCommand 53 = .ok (.iload_n 3, 1) := by decide +kernel
theorem dX3_parseCommand_54 : decode cX3_parseCommand 54 = .ok (.ifCond .eq 8, 3) := by decide +kernel
theorem dX3_parseCommand_57 : decode cX3_parseCommand 57 = .ok (.aload_n 0, 1) := by decide +kernel
theorem dX3_parseCommand_58 : decode cX3_parseCommand 58 = .ok (.invokevirtual 46, 3) := by decide +kernel
theorem dX3_parseCommand_61 : decode cX3_parseCommand 61 = .ok (.pop, 1) := by decide +kernel
theorem dX3_parseCommand_62 : decode cX3_parseCommand 62 = .ok (.aload_n 0, 1) := by decide +kernel
theorem dX3_parseCommand_63 : decode cX3_parseCommand 63 = .ok (.invokevirtual 56, 3) := by decide +kernel
theorem dX3_parseCommand_66 : decode cX3_parseCommand 66 = .ok (.istore 4, 2) := by decide +kernel
theorem dX3_parseCommand_68 : decode cX3_parseCommand 68 = .ok (.iload 4, 2) := by decide +kernel
theorem dX3_parseCommand_70 : decode cX3_parseCommand 70 = .ok (.iconst (-1), 1) := by decide +kernel
theorem dX3_parseCommand_71 : decode cX3_parseCommand 71 = .ok (.if_icmp .ne 5, 3) := by decide +kernel
theorem dX3_parseCommand_74 : decode cX3_parseCommand 74 = .ok (.iconst (-1), 1) := by decide +kernel
theorem dX3_parseCommand_75 : decode cX3_parseCommand 75 = .ok (.ireturn, 1) := by decide +kernel
theorem dX3_parseCommand_76 : decode cX3_parseCommand 76 = .ok (.aload_n 0, 1) := by decide +kernel
theorem dX3_parseCommand_77 : decode cX3_parseCommand 77 = .ok (.getfield 15, 3) := by decide +kernel
theorem dX3_parseCommand_80 : decode cX3_parseCommand 80 = .ok (.iload_n 2, 1) := by decide +kernel
theorem dX3_parseCommand_81 : decode cX3_parseCommand 81 = .ok (.iload_n 3, 1) := by decide +kernel
theorem dX3_parseCommand_82 : decode cX3_parseCommand 82 = .ok (.ifCond .eq 9, 3) := by decide +kernel
theorem dX3_parseCommand_85 : decode cX3_parseCommand 85 = .ok (.iload 4, 2) := by decide +kernel
theorem dX3_parseCommand_87 : decode cX3_parseCommand 87 = .ok (.ineg, 1) := by decide +kernel
theorem dX3_parseCommand_88 : decode cX3_parseCommand 88 = .ok (.goto 5, 3) := by decide +kernel
theorem dX3_parseCommand_91 : decode cX3_parseCommand 91 = .ok (.iload 4, 2) := by decide +kernel
theorem dX3_parseCommand_93 : decode cX3_parseCommand 93 = .ok (.iastore, 1) := by decide +kernel
theorem dX3_parseCommand_94 : decode cX3_parseCommand 94 = .ok (.iinc 2 1, 3) := by decide +kernel
theorem dX3_parseCommand_97 : decode cX3_parseCommand 97 = .ok (.goto (-83), 3) := by decide +kernel
theorem dX3_parseCommand_100 : decode cX3_parseCommand 100 = .ok (.aload_n 0, 1) := by decide +kernel
theorem dX3_parseCommand_101 : decode cX3_parseCommand 101 = .ok (.invokevirtual 46, 3) := by decide +kernel
theorem dX3_parseCommand_104 : decode cX3_parseCommand 104 = .ok (.pop, 1) := by decide +kernel
theorem dX3_parseCommand_105 : decode cX3_parseCommand 105 = .ok (.aload_n 0, 1) := by decide +kernel
theorem dX3_parseCommand_106 : decode cX3_parseCommand 106 = .ok (.ldc 59, 2) := by decide +kernel
theorem dX3_parseCommand_108 : decode cX3_parseCommand 108 = .ok (.invokevirtual 52, 3) := by decide +kernel
theorem dX3_parseCommand_111 : decode cX3_parseCommand 111 = .ok (.ifCond .eq 7, 3) := by decide +kernel
theorem dX3_parseCommand_114 : decode cX3_parseCommand 114 = .ok (.iload_n 1, 1) := by decide +kernel
theorem dX3_parseCommand_115 : decode cX3_parseCommand 115 = .ok (.goto 4, 3) := by decide +kernel
theorem dX3_parseCommand_118 : decode cX3_parseCommand 118 = .ok (.iconst (-1), 1) := by decide +kernel
theorem dX3_parseCommand_119 : decode cX3_parseCommand 119 = .ok (.ireturn, 1) := by decide +kernel
theorem dX3_commandOfToken_0 : decode cX3_commandOfToken 0 = .ok (.iconst 0, 1) := by decide +kernel
theorem dX3_commandOfToken_1 : decode cX3_commandOfToken 1 = .ok (.istore_n 1, 1) := by decide +kernel
theorem dX3_commandOfToken_2 : decode cX3_commandOfToken 2 = .ok (.iload_n 1, 1) := by decide +kernel
theorem dX3_commandOfToken_3 : decode cX3_commandOfToken 3 = .ok (.bipush 7, 2) := by decide +kernel
theorem dX3_commandOfToken_5 : decode cX3_commandOfToken 5 = .ok (.if_icmp .ge 22, 3) := by decide +kernel
theorem dX3_commandOfToken_8 : decode cX3_commandOfToken 8 = .ok (.aload_n 0, 1) := by decide +kernel
theorem dX3_commandOfToken_9 : decode cX3_commandOfToken 9 = .ok (.iload_n 1, 1) := by decide +kernel
theorem dX3_commandOfToken_10 : decode cX3_commandOfToken 10 = .ok (.invokestatic 61, 3) := by decide +kernel
theorem dX3_commandOfToken_13 : decode cX3_commandOfToken 13 = .ok (.invokevirtual 52, 3) := by decide +kernel
theorem dX3_commandOfToken_16 : decode cX3_commandOfToken 16 = .ok (.ifCond .eq 5, 3) := by decide +kernel
theorem dX3_commandOfToken_19 : decode cX3_commandOfToken 19 = .ok (.iload_n 1, 1) := by decide +kernel
theorem dX3_commandOfToken_20 : decode cX3_commandOfToken 20 = .ok (.ireturn, 1) := by decide +kernel
theorem dX3_commandOfToken_21 : decode cX3_commandOfToken 21 = .ok (.iinc 1 1, 3) := by decide +kernel
theorem dX3_commandOfToken_24 : decode cX3_commandOfToken 24 = .ok (.goto (-22), 3) := by decide +kernel
theorem dX3_commandOfToken_27 : decode cX3_commandOfToken 27 = .ok (.iconst (-1), 1) := by decide +kernel
theorem dX3_commandOfToken_28 : decode cX3_commandOfToken 28 = .ok (.ireturn, 1) := by decide +kernel
theorem dX3_wordOf_0 : decode cX3_wordOf 0 = .ok (.iload_n 0, 1) := by decide +kernel
theorem dX3_wordOf_1 : decode cX3_wordOf 1 = .ok (.tableswitch 64 0 6 #[43, 46, 49, 52, 55, 58, 61], 43) := by decide +kernel
theorem dX3_wordOf_44 : decode cX3_wordOf 44 = .ok (.ldc 65, 2) := by decide +kernel
theorem dX3_wordOf_46 : decode cX3_wordOf 46 = .ok (.areturn, 1) := by decide +kernel
theorem dX3_wordOf_47 : decode cX3_wordOf 47 = .ok (.ldc 67, 2) := by decide +kernel
theorem dX3_wordOf_49 : decode cX3_wordOf 49 = .ok (.areturn, 1) := by decide +kernel
theorem dX3_wordOf_50 : decode cX3_wordOf 50 = .ok (.ldc 69, 2) := by decide +kernel
theorem dX3_wordOf_52 : decode cX3_wordOf 52 = .ok (.areturn, 1) := by decide +kernel
theorem dX3_wordOf_53 : decode cX3_wordOf 53 = .ok (.ldc 71, 2) := by decide +kernel
theorem dX3_wordOf_55 : decode cX3_wordOf 55 = .ok (.areturn, 1) := by decide +kernel
theorem dX3_wordOf_56 : decode cX3_wordOf 56 = .ok (.ldc 73, 2) := by decide +kernel
theorem dX3_wordOf_58 : decode cX3_wordOf 58 = .ok (.areturn, 1) := by decide +kernel
theorem dX3_wordOf_59 : decode cX3_wordOf 59 = .ok (.ldc 75, 2) := by decide +kernel
theorem dX3_wordOf_61 : decode cX3_wordOf 61 = .ok (.areturn, 1) := by decide +kernel
theorem dX3_wordOf_62 : decode cX3_wordOf 62 = .ok (.ldc 77, 2) := by decide +kernel
theorem dX3_wordOf_64 : decode cX3_wordOf 64 = .ok (.areturn, 1) := by decide +kernel
theorem dX3_wordOf_65 : decode cX3_wordOf 65 = .ok (.ldc 79, 2) := by decide +kernel
theorem dX3_wordOf_67 : decode cX3_wordOf 67 = .ok (.areturn, 1) := by decide +kernel
theorem dX3_tokenIs_0 : decode cX3_tokenIs 0 = .ok (.aload_n 0, 1) := by decide +kernel
theorem dX3_tokenIs_1 : decode cX3_tokenIs 1 = .ok (.getfield 32, 3) := by decide +kernel
theorem dX3_tokenIs_4 : decode cX3_tokenIs 4 = .ok (.aload_n 0, 1) := by decide +kernel
theorem dX3_tokenIs_5 : decode cX3_tokenIs 5 = .ok (.getfield 29, 3) := by decide +kernel
theorem dX3_tokenIs_8 : decode cX3_tokenIs 8 = .ok (.isub, 1) := by decide +kernel
theorem dX3_tokenIs_9 : decode cX3_tokenIs 9 = .ok (.aload_n 1, 1) := by decide +kernel
theorem dX3_tokenIs_10 : decode cX3_tokenIs 10 = .ok (.invokevirtual 81, 3) := by decide +kernel
theorem dX3_tokenIs_13 : decode cX3_tokenIs 13 = .ok (.if_icmp .eq 5, 3) := by decide +kernel
theorem dX3_tokenIs_16 : decode cX3_tokenIs 16 = .ok (.iconst 0, 1) := by decide +kernel
theorem dX3_tokenIs_17 : decode cX3_tokenIs 17 = .ok (.ireturn, 1) := by decide +kernel
theorem dX3_tokenIs_18 : decode cX3_tokenIs 18 = .ok (.iconst 0, 1) := by decide +kernel
theorem dX3_tokenIs_19 : decode cX3_tokenIs 19 = .ok (.istore_n 2, 1) := by decide +kernel
theorem dX3_tokenIs_20 : decode cX3_tokenIs 20 = .ok (.iload_n 2, 1) := by decide +kernel
theorem dX3_tokenIs_21 : decode cX3_tokenIs 21 = .ok (.aload_n 1, 1) := by decide +kernel
theorem dX3_tokenIs_22 : decode cX3_tokenIs 22 = .ok (.invokevirtual 81, 3) := by decide +kernel
theorem dX3_tokenIs_25 : decode cX3_tokenIs 25 = .ok (.if_icmp .ge 30, 3) := by decide +kernel
theorem dX3_tokenIs_28 : decode cX3_tokenIs 28 = .ok (.aload_n 0, 1) := by decide +kernel
theorem dX3_tokenIs_29 : decode cX3_tokenIs 29 = .ok (.getfield 9, 3) := by decide +kernel
theorem dX3_tokenIs_32 : decode cX3_tokenIs 32 = .ok (.aload_n 0, 1) := by decide +kernel
theorem dX3_tokenIs_33 : decode cX3_tokenIs 33 = .ok (.getfield 29, 3) := by decide +kernel
theorem dX3_tokenIs_36 : decode cX3_tokenIs 36 = .ok (.iload_n 2, 1) := by decide +kernel
theorem dX3_tokenIs_37 : decode cX3_tokenIs 37 = .ok (.iadd, 1) := by decide +kernel
theorem dX3_tokenIs_38 : decode cX3_tokenIs 38 = .ok (.caload, 1) := by decide +kernel
theorem dX3_tokenIs_39 : decode cX3_tokenIs 39 = .ok (.aload_n 1, 1) := by decide +kernel
theorem dX3_tokenIs_40 : decode cX3_tokenIs 40 = .ok (.iload_n 2, 1) := by decide +kernel
theorem dX3_tokenIs_41 : decode cX3_tokenIs 41 = .ok (.invokevirtual 85, 3) := by decide +kernel
theorem dX3_tokenIs_44 : decode cX3_tokenIs 44 = .ok (.if_icmp .eq 5, 3) := by decide +kernel
theorem dX3_tokenIs_47 : decode cX3_tokenIs 47 = .ok (.iconst 0, 1) := by decide +kernel
theorem dX3_tokenIs_48 : decode cX3_tokenIs 48 = .ok (.ireturn, 1) := by decide +kernel
theorem dX3_tokenIs_49 : decode cX3_tokenIs 49 = .ok (.iinc 2 1, 3) := by decide +kernel
theorem dX3_tokenIs_52 : decode cX3_tokenIs 52 = .ok (.goto (-32), 3) := by decide +kernel
theorem dX3_tokenIs_55 : decode cX3_tokenIs 55 = .ok (.iconst 1, 1) := by decide +kernel
theorem dX3_tokenIs_56 : decode cX3_tokenIs 56 = .ok (.ireturn, 1) := by decide +kernel
theorem dX3_numberOfToken_0 : decode cX3_numberOfToken 0 = .ok (.aload_n 0, 1) := by decide +kernel
theorem dX3_numberOfToken_1 : decode cX3_numberOfToken 1 = .ok (.getfield 32, 3) := by decide +kernel
theorem dX3_numberOfToken_4 : decode cX3_numberOfToken 4 = .ok (.aload_n 0, 1) := by decide +kernel
theorem dX3_numberOfToken_5 : decode cX3_numberOfToken 5 = .ok (.getfield 29, 3) := by decide +kernel
theorem dX3_numberOfToken_8 : decode cX3_numberOfToken 8 = .ok (.isub, 1) := by decide +kernel
theorem dX3_numberOfToken_9 : decode cX3_numberOfToken 9 = .ok (.istore_n 1, 1) := by decide +kernel
theorem dX3_numberOfToken_10 : decode cX3_numberOfToken 10 = .ok (.iload_n 1, 1) := by decide +kernel
theorem dX3_numberOfToken_11 : decode cX3_numberOfToken 11 = .ok (.iconst 1, 1) := by decide +kernel
theorem dX3_numberOfToken_12 : decode cX3_numberOfToken 12 = .ok (.if_icmp .lt 27, 3) := by decide +kernel
theorem dX3_numberOfToken_15 : decode cX3_numberOfToken 15 = .ok (.iload_n 1, 1) := by decide +kernel
theorem dX3_numberOfToken_16 : decode cX3_numberOfToken 16 = .ok (.iconst 4, 1) := by decide +kernel
theorem dX3_numberOfToken_17 : decode cX3_numberOfToken 17 = .ok (.if_icmp .gt 22, 3) := by decide +kernel
theorem dX3_numberOfToken_20 : decode cX3_numberOfToken 20 = .ok (.iload_n 1, 1) := by decide +kernel
theorem dX3_numberOfToken_21 : decode cX3_numberOfToken 21 = .ok (.iconst 1, 1) := by decide +kernel
theorem dX3_numberOfToken_22 : decode cX3_numberOfToken 22 = .ok (.if_icmp .le 19, 3) := by decide +kernel
theorem dX3_numberOfToken_25 : decode cX3_numberOfToken 25 = .ok (.aload_n 0, 1) := by decide +kernel
theorem dX3_numberOfToken_26 : decode cX3_numberOfToken 26 = .ok (.getfield 9, 3) := by decide +kernel
theorem dX3_numberOfToken_29 : decode cX3_numberOfToken 29 = .ok (.aload_n 0, 1) := by decide +kernel
theorem dX3_numberOfToken_30 : decode cX3_numberOfToken 30 = .ok (.getfield 29, 3) := by decide +kernel
theorem dX3_numberOfToken_33 : decode cX3_numberOfToken 33 = .ok (.caload, 1) := by decide +kernel
theorem dX3_numberOfToken_34 : decode cX3_numberOfToken 34 = .ok (.bipush 48, 2) := by decide +kernel
theorem dX3_numberOfToken_36 : decode cX3_numberOfToken 36 = .ok (.if_icmp .ne 5, 3) := by decide +kernel
theorem dX3_numberOfToken_39 : decode cX3_numberOfToken 39 = .ok (.iconst (-1), 1) := by decide +kernel
theorem dX3_numberOfToken_40 : decode cX3_numberOfToken 40 = .ok (.ireturn, 1) := by decide +kernel
theorem dX3_numberOfToken_41 : decode cX3_numberOfToken 41 = .ok (.iconst 0, 1) := by decide +kernel
theorem dX3_numberOfToken_42 : decode cX3_numberOfToken 42 = .ok (.istore_n 2, 1) := by decide +kernel
theorem dX3_numberOfToken_43 : decode cX3_numberOfToken 43 = .ok (.aload_n 0, 1) := by decide +kernel
theorem dX3_numberOfToken_44 : decode cX3_numberOfToken 44 = .ok (.getfield 29, 3) := by decide +kernel
theorem dX3_numberOfToken_47 : decode cX3_numberOfToken 47 = .ok (.istore_n 3, 1) := by decide +kernel
theorem dX3_numberOfToken_48 : decode cX3_numberOfToken 48 = .ok (.iload_n 3, 1) := by decide +kernel
theorem dX3_numberOfToken_49 : decode cX3_numberOfToken 49 = .ok (.aload_n 0, 1) := by decide +kernel
theorem dX3_numberOfToken_50 : decode cX3_numberOfToken 50 = .ok (.getfield 32, 3) := by decide +kernel
theorem dX3_numberOfToken_53 : decode cX3_numberOfToken 53 = .ok (.if_icmp .ge 39, 3) := by decide +kernel
theorem dX3_numberOfToken_56 : decode cX3_numberOfToken 56 = .ok (.aload_n 0, 1) := by decide +kernel
theorem dX3_numberOfToken_57 : decode cX3_numberOfToken 57 = .ok (.getfield 9, 3) := by decide +kernel
theorem dX3_numberOfToken_60 : decode cX3_numberOfToken 60 = .ok (.iload_n 3, 1) := by decide +kernel
theorem dX3_numberOfToken_61 : decode cX3_numberOfToken 61 = .ok (.caload, 1) := by decide +kernel
theorem dX3_numberOfToken_62 : decode cX3_numberOfToken 62 = .ok (.invokestatic 35, 3) := by decide +kernel
theorem dX3_numberOfToken_65 : decode cX3_numberOfToken 65 = .ok (.iconst 2, 1) := by decide +kernel
theorem dX3_numberOfToken_66 : decode cX3_numberOfToken 66 = .ok (.if_icmp .eq 5, 3) := by decide +kernel
theorem dX3_numberOfToken_69 : decode cX3_numberOfToken 69 = .ok (.iconst (-1), 1) := by decide +kernel
theorem dX3_numberOfToken_70 : decode cX3_numberOfToken 70 = .ok (.ireturn, 1) := by decide +kernel
theorem dX3_numberOfToken_71 : decode cX3_numberOfToken 71 = .ok (.bipush 10, 2) := by decide +kernel
theorem dX3_numberOfToken_73 : decode cX3_numberOfToken 73 = .ok (.iload_n 2, 1) := by decide +kernel
theorem dX3_numberOfToken_74 : decode cX3_numberOfToken 74 = .ok (.imul, 1) := by decide +kernel
theorem dX3_numberOfToken_75 : decode cX3_numberOfToken 75 = .ok (.aload_n 0, 1) := by decide +kernel
theorem dX3_numberOfToken_76 : decode cX3_numberOfToken 76 = .ok (.getfield 9, 3) := by decide +kernel
theorem dX3_numberOfToken_79 : decode cX3_numberOfToken 79 = .ok (.iload_n 3, 1) := by decide +kernel
theorem dX3_numberOfToken_80 : decode cX3_numberOfToken 80 = .ok (.caload, 1) := by decide +kernel
theorem dX3_numberOfToken_81 : decode cX3_numberOfToken 81 = .ok (.bipush 48, 2) := by decide +kernel
theorem dX3_numberOfToken_83 : decode cX3_numberOfToken 83 = .ok (.isub, 1) := by decide +kernel
theorem dX3_numberOfToken_84 : decode cX3_numberOfToken 84 = .ok (.iadd, 1) := by decide +kernel
theorem dX3_numberOfToken_85 : decode cX3_numberOfToken 85 = .ok (.istore_n 2, 1) := by decide +kernel
theorem dX3_numberOfToken_86 : decode cX3_numberOfToken 86 = .ok (.iinc 3 1, 3) := by decide +kernel
theorem dX3_numberOfToken_89 : decode cX3_numberOfToken 89 = .ok (.goto (-41), 3) := by decide +kernel
theorem dX3_numberOfToken_92 : decode cX3_numberOfToken 92 = .ok (.iload_n 2, 1) := by decide +kernel
theorem dX3_numberOfToken_93 : decode cX3_numberOfToken 93 = .ok (.ireturn, 1) := by decide +kernel
theorem dX5_init_0 : decode cX5_init 0 = .ok (.aload_n 0, 1) := by decide +kernel
theorem dX5_init_1 : decode cX5_init 1 = .ok (.invokespecial 3, 3) := by decide +kernel
theorem dX5_init_4 : decode cX5_init 4 = .ok (.aload_n 0, 1) := by decide +kernel
theorem dX5_init_5 : decode cX5_init 5 = .ok (.new 9, 3) := by decide +kernel
theorem dX5_init_8 : decode cX5_init 8 = .ok (.dup, 1) := by decide +kernel
theorem dX5_init_9 : decode cX5_init 9 = .ok (.invokespecial 11, 3) := by decide +kernel
theorem dX5_init_12 : decode cX5_init 12 = .ok (.putfield 12, 3) := by decide +kernel
theorem dX5_init_15 : decode cX5_init 15 = .ok (.aload_n 0, 1) := by decide +kernel
theorem dX5_init_16 : decode cX5_init 16 = .ok (.iconst 2, 1) := by decide +kernel
theorem dX5_init_17 : decode cX5_init 17 = .ok (.anewarray 9, 3) := by decide +kernel
theorem dX5_init_20 : decode cX5_init 20 = .ok (.putfield 18, 3) := by decide +kernel
theorem dX5_init_23 : decode cX5_init 23 = .ok (.aload_n 0, 1) := by decide +kernel
theorem dX5_init_24 : decode cX5_init 24 = .ok (.iconst 2, 1) := by decide +kernel
theorem dX5_init_25 : decode cX5_init 25 = .ok (.newarray .boolean, 2) := by decide +kernel
theorem dX5_init_27 : decode cX5_init 27 = .ok (.putfield 22, 3) := by decide +kernel
theorem dX5_init_30 : decode cX5_init 30 = .ok (.iconst 0, 1) := by decide +kernel
theorem dX5_init_31 : decode cX5_init 31 = .ok (.istore_n 1, 1) := by decide +kernel
theorem dX5_init_32 : decode cX5_init 32 = .ok (.iload_n 1, 1) := by decide +kernel
theorem dX5_init_33 : decode cX5_init 33 = .ok (.iconst 2, 1) := by decide +kernel
theorem dX5_init_34 : decode cX5_init 34 = .ok (.if_icmp .ge 22, 3) := by decide +kernel
theorem dX5_init_37 : decode cX5_init 37 = .ok (.aload_n 0, 1) := by decide +kernel
theorem dX5_init_38 : decode cX5_init 38 = .ok (.getfield 18, 3) := by decide +kernel
theorem dX5_init_41 : decode cX5_init 41 = .ok (.iload_n 1, 1) := by decide +kernel
theorem dX5_init_42 : decode cX5_init 42 = .ok (.new 9, 3) := by decide +kernel
theorem dX5_init_45 : decode cX5_init 45 = .ok (.dup, 1) := by decide +kernel
theorem dX5_init_46 : decode cX5_init 46 = .ok (.invokespecial 11, 3) := by decide +kernel
theorem dX5_init_49 : decode cX5_init 49 = .ok (.aastore, 1) := by decide +kernel
theorem dX5_init_50 : decode cX5_init 50 = .ok (.iinc 1 1, 3) := by decide +kernel
theorem dX5_init_53 : decode cX5_init 53 = .ok (.goto (-21), 3) := by decide +kernel
theorem dX5_init_56 : decode cX5_init 56 = .ok (.return_, 1) := by decide +kernel
theorem dX5_copyFrom_0 : decode cX5_copyFrom 0 = .ok (.aload_n 0, 1) := by decide +kernel
theorem dX5_copyFrom_1 : decode cX5_copyFrom 1 = .ok (.getfield 12, 3) := by decide +kernel
theorem dX5_copyFrom_4 : decode cX5_copyFrom 4 = .ok (.aload_n 1, 1) := by decide +kernel
theorem dX5_copyFrom_5 : decode cX5_copyFrom 5 = .ok (.getfield 12, 3) := by decide +kernel
theorem dX5_copyFrom_8 : decode cX5_copyFrom 8 = .ok (.invokevirtual 26, 3) := by decide +kernel
theorem dX5_copyFrom_11 : decode cX5_copyFrom 11 = .ok (.iconst 0, 1) := by decide +kernel
theorem dX5_copyFrom_12 : decode cX5_copyFrom 12 = .ok (.istore_n 2, 1) := by decide +kernel
theorem dX5_copyFrom_13 : decode cX5_copyFrom 13 = .ok (.iload_n 2, 1) := by decide +kernel
theorem dX5_copyFrom_14 : decode cX5_copyFrom 14 = .ok (.iconst 2, 1) := by decide +kernel
theorem dX5_copyFrom_15 : decode cX5_copyFrom 15 = .ok (.if_icmp .ge 36, 3) := by decide +kernel
theorem dX5_copyFrom_18 : decode cX5_copyFrom 18 = .ok (.aload_n 0, 1) := by decide +kernel
theorem dX5_copyFrom_19 : decode cX5_copyFrom 19 = .ok (.getfield 18, 3) := by decide +kernel
theorem dX5_copyFrom_22 : decode cX5_copyFrom 22 = .ok (.iload_n 2, 1) := by decide +kernel
theorem dX5_copyFrom_23 : decode cX5_copyFrom 23 = .ok (.aaload, 1) := by decide +kernel
theorem dX5_copyFrom_24 : decode cX5_copyFrom 24 = .ok (.aload_n 1, 1) := by decide +kernel
theorem dX5_copyFrom_25 : decode cX5_copyFrom 25 = .ok (.getfield 18, 3) := by decide +kernel
theorem dX5_copyFrom_28 : decode cX5_copyFrom 28 = .ok (.iload_n 2, 1) := by decide +kernel
theorem dX5_copyFrom_29 : decode cX5_copyFrom 29 = .ok (.aaload, 1) := by decide +kernel
theorem dX5_copyFrom_30 : decode cX5_copyFrom 30 = .ok (.invokevirtual 26, 3) := by decide +kernel
theorem dX5_copyFrom_33 : decode cX5_copyFrom 33 = .ok (.aload_n 0, 1) := by decide +kernel
theorem dX5_copyFrom_34 : decode cX5_copyFrom 34 = .ok (.getfield 22, 3) := by decide +kernel
theorem dX5_copyFrom_37 : decode cX5_copyFrom 37 = .ok (.iload_n 2, 1) := by decide +kernel
theorem dX5_copyFrom_38 : decode cX5_copyFrom 38 = .ok (.aload_n 1, 1) := by decide +kernel
theorem dX5_copyFrom_39 : decode cX5_copyFrom 39 = .ok (.getfield 22, 3) := by decide +kernel
theorem dX5_copyFrom_42 : decode cX5_copyFrom 42 = .ok (.iload_n 2, 1) := by decide +kernel
theorem dX5_copyFrom_43 : decode cX5_copyFrom 43 = .ok (.baload, 1) := by decide +kernel
theorem dX5_copyFrom_44 : decode cX5_copyFrom 44 = .ok (.bastore, 1) := by decide +kernel
theorem dX5_copyFrom_45 : decode cX5_copyFrom 45 = .ok (.iinc 2 1, 3) := by decide +kernel
theorem dX5_copyFrom_48 : decode cX5_copyFrom 48 = .ok (.goto (-35), 3) := by decide +kernel
theorem dX5_copyFrom_51 : decode cX5_copyFrom 51 = .ok (.return_, 1) := by decide +kernel
theorem dX5_keepSnapshot_0 : decode cX5_keepSnapshot 0 = .ok (.iload_n 1, 1) := by decide +kernel
theorem dX5_keepSnapshot_1 : decode cX5_keepSnapshot 1 = .ok (.iconst 0, 1) := by decide +kernel
theorem dX5_keepSnapshot_2 : decode cX5_keepSnapshot 2 = .ok (.iconst 1, 1) := by decide +kernel
theorem dX5_keepSnapshot_3 : decode cX5_keepSnapshot 3 = .ok (.invokestatic 30, 3) := by decide +kernel
theorem dX5_keepSnapshot_6 : decode cX5_keepSnapshot 6 = .ok (.ifCond .ne 6, 3) := by decide +kernel
theorem dX5_keepSnapshot_9 : decode cX5_keepSnapshot 9 = .ok (.ldc 34, 2) := by decide +kernel
theorem dX5_keepSnapshot_11 : decode cX5_keepSnapshot 11 = .ok (.ireturn, 1) := by decide +kernel
theorem dX5_keepSnapshot_12 : decode cX5_keepSnapshot 12 = .ok (.aload_n 0, 1) := by decide +kernel
theorem dX5_keepSnapshot_13 : decode cX5_keepSnapshot 13 = .ok (.getfield 18, 3) := by decide +kernel
theorem dX5_keepSnapshot_16 : decode cX5_keepSnapshot 16 = .ok (.iload_n 1, 1) := by decide +kernel
theorem dX5_keepSnapshot_17 : decode cX5_keepSnapshot 17 = .ok (.aaload, 1) := by decide +kernel
theorem dX5_keepSnapshot_18 : decode cX5_keepSnapshot 18 = .ok (.aload_n 0, 1) := by decide +kernel
theorem dX5_keepSnapshot_19 : decode cX5_keepSnapshot 19 = .ok (.getfield 12, 3) := by decide +kernel
theorem dX5_keepSnapshot_22 : decode cX5_keepSnapshot 22 = .ok (.invokevirtual 26, 3) := by decide +kernel
theorem dX5_keepSnapshot_25 : decode cX5_keepSnapshot 25 = .ok (.aload_n 0, 1) := by decide +kernel
theorem dX5_keepSnapshot_26 : decode cX5_keepSnapshot 26 = .ok (.getfield 22, 3) := by decide +kernel
theorem dX5_keepSnapshot_29 : decode cX5_keepSnapshot 29 = .ok (.iload_n 1, 1) := by decide +kernel
theorem dX5_keepSnapshot_30 : decode cX5_keepSnapshot 30 = .ok (.iconst 1, 1) := by decide +kernel
theorem dX5_keepSnapshot_31 : decode cX5_keepSnapshot 31 = .ok (.bastore, 1) := by decide +kernel
theorem dX5_keepSnapshot_32 : decode cX5_keepSnapshot 32 = .ok (.aload_n 0, 1) := by decide +kernel
theorem dX5_keepSnapshot_33 : decode cX5_keepSnapshot 33 = .ok (.getfield 12, 3) := by decide +kernel
theorem dX5_keepSnapshot_36 : decode cX5_keepSnapshot 36 = .ok (.getfield 35, 3) := by decide +kernel
theorem dX5_keepSnapshot_39 : decode cX5_keepSnapshot 39 = .ok (.ireturn, 1) := by decide +kernel
theorem dX5_fetchSnapshot_0 : decode cX5_fetchSnapshot 0 = .ok (.iload_n 1, 1) := by decide +kernel
theorem dX5_fetchSnapshot_1 : decode cX5_fetchSnapshot 1 = .ok (.iconst 0, 1) := by decide +kernel
theorem dX5_fetchSnapshot_2 : decode cX5_fetchSnapshot 2 = .ok (.iconst 1, 1) := by decide +kernel
theorem dX5_fetchSnapshot_3 : decode cX5_fetchSnapshot 3 = .ok (.invokestatic 30, 3) := by decide +kernel
theorem dX5_fetchSnapshot_6 : decode cX5_fetchSnapshot 6 = .ok (.ifCond .ne 6, 3) := by decide +kernel
theorem dX5_fetchSnapshot_9 : decode cX5_fetchSnapshot 9 = .ok (.ldc 34, 2) := by decide +kernel
theorem dX5_fetchSnapshot_11 : decode cX5_fetchSnapshot 11 = .ok (.ireturn, 1) := by decide +kernel
theorem dX5_fetchSnapshot_12 : decode cX5_fetchSnapshot 12 = .ok (.aload_n 0, 1) := by decide +kernel
theorem dX5_fetchSnapshot_13 : decode cX5_fetchSnapshot 13 = .ok (.getfield 22, 3) := by decide +kernel
theorem dX5_fetchSnapshot_16 : decode cX5_fetchSnapshot 16 = .ok (.iload_n 1, 1) := by decide +kernel
theorem dX5_fetchSnapshot_17 : decode cX5_fetchSnapshot 17 = .ok (.baload, 1) := by decide +kernel
theorem dX5_fetchSnapshot_18 : decode cX5_fetchSnapshot 18 = .ok (.ifCond .ne 6, 3) := by decide +kernel
theorem dX5_fetchSnapshot_21 : decode cX5_fetchSnapshot 21 = .ok (.ldc 39, 2) := by decide +kernel
theorem dX5_fetchSnapshot_23 : decode cX5_fetchSnapshot 23 = .ok (.ireturn, 1) := by decide +kernel
theorem dX5_fetchSnapshot_24 : decode cX5_fetchSnapshot 24 = .ok (.aload_n 0, 1) := by decide +kernel
theorem dX5_fetchSnapshot_25 : decode cX5_fetchSnapshot 25 = .ok (.getfield 12, 3) := by decide +kernel
theorem dX5_fetchSnapshot_28 : decode cX5_fetchSnapshot 28 = .ok (.aload_n 0, 1) := by decide +kernel
theorem dX5_fetchSnapshot_29 : decode cX5_fetchSnapshot 29 = .ok (.getfield 18, 3) := by decide +kernel
theorem dX5_fetchSnapshot_32 : decode cX5_fetchSnapshot 32 = .ok (.iload_n 1, 1) := by decide +kernel
theorem dX5_fetchSnapshot_33 : decode cX5_fetchSnapshot 33 = .ok (.aaload, 1) := by decide +kernel
theorem dX5_fetchSnapshot_34 : decode cX5_fetchSnapshot 34 = .ok (.invokevirtual 26, 3) := by decide +kernel
theorem dX5_fetchSnapshot_37 : decode cX5_fetchSnapshot 37 = .ok (.aload_n 0, 1) := by decide +kernel
theorem dX5_fetchSnapshot_38 : decode cX5_fetchSnapshot 38 = .ok (.getfield 12, 3) := by decide +kernel
theorem dX5_fetchSnapshot_41 : decode cX5_fetchSnapshot 41 = .ok (.getfield 35, 3) := by decide +kernel
theorem dX5_fetchSnapshot_44 : decode cX5_fetchSnapshot 44 = .ok (.ireturn, 1) := by decide +kernel
theorem dX5_snapshots_0 : decode cX5_snapshots 0 = .ok (.iconst 0, 1) := by decide +kernel
theorem dX5_snapshots_1 : decode cX5_snapshots 1 = .ok (.istore_n 1, 1) := by decide +kernel
theorem dX5_snapshots_2 : decode cX5_snapshots 2 = .ok (.iconst 0, 1) := by decide +kernel
theorem dX5_snapshots_3 : decode cX5_snapshots 3 = .ok (.istore_n 2, 1) := by decide +kernel
theorem dX5_snapshots_4 : decode cX5_snapshots 4 = .ok (.iload_n 2, 1) := by decide +kernel
theorem dX5_snapshots_5 : decode cX5_snapshots 5 = .ok (.iconst 2, 1) := by decide +kernel
theorem dX5_snapshots_6 : decode cX5_snapshots 6 = .ok (.if_icmp .ge 21, 3) := by decide +kernel
theorem dX5_snapshots_9 : decode cX5_snapshots 9 = .ok (.aload_n 0, 1) := by decide +kernel
theorem dX5_snapshots_10 : decode cX5_snapshots 10 = .ok (.getfield 22, 3) := by decide +kernel
theorem dX5_snapshots_13 : decode cX5_snapshots 13 = .ok (.iload_n 2, 1) := by decide +kernel
theorem dX5_snapshots_14 : decode cX5_snapshots 14 = .ok (.baload, 1) := by decide +kernel
theorem dX5_snapshots_15 : decode cX5_snapshots 15 = .ok (.ifCond .eq 6, 3) := by decide +kernel
theorem dX5_snapshots_18 : decode cX5_snapshots 18 = .ok (.iinc 1 1, 3) := by decide +kernel
theorem dX5_snapshots_21 : decode cX5_snapshots 21 = .ok (.iinc 2 1, 3) := by decide +kernel
theorem dX5_snapshots_24 : decode cX5_snapshots 24 = .ok (.goto (-20), 3) := by decide +kernel
theorem dX5_snapshots_27 : decode cX5_snapshots 27 = .ok (.iload_n 1, 1) := by decide +kernel
theorem dX5_snapshots_28 : decode cX5_snapshots 28 = .ok (.ireturn, 1) := by decide +kernel
theorem dX6_init_0 : decode cX6_init 0 = .ok (.aload_n 0, 1) := by decide +kernel
theorem dX6_init_1 : decode cX6_init 1 = .ok (.invokespecial 3, 3) := by decide +kernel
theorem dX6_init_4 : decode cX6_init 4 = .ok (.aload_n 0, 1) := by decide +kernel
theorem dX6_init_5 : decode cX6_init 5 = .ok (.ldc 9, 2) := by decide +kernel
theorem dX6_init_7 : decode cX6_init 7 = .ok (.putfield 10, 3) := by decide +kernel
theorem dX6_init_10 : decode cX6_init 10 = .ok (.aload_n 0, 1) := by decide +kernel
theorem dX6_init_11 : decode cX6_init 11 = .ok (.ldc 9, 2) := by decide +kernel
theorem dX6_init_13 : decode cX6_init 13 = .ok (.putfield 16, 3) := by decide +kernel
theorem dX6_init_16 : decode cX6_init 16 = .ok (.return_, 1) := by decide +kernel
theorem dX6_copyFrom_0 : decode cX6_copyFrom 0 = .ok (.aload_n 0, 1) := by decide +kernel
theorem dX6_copyFrom_1 : decode cX6_copyFrom 1 = .ok (.aload_n 1, 1) := by decide +kernel
theorem dX6_copyFrom_2 : decode cX6_copyFrom 2 = .ok (.getfield 10, 3) := by decide +kernel
theorem dX6_copyFrom_5 : decode cX6_copyFrom 5 = .ok (.putfield 10, 3) := by decide +kernel
theorem dX6_copyFrom_8 : decode cX6_copyFrom 8 = .ok (.aload_n 0, 1) := by decide +kernel
theorem dX6_copyFrom_9 : decode cX6_copyFrom 9 = .ok (.aload_n 1, 1) := by decide +kernel
theorem dX6_copyFrom_10 : decode cX6_copyFrom 10 = .ok (.getfield 16, 3) := by decide +kernel
theorem dX6_copyFrom_13 : decode cX6_copyFrom 13 = .ok (.putfield 16, 3) := by decide +kernel
theorem dX6_copyFrom_16 : decode cX6_copyFrom 16 = .ok (.return_, 1) := by decide +kernel
theorem dX6_isKnown_0 : decode cX6_isKnown 0 = .ok (.aload_n 0, 1) := by decide +kernel
theorem dX6_isKnown_1 : decode cX6_isKnown 1 = .ok (.getfield 10, 3) := by decide +kernel
theorem dX6_isKnown_4 : decode cX6_isKnown 4 = .ok (.ldc 9, 2) := by decide +kernel
theorem dX6_isKnown_6 : decode cX6_isKnown 6 = .ok (.if_icmp .eq 32, 3) := by decide +kernel
theorem dX6_isKnown_9 : decode cX6_isKnown 9 = .ok (.aload_n 0, 1) := by decide +kernel
theorem dX6_isKnown_10 : decode cX6_isKnown 10 = .ok (.getfield 16, 3) := by decide +kernel
theorem dX6_isKnown_13 : decode cX6_isKnown 13 = .ok (.ldc 9, 2) := by decide +kernel
theorem dX6_isKnown_15 : decode cX6_isKnown 15 = .ok (.if_icmp .eq 23, 3) := by decide +kernel
theorem dX6_isKnown_18 : decode cX6_isKnown 18 = .ok (.aload_n 0, 1) := by decide +kernel
theorem dX6_isKnown_19 : decode cX6_isKnown 19 = .ok (.getfield 10, 3) := by decide +kernel
theorem dX6_isKnown_22 : decode cX6_isKnown 22 = .ok (.aload_n 0, 1) := by decide +kernel
theorem dX6_isKnown_23 : decode cX6_isKnown 23 = .ok (.getfield 16, 3) := by decide +kernel
theorem dX6_isKnown_26 : decode cX6_isKnown 26 = .ok (.isub, 1) := by decide +kernel
theorem dX6_isKnown_27 : decode cX6_isKnown 27 = .ok (.invokestatic 19, 3) := by decide +kernel
theorem dX6_isKnown_30 : decode cX6_isKnown 30 = .ok (.iload_n 1, 1) := by decide +kernel
theorem dX6_isKnown_31 : decode cX6_isKnown 31 = .ok (.if_icmp .gt 7, 3) := by decide +kernel
theorem dX6_isKnown_34 : decode cX6_isKnown 34 = .ok (.iconst 1, 1) := by decide +kernel
theorem dX6_isKnown_35 : decode cX6_isKnown 35 = .ok (.goto 4, 3) := by decide +kernel
theorem dX6_isKnown_38 : decode cX6_isKnown 38 = .ok (.iconst 0, 1) := by decide +kernel
theorem dX6_isKnown_39 : decode cX6_isKnown 39 = .ok (.ireturn, 1) := by decide +kernel
theorem dJ6_bitCount_0f7a4_0 : decode cJ6_bitCount_0f7a4 0 = .ok (.iload_n 0, 1) := by decide +kernel
theorem dJ6_bitCount_0f7a4_1 : decode cJ6_bitCount_0f7a4 1 = .ok (.iload_n 0, 1) := by decide +kernel
theorem dJ6_bitCount_0f7a4_2 : decode cJ6_bitCount_0f7a4 2 = .ok (.iconst 1, 1) := by decide +kernel
theorem dJ6_bitCount_0f7a4_3 : decode cJ6_bitCount_0f7a4 3 = .ok (.iushr, 1) := by decide +kernel
theorem dJ6_bitCount_0f7a4_4 : decode cJ6_bitCount_0f7a4 4 = .ok (.ldc_w 265, 3) := by decide +kernel
theorem dJ6_bitCount_0f7a4_7 : decode cJ6_bitCount_0f7a4 7 = .ok (.iand, 1) := by decide +kernel
theorem dJ6_bitCount_0f7a4_8 : decode cJ6_bitCount_0f7a4 8 = .ok (.isub, 1) := by decide +kernel
theorem dJ6_bitCount_0f7a4_9 : decode cJ6_bitCount_0f7a4 9 = .ok (.istore_n 0, 1) := by decide +kernel
theorem dJ6_bitCount_0f7a4_10 : decode cJ6_bitCount_0f7a4 10 = .ok (.iload_n 0, 1) := by decide +kernel
theorem dJ6_bitCount_0f7a4_11 : decode cJ6_bitCount_0f7a4 11 = .ok (.ldc_w 266, 3) := by decide +kernel
theorem dJ6_bitCount_0f7a4_14 : decode cJ6_bitCount_0f7a4 14 = .ok (.iand, 1) := by decide +kernel
theorem dJ6_bitCount_0f7a4_15 : decode cJ6_bitCount_0f7a4 15 = .ok (.iload_n 0, 1) := by decide +kernel
theorem dJ6_bitCount_0f7a4_16 : decode cJ6_bitCount_0f7a4 16 = .ok (.iconst 2, 1) := by decide +kernel
theorem dJ6_bitCount_0f7a4_17 : decode cJ6_bitCount_0f7a4 17 = .ok (.iushr, 1) := by decide +kernel
theorem dJ6_bitCount_0f7a4_18 : decode cJ6_bitCount_0f7a4 18 = .ok (.ldc_w 266, 3) := by decide +kernel
theorem dJ6_bitCount_0f7a4_21 : decode cJ6_bitCount_0f7a4 21 = .ok (.iand, 1) := by decide +kernel
theorem dJ6_bitCount_0f7a4_22 : decode cJ6_bitCount_0f7a4 22 = .ok (.iadd, 1) := by decide +kernel
theorem dJ6_bitCount_0f7a4_23 : decode cJ6_bitCount_0f7a4 23 = .ok (.istore_n 0, 1) := by decide +kernel
theorem dJ6_bitCount_0f7a4_24 : decode cJ6_bitCount_0f7a4 24 = .ok (.iload_n 0, 1) := by decide +kernel
theorem dJ6_bitCount_0f7a4_25 : decode cJ6_bitCount_0f7a4 25 = .ok (.iload_n 0, 1) := by decide +kernel
theorem dJ6_bitCount_0f7a4_26 : decode cJ6_bitCount_0f7a4 26 = .ok (.iconst 4, 1) := by decide +kernel
theorem dJ6_bitCount_0f7a4_27 : decode cJ6_bitCount_0f7a4 27 = .ok (.iushr, 1) := by decide +kernel
theorem dJ6_bitCount_0f7a4_28 : decode cJ6_bitCount_0f7a4 28 = .ok (.iadd, 1) := by decide +kernel
theorem dJ6_bitCount_0f7a4_29 : decode cJ6_bitCount_0f7a4 29 = .ok (.ldc_w 267, 3) := by decide +kernel
theorem dJ6_bitCount_0f7a4_32 : decode cJ6_bitCount_0f7a4 32 = .ok (.iand, 1) := by decide +kernel
theorem dJ6_bitCount_0f7a4_33 : decode cJ6_bitCount_0f7a4 33 = .ok (.istore_n 0, 1) := by decide +kernel
theorem dJ6_bitCount_0f7a4_34 : decode cJ6_bitCount_0f7a4 34 = .ok (.iload_n 0, 1) := by decide +kernel
theorem dJ6_bitCount_0f7a4_35 : decode cJ6_bitCount_0f7a4 35 = .ok (.iload_n 0, 1) := by decide +kernel
theorem dJ6_bitCount_0f7a4_36 : decode cJ6_bitCount_0f7a4 36 = .ok (.bipush 8, 2) := by decide +kernel
theorem dJ6_bitCount_0f7a4_38 : decode cJ6_bitCount_0f7a4 38 = .ok (.iushr, 1) := by decide +kernel
theorem dJ6_bitCount_0f7a4_39 : decode cJ6_bitCount_0f7a4 39 = .ok (.iadd, 1) := by decide +kernel
theorem dJ6_bitCount_0f7a4_40 : decode cJ6_bitCount_0f7a4 40 = .ok (.istore_n 0, 1) := by decide +kernel
theorem dJ6_bitCount_0f7a4_41 : decode cJ6_bitCount_0f7a4 41 = .ok (.iload_n 0, 1) := by decide +kernel
theorem dJ6_bitCount_0f7a4_42 : decode cJ6_bitCount_0f7a4 42 = .ok (.iload_n 0, 1) := by decide +kernel
theorem dJ6_bitCount_0f7a4_43 : decode cJ6_bitCount_0f7a4 43 = .ok (.bipush 16, 2) := by decide +kernel
theorem dJ6_bitCount_0f7a4_45 : decode cJ6_bitCount_0f7a4 45 = .ok (.iushr, 1) := by decide +kernel
theorem dJ6_bitCount_0f7a4_46 : decode cJ6_bitCount_0f7a4 46 = .ok (.iadd, 1) := by decide +kernel
theorem dJ6_bitCount_0f7a4_47 : decode cJ6_bitCount_0f7a4 47 = .ok (.istore_n 0, 1) := by decide +kernel
theorem dJ6_bitCount_0f7a4_48 : decode cJ6_bitCount_0f7a4 48 = .ok (.iload_n 0, 1) := by decide +kernel
theorem dJ6_bitCount_0f7a4_49 : decode cJ6_bitCount_0f7a4 49 = .ok (.bipush 63, 2) := by decide +kernel
theorem dJ6_bitCount_0f7a4_51 : decode cJ6_bitCount_0f7a4 51 = .ok (.iand, 1) := by decide +kernel
theorem dJ6_bitCount_0f7a4_52 : decode cJ6_bitCount_0f7a4 52 = .ok (.ireturn, 1) := by decide +kernel
theorem dJ9_abs_0f7a4_0 : decode cJ9_abs_0f7a4 0 = .ok (.iload_n 0, 1) := by decide +kernel
theorem dJ9_abs_0f7a4_1 : decode cJ9_abs_0f7a4 1 = .ok (.ifCond .ge 8, 3) := by decide +kernel
theorem dJ9_abs_0f7a4_4 : decode cJ9_abs_0f7a4 4 = .ok (.iload_n 0, 1) := by decide +kernel
theorem dJ9_abs_0f7a4_5 : decode cJ9_abs_0f7a4 5 = .ok (.ineg, 1) := by decide +kernel
theorem dJ9_abs_0f7a4_6 : decode cJ9_abs_0f7a4 6 = .ok (.goto 4, 3) := by decide +kernel
theorem dJ9_abs_0f7a4_9 : decode cJ9_abs_0f7a4 9 = .ok (.iload_n 0, 1) := by decide +kernel
theorem dJ9_abs_0f7a4_10 : decode cJ9_abs_0f7a4 10 = .ok (.ireturn, 1) := by decide +kernel
theorem dJ9_min_7cf53_0 : decode cJ9_min_7cf53 0 = .ok (.iload_n 0, 1) := by decide +kernel
theorem dJ9_min_7cf53_1 : decode cJ9_min_7cf53 1 = .ok (.iload_n 1, 1) := by decide +kernel
theorem dJ9_min_7cf53_2 : decode cJ9_min_7cf53 2 = .ok (.if_icmp .gt 7, 3) := by decide +kernel
theorem dJ9_min_7cf53_5 : decode cJ9_min_7cf53 5 = .ok (.iload_n 0, 1) := by decide +kernel
theorem dJ9_min_7cf53_6 : decode cJ9_min_7cf53 6 = .ok (.goto 4, 3) := by decide +kernel
theorem dJ9_min_7cf53_9 : decode cJ9_min_7cf53 9 = .ok (.iload_n 1, 1) := by decide +kernel
theorem dJ9_min_7cf53_10 : decode cJ9_min_7cf53 10 = .ok (.ireturn, 1) := by decide +kernel
theorem dJ0_length_8abf5_0 : decode cJ0_length_8abf5 0 = .ok (.aload_n 0, 1) := by decide +kernel
theorem dJ0_length_8abf5_1 : decode cJ0_length_8abf5 1 = .ok (.getfield 9, 3) := by decide +kernel
theorem dJ0_length_8abf5_4 : decode cJ0_length_8abf5 4 = .ok (.arraylength, 1) := by decide +kernel
theorem dJ0_length_8abf5_5 : decode cJ0_length_8abf5 5 = .ok (.aload_n 0, 1) := by decide +kernel
theorem dJ0_length_8abf5_6 : decode cJ0_length_8abf5 6 = .ok (.invokevirtual 335, 3) := by decide +kernel
theorem dJ0_length_8abf5_9 : decode cJ0_length_8abf5 9 = .ok (.ishr, 1) := by decide +kernel
theorem dJ0_length_8abf5_10 : decode cJ0_length_8abf5 10 = .ok (.ireturn, 1) := by decide +kernel
theorem dJ0_charAt_5068e_0 : decode cJ0_charAt_5068e 0 = .ok (.aload_n 0, 1) := by decide +kernel
theorem dJ0_charAt_5068e_1 : decode cJ0_charAt_5068e 1 = .ok (.invokevirtual 492, 3) := by decide +kernel
theorem dJ0_charAt_5068e_4 : decode cJ0_charAt_5068e 4 = .ok (.ifCond .eq 12, 3) := by decide +kernel
theorem dJ0_charAt_5068e_7 : decode cJ0_charAt_5068e 7 = .ok (.aload_n 0, 1) := by decide +kernel
theorem dJ0_charAt_5068e_8 : decode cJ0_charAt_5068e 8 = .ok (.getfield 9, 3) := by decide +kernel
theorem dJ0_charAt_5068e_11 : decode cJ0_charAt_5068e 11 = .ok (.iload_n 1, 1) := by decide +kernel
theorem dJ0_charAt_5068e_12 : decode cJ0_charAt_5068e 12 = .ok (.invokestatic 495, 3) := by decide +kernel
theorem dJ0_charAt_5068e_15 : decode cJ0_charAt_5068e 15 = .ok (.ireturn, 1) := by decide +kernel
theorem dJ0_charAt_5068e_16 : decode cJ0_charAt_5068e 16 = .ok (.aload_n 0, 1) := by decide +kernel
theorem dJ0_charAt_5068e_17 : decode cJ0_charAt_5068e 17 = .ok (.getfield 9, 3) := by decide +kernel
theorem dJ0_charAt_5068e_20 : decode cJ0_charAt_5068e 20 = .ok (.iload_n 1, 1) := by decide +kernel
theorem dJ0_charAt_5068e_21 : decode cJ0_charAt_5068e 21 = .ok (.invokestatic 498, 3) := by decide +kernel
theorem dJ0_charAt_5068e_24 : decode cJ0_charAt_5068e 24 = .ok (.ireturn, 1) := by decide +kernel
theorem dJ0_coder_7d493_0 : decode cJ0_coder_7d493 0 = .ok (.getstatic 38, 3) := by decide +kernel
theorem dJ0_coder_7d493_3 : decode cJ0_coder_7d493 3 = .ok (.ifCond .eq 10, 3) := by decide +kernel
theorem dJ0_coder_7d493_6 : decode cJ0_coder_7d493 6 = .ok (.aload_n 0, 1) := by decide +kernel
theorem dJ0_coder_7d493_7 : decode cJ0_coder_7d493 7 = .ok (.getfield 15, 3) := by decide +kernel
theorem dJ0_coder_7d493_10 : decode cJ0_coder_7d493 10 = .ok (.goto 4, 3) := by decide +kernel
theorem dJ0_coder_7d493_13 : decode cJ0_coder_7d493 13 = .ok (.iconst 1, 1) := by decide +kernel
theorem dJ0_coder_7d493_14 : decode cJ0_coder_7d493 14 = .ok (.ireturn, 1) := by decide +kernel
theorem dJ0_isLatin1_aae02_0 : decode cJ0_isLatin1_aae02 0 = .ok (.getstatic 38, 3) := by decide +kernel
theorem dJ0_isLatin1_aae02_3 : decode cJ0_isLatin1_aae02 3 = .ok (.ifCond .eq 14, 3) := by decide +kernel
theorem dJ0_isLatin1_aae02_6 : decode cJ0_isLatin1_aae02 6 = .ok (.aload_n 0, 1) := by decide +kernel
theorem dJ0_isLatin1_aae02_7 : decode cJ0_isLatin1_aae02 7 = .ok (.getfield 15, 3) := by decide +kernel
theorem dJ0_isLatin1_aae02_10 : decode cJ0_isLatin1_aae02 10 = .ok (.ifCond .ne 7, 3) := by decide +kernel
theorem dJ0_isLatin1_aae02_13 : decode cJ0_isLatin1_aae02 13 = .ok (.iconst 1, 1) := by decide +kernel
theorem dJ0_isLatin1_aae02_14 : decode cJ0_isLatin1_aae02 14 = .ok (.goto 4, 3) := by decide +kernel
theorem dJ0_isLatin1_aae02_17 : decode cJ0_isLatin1_aae02 17 = .ok (.iconst 0, 1) := by decide +kernel
theorem dJ0_isLatin1_aae02_18 : decode cJ0_isLatin1_aae02 18 = .ok (.ireturn, 1) := by decide +kernel
theorem dJ0_checkIndex_df160_0 : decode cJ0_checkIndex_df160 0 = .ok (.iload_n 0, 1) := by decide +kernel
theorem dJ0_checkIndex_df160_1 : decode cJ0_checkIndex_df160 1 = .ok (.iload_n 1, 1) := by decide +kernel
theorem dJ0_checkIndex_df160_2 : decode cJ0_checkIndex_df160 2 = .ok (.getstatic 1053, 3) := by decide +kernel
theorem dJ0_checkIndex_df160_5 : decode cJ0_checkIndex_df160 5 = .ok (.invokestatic 1059, 3) := by decide +kernel
theorem dJ0_checkIndex_df160_8 : decode cJ0_checkIndex_df160 8 = .ok (.pop, 1) := by decide +kernel
theorem dJ0_checkIndex_df160_9 : decode cJ0_checkIndex_df160 9 = .ok (.return_, 1) := by decide +kernel
theorem dJ1_charAt_3b067_0 : decode cJ1_charAt_3b067 0 = .ok (.iload_n 1, 1) := by decide +kernel
theorem dJ1_charAt_3b067_1 : decode cJ1_charAt_3b067 1 = .ok (.aload_n 0, 1) := by decide +kernel
theorem dJ1_charAt_3b067_2 : decode cJ1_charAt_3b067 2 = .ok (.arraylength, 1) := by decide +kernel
theorem dJ1_charAt_3b067_3 : decode cJ1_charAt_3b067 3 = .ok (.invokestatic 9, 3) := by decide +kernel
theorem dJ1_charAt_3b067_6 : decode cJ1_charAt_3b067 6 = .ok (.aload_n 0, 1) := by decide +kernel
theorem dJ1_charAt_3b067_7 : decode cJ1_charAt_3b067 7 = .ok (.iload_n 1, 1) := by decide +kernel
theorem dJ1_charAt_3b067_8 : decode cJ1_charAt_3b067 8 = .ok (.baload, 1) := by decide +kernel
theorem dJ1_charAt_3b067_9 : decode cJ1_charAt_3b067 9 = .ok (.sipush 255, 3) := by decide +kernel
theorem dJ1_charAt_3b067_12 : decode cJ1_charAt_3b067 12 = .ok (.iand, 1) := by decide +kernel
theorem dJ1_charAt_3b067_13 : decode cJ1_charAt_3b067 13 = .ok (.i2c, 1) := by decide +kernel
theorem dJ1_charAt_3b067_14 : decode cJ1_charAt_3b067 14 = .ok (.ireturn, 1) := by decide +kernel
theorem dJ2_getChar_3b067_0 : decode cJ2_getChar_3b067 0 = .ok (.getstatic 44, 3) := by decide +kernel
theorem dJ2_getChar_3b067_3 : decode cJ2_getChar_3b067 3 = .ok (.ifCond .ne 25, 3) := by decide +kernel
theorem dJ2_getChar_3b067_6 : decode cJ2_getChar_3b067 6 = .ok (.iload_n 1, 1) := by decide +kernel
theorem dJ2_getChar_3b067_7 : decode cJ2_getChar_3b067 7 = .ok (.ifCond .lt 11, 3) := by decide +kernel
theorem dJ2_getChar_3b067_10 : decode cJ2_getChar_3b067 10 = .ok (.iload_n 1, 1) := by decide +kernel
theorem dJ2_getChar_3b067_11 : decode cJ2_getChar_3b067 11 = .ok (.aload_n 0, 1) := by decide +kernel
theorem dJ2_getChar_3b067_12 : decode cJ2_getChar_3b067 12 = .ok (.invokestatic 48, 3) := by decide +kernel
theorem dJ2_getChar_3b067_15 : decode cJ2_getChar_3b067 15 = .ok (.if_icmp .lt 13, 3) := by decide +kernel
theorem dJ2_getChar_3b067_18 : decode cJ2_getChar_3b067 18 = .ok (.new 52, 3) := by decide +kernel
theorem dJ2_getChar_3b067_21 : decode cJ2_getChar_3b067 21 = .ok (.dup, 1) := by decide +kernel
theorem dJ2_getChar_3b067_22 : decode cJ2_getChar_3b067 22 = .ok (.ldc 54, 2) := by decide +kernel
theorem dJ2_getChar_3b067_24 : decode cJ2_getChar_3b067 24 = .ok (.invokespecial 56, 3) := by decide +kernel
theorem dJ2_getChar_3b067_27 : decode cJ2_getChar_3b067 27 = .ok (.athrow, 1) := by decide +kernel
theorem dJ2_getChar_3b067_28 : decode cJ2_getChar_3b067 28 = .ok (.iload_n 1, 1) := by decide +kernel
theorem dJ2_getChar_3b067_29 : decode cJ2_getChar_3b067 29 = .ok (.iconst 1, 1) := by decide +kernel
theorem dJ2_getChar_3b067_30 : decode cJ2_getChar_3b067 30 = .ok (.ishl, 1) := by decide +kernel
theorem dJ2_getChar_3b067_31 : decode cJ2_getChar_3b067 31 = .ok (.istore_n 1, 1) := by decide +kernel
theorem dJ2_getChar_3b067_32 : decode cJ2_getChar_3b067 32 = .ok (.aload_n 0, 1) := by decide +kernel
theorem dJ2_getChar_3b067_33 : decode cJ2_getChar_3b067 33 = .ok (.iload_n 1, 1) := by decide +kernel
theorem dJ2_getChar_3b067_34 : decode cJ2_getChar_3b067 34 = .ok (.iinc 1 1, 3) := by decide +kernel
theorem dJ2_getChar_3b067_37 : decode cJ2_getChar_3b067 37 = .ok (.baload, 1) := by decide +kernel
theorem dJ2_getChar_3b067_38 : decode cJ2_getChar_3b067 38 = .ok (.sipush 255, 3) := by decide +kernel
theorem dJ2_getChar_3b067_41 : decode cJ2_getChar_3b067 41 = .ok (.iand, 1) := by decide +kernel
theorem dJ2_getChar_3b067_42 : decode cJ2_getChar_3b067 42 = .ok (.getstatic 59, 3) := by decide +kernel
theorem dJ2_getChar_3b067_45 : decode cJ2_getChar_3b067 45 = .ok (.ishl, 1) := by decide +kernel
theorem dJ2_getChar_3b067_46 : decode cJ2_getChar_3b067 46 = .ok (.aload_n 0, 1) := by decide +kernel
theorem dJ2_getChar_3b067_47 : decode cJ2_getChar_3b067 47 = .ok (.iload_n 1, 1) := by decide +kernel
theorem dJ2_getChar_3b067_48 : decode cJ2_getChar_3b067 48 = .ok (.baload, 1) := by decide +kernel
theorem dJ2_getChar_3b067_49 : decode cJ2_getChar_3b067 49 = .ok (.sipush 255, 3) := by decide +kernel
theorem dJ2_getChar_3b067_52 : decode cJ2_getChar_3b067 52 = .ok (.iand, 1) := by decide +kernel
theorem dJ2_getChar_3b067_53 : decode cJ2_getChar_3b067 53 = .ok (.getstatic 63, 3) := by decide +kernel
theorem dJ2_getChar_3b067_56 : decode cJ2_getChar_3b067 56 = .ok (.ishl, 1) := by decide +kernel
theorem dJ2_getChar_3b067_57 : decode cJ2_getChar_3b067 57 = .ok (.ior, 1) := by decide +kernel
theorem dJ2_getChar_3b067_58 : decode cJ2_getChar_3b067 58 = .ok (.i2c, 1) := by decide +kernel
theorem dJ2_getChar_3b067_59 : decode cJ2_getChar_3b067 59 = .ok (.ireturn, 1) := by decide +kernel
theorem dJ2_length_9d52b_0 : decode cJ2_length_9d52b 0 = .ok (.aload_n 0, 1) := by decide +kernel
theorem dJ2_length_9d52b_1 : decode cJ2_length_9d52b 1 = .ok (.arraylength, 1) := by decide +kernel
theorem dJ2_length_9d52b_2 : decode cJ2_length_9d52b 2 = .ok (.iconst 1, 1) := by decide +kernel
theorem dJ2_length_9d52b_3 : decode cJ2_length_9d52b 3 = .ok (.ishr, 1) := by decide +kernel
theorem dJ2_length_9d52b_4 : decode cJ2_length_9d52b 4 = .ok (.ireturn, 1) := by decide +kernel
theorem dJ2_charAt_3b067_0 : decode cJ2_charAt_3b067 0 = .ok (.iload_n 1, 1) := by decide +kernel
theorem dJ2_charAt_3b067_1 : decode cJ2_charAt_3b067 1 = .ok (.aload_n 0, 1) := by decide +kernel
theorem dJ2_charAt_3b067_2 : decode cJ2_charAt_3b067 2 = .ok (.invokestatic 67, 3) := by decide +kernel
theorem dJ2_charAt_3b067_5 : decode cJ2_charAt_3b067 5 = .ok (.aload_n 0, 1) := by decide +kernel
theorem dJ2_charAt_3b067_6 : decode cJ2_charAt_3b067 6 = .ok (.iload_n 1, 1) := by decide +kernel
theorem dJ2_charAt_3b067_7 : decode cJ2_charAt_3b067 7 = .ok (.invokestatic 71, 3) := by decide +kernel
theorem dJ2_charAt_3b067_10 : decode cJ2_charAt_3b067 10 = .ok (.ireturn, 1) := by decide +kernel
theorem dJ2_checkIndex_2214a_0 : decode cJ2_checkIndex_2214a 0 = .ok (.iload_n 0, 1) := by decide +kernel
theorem dJ2_checkIndex_2214a_1 : decode cJ2_checkIndex_2214a 1 = .ok (.aload_n 1, 1) := by decide +kernel
theorem dJ2_checkIndex_2214a_2 : decode cJ2_checkIndex_2214a 2 = .ok (.invokestatic 48, 3) := by decide +kernel
theorem dJ2_checkIndex_2214a_5 : decode cJ2_checkIndex_2214a 5 = .ok (.invokestatic 414, 3) := by decide +kernel
theorem dJ2_checkIndex_2214a_8 : decode cJ2_checkIndex_2214a 8 = .ok (.return_, 1) := by decide +kernel
theorem dJ3_checkIndex_8e157_0 : decode cJ3_checkIndex_8e157 0 = .ok (.iload_n 0, 1) := by decide +kernel
theorem dJ3_checkIndex_8e157_1 : decode cJ3_checkIndex_8e157 1 = .ok (.ifCond .lt 8, 3) := by decide +kernel
theorem dJ3_checkIndex_8e157_4 : decode cJ3_checkIndex_8e157 4 = .ok (.iload_n 0, 1) := by decide +kernel
theorem dJ3_checkIndex_8e157_5 : decode cJ3_checkIndex_8e157 5 = .ok (.iload_n 1, 1) := by decide +kernel
theorem dJ3_checkIndex_8e157_6 : decode cJ3_checkIndex_8e157 6 = .ok (.if_icmp .lt 10, 3) := by decide +kernel
theorem dJ3_checkIndex_8e157_9 : decode cJ3_checkIndex_8e157 9 = .ok (.aload_n 2, 1) := by decide +kernel
theorem dJ3_checkIndex_8e157_10 : decode cJ3_checkIndex_8e157 10 = .ok (.iload_n 0, 1) := by decide +kernel
theorem dJ3_checkIndex_8e157_11 : decode cJ3_checkIndex_8e157 11 = .ok (.iload_n 1, 1) := by decide +kernel
theorem dJ3_checkIndex_8e157_12 : decode cJ3_checkIndex_8e157 12 = .ok (.invokestatic 95, 3) := by decide +kernel
theorem dJ3_checkIndex_8e157_15 : decode cJ3_checkIndex_8e157 15 = .ok (.athrow, 1) := by decide +kernel
theorem dJ3_checkIndex_8e157_16 : decode cJ3_checkIndex_8e157 16 = .ok (.iload_n 0, 1) := by decide +kernel
theorem dJ3_checkIndex_8e157_17 : decode cJ3_checkIndex_8e157 17 = .ok (.ireturn, 1) := by decide +kernel
end
section
theorem dX4_init_0 : decode cX4_init 0 = .ok (.aload_n 0, 1) := by decide +kernel
theorem dX4_init_1 : decode cX4_init 1 = .ok (.invokespecial 3, 3) := by decide +kernel
theorem dX4_init_4 : decode cX4_init 4 = .ok (.aload_n 0, 1) := by decide +kernel
theorem dX4_init_5 : decode cX4_init 5 = .ok (.bipush 6, 2) := by decide +kernel
theorem dX4_init_7 : decode cX4_init 7 = .ok (.anewarray 9, 3) := by decide +kernel
theorem dX4_init_10 : decode cX4_init 10 = .ok (.putfield 11, 3) := by decide +kernel
theorem dX4_init_13 : decode cX4_init 13 = .ok (.aload_n 0, 1) := by decide +kernel
theorem dX4_init_14 : decode cX4_init 14 = .ok (.bipush 12, 2) := by decide +kernel
theorem dX4_init_16 : decode cX4_init 16 = .ok (.newarray .int, 2) := by decide +kernel
theorem dX4_init_18 : decode cX4_init 18 = .ok (.putfield 17, 3) := by decide +kernel
theorem dX4_init_21 : decode cX4_init 21 = .ok (.aload_n 0, 1) := by decide +kernel
theorem dX4_init_22 : decode cX4_init 22 = .ok (.iconst 4, 1) := by decide +kernel
theorem dX4_init_23 : decode cX4_init 23 = .ok (.newarray .int, 2) := by decide +kernel
theorem dX4_init_25 : decode cX4_init 25 = .ok (.putfield 21, 3) := by decide +kernel
theorem dX4_init_28 : decode cX4_init 28 = .ok (.aload_n 0, 1) := by decide +kernel
theorem dX4_init_29 : decode cX4_init 29 = .ok (.bipush 10, 2) := by decide +kernel
theorem dX4_init_31 : decode cX4_init 31 = .ok (.anewarray 24, 3) := by decide +kernel
theorem dX4_init_34 : decode cX4_init 34 = .ok (.putfield 26, 3) := by decide +kernel
theorem dX4_init_37 : decode cX4_init 37 = .ok (.iconst 0, 1) := by decide +kernel
theorem dX4_init_38 : decode cX4_init 38 = .ok (.istore_n 1, 1) := by decide +kernel
theorem dX4_init_39 : decode cX4_init 39 = .ok (.iload_n 1, 1) := by decide +kernel
theorem dX4_init_40 : decode cX4_init 40 = .ok (.bipush 6, 2) := by decide +kernel
theorem dX4_init_42 : decode cX4_init 42 = .ok (.if_icmp .ge 22, 3) := by decide +kernel
theorem dX4_init_45 : decode cX4_init 45 = .ok (.aload_n 0, 1) := by decide +kernel
theorem dX4_init_46 : decode cX4_init 46 = .ok (.getfield 11, 3) := by decide +kernel
theorem dX4_init_49 : decode cX4_init 49 = .ok (.iload_n 1, 1) := by decide +kernel
theorem dX4_init_50 : decode cX4_init 50 = .ok (.new 9, 3) := by decide +kernel
theorem dX4_init_53 : decode cX4_init 53 = .ok (.dup, 1) := by decide +kernel
theorem dX4_init_54 : decode cX4_init 54 = .ok (.invokespecial 30, 3) := by decide +kernel
theorem dX4_init_57 : decode cX4_init 57 = .ok (.aastore, 1) := by decide +kernel
theorem dX4_init_58 : decode cX4_init 58 = .ok (.iinc 1 1, 3) := by decide +kernel
theorem dX4_init_61 : decode cX4_init 61 = .ok (.goto (-22), 3) := by decide +kernel
theorem dX4_init_64 : decode cX4_init 64 = .ok (.iconst 0, 1) := by decide +kernel
theorem dX4_init_65 : decode cX4_init 65 = .ok (.istore_n 1, 1) := by decide +kernel
theorem dX4_init_66 : decode cX4_init 66 = .ok (.iload_n 1, 1) := by decide +kernel
theorem dX4_init_67 : decode cX4_init 67 = .ok (.bipush 10, 2) := by decide +kernel
theorem dX4_init_69 : decode cX4_init 69 = .ok (.if_icmp .ge 22, 3) := by decide +kernel
theorem dX4_init_72 : decode cX4_init 72 = .ok (.aload_n 0, 1) := by decide +kernel
theorem dX4_init_73 : decode cX4_init 73 = .ok (.getfield 26, 3) := by decide +kernel
theorem dX4_init_76 : decode cX4_init 76 = .ok (.iload_n 1, 1) := by decide +kernel
theorem dX4_init_77 : decode cX4_init 77 = .ok (.new 24, 3) := by decide +kernel
theorem dX4_init_80 : decode cX4_init 80 = .ok (.dup, 1) := by decide +kernel
theorem dX4_init_81 : decode cX4_init 81 = .ok (.invokespecial 31, 3) := by decide +kernel
theorem dX4_init_84 : decode cX4_init 84 = .ok (.aastore, 1) := by decide +kernel
theorem dX4_init_85 : decode cX4_init 85 = .ok (.iinc 1 1, 3) := by decide +kernel
theorem dX4_init_88 : decode cX4_init 88 = .ok (.goto (-22), 3) := by decide +kernel
theorem dX4_init_91 : decode cX4_init 91 = .ok (.iconst 0, 1) := by decide +kernel
theorem dX4_init_92 : decode cX4_init 92 = .ok (.istore_n 1, 1) := by decide +kernel
theorem dX4_init_93 : decode cX4_init 93 = .ok (.iload_n 1, 1) := by decide +kernel
theorem dX4_init_94 : decode cX4_init 94 = .ok (.iconst 4, 1) := by decide +kernel
theorem dX4_init_95 : decode cX4_init 95 = .ok (.if_icmp .ge 20, 3) := by decide +kernel
theorem dX4_init_98 : decode cX4_init 98 = .ok (.aload_n 0, 1) := by decide +kernel
theorem dX4_init_99 : decode cX4_init 99 = .ok (.getfield 21, 3) := by decide +kernel
theorem dX4_init_102 : decode cX4_init 102 = .ok (.iload_n 1, 1) := by decide +kernel
theorem dX4_init_103 : decode cX4_init 103 = .ok (.getstatic 32, 3) := by decide +kernel
theorem dX4_init_106 : decode cX4_init 106 = .ok (.iload_n 1, 1) := by decide +kernel
theorem dX4_init_107 : decode cX4_init 107 = .ok (.iaload, 1) := by decide +kernel
theorem dX4_init_108 : decode cX4_init 108 = .ok (.iastore, 1) := by decide +kernel
theorem dX4_init_109 : decode cX4_init 109 = .ok (.iinc 1 1, 3) := by decide +kernel
theorem dX4_init_112 : decode cX4_init 112 = .ok (.goto (-19), 3) := by decide +kernel
theorem dX4_init_115 : decode cX4_init 115 = .ok (.return_, 1) := by decide +kernel
theorem dX4_copyFrom_0 : decode cX4_copyFrom 0 = .ok (.iconst 0, 1) := by decide +kernel
theorem dX4_copyFrom_1 : decode cX4_copyFrom 1 = .ok (.istore_n 2, 1) := by decide +kernel
theorem dX4_copyFrom_2 : decode cX4_copyFrom 2 = .ok (.iload_n 2, 1) := by decide +kernel
theorem dX4_copyFrom_3 : decode cX4_copyFrom 3 = .ok (.bipush 6, 2) := by decide +kernel
theorem dX4_copyFrom_5 : decode cX4_copyFrom 5 = .ok (.if_icmp .ge 24, 3) := by decide +kernel
theorem dX4_copyFrom_8 : decode cX4_copyFrom 8 = .ok (.aload_n 0, 1) := by decide +kernel
theorem dX4_copyFrom_9 : decode cX4_copyFrom 9 = .ok (.getfield 11, 3) := by decide +kernel
theorem dX4_copyFrom_12 : decode cX4_copyFrom 12 = .ok (.iload_n 2, 1) := by decide +kernel
theorem dX4_copyFrom_13 : decode cX4_copyFrom 13 = .ok (.aaload, 1) := by decide +kernel
theorem dX4_copyFrom_14 : decode cX4_copyFrom 14 = .ok (.aload_n 1, 1) := by decide +kernel
theorem dX4_copyFrom_15 : decode cX4_copyFrom 15 = .ok (.getfield 11, 3) := by decide +kernel
theorem dX4_copyFrom_18 : decode cX4_copyFrom 18 = .ok (.iload_n 2, 1) := by decide +kernel
theorem dX4_copyFrom_19 : decode cX4_copyFrom 19 = .ok (.aaload, 1) := by decide +kernel
theorem dX4_copyFrom_20 : decode cX4_copyFrom 20 = .ok (.invokevirtual 35, 3) := by decide +kernel
theorem dX4_copyFrom_23 : decode cX4_copyFrom 23 = .ok (.iinc 2 1, 3) := by decide +kernel
theorem dX4_copyFrom_26 : decode cX4_copyFrom 26 = .ok (.goto (-24), 3) := by decide +kernel
theorem dX4_copyFrom_29 : decode cX4_copyFrom 29 = .ok (.iconst 0, 1) := by decide +kernel
theorem dX4_copyFrom_30 : decode cX4_copyFrom 30 = .ok (.istore_n 2, 1) := by decide +kernel
theorem dX4_copyFrom_31 : decode cX4_copyFrom 31 = .ok (.iload_n 2, 1) := by decide +kernel
theorem dX4_copyFrom_32 : decode cX4_copyFrom 32 = .ok (.bipush 10, 2) := by decide +kernel
theorem dX4_copyFrom_34 : decode cX4_copyFrom 34 = .ok (.if_icmp .ge 24, 3) := by decide +kernel
theorem dX4_copyFrom_37 : decode cX4_copyFrom 37 = .ok (.aload_n 0, 1) := by decide +kernel
theorem dX4_copyFrom_38 : decode cX4_copyFrom 38 = .ok (.getfield 26, 3) := by decide +kernel
theorem dX4_copyFrom_41 : decode cX4_copyFrom 41 = .ok (.iload_n 2, 1) := by decide +kernel
theorem dX4_copyFrom_42 : decode cX4_copyFrom 42 = .ok (.aaload, 1) := by decide +kernel
theorem dX4_copyFrom_43 : decode cX4_copyFrom 43 = .ok (.aload_n 1, 1) := by decide +kernel
theorem dX4_copyFrom_44 : decode cX4_copyFrom 44 = .ok (.getfield 26, 3) := by decide +kernel
theorem dX4_copyFrom_47 : decode cX4_copyFrom 47 = .ok (.iload_n 2, 1) := by decide +kernel
theorem dX4_copyFrom_48 : decode cX4_copyFrom 48 = .ok (.aaload, 1) := by decide +kernel
theorem dX4_copyFrom_49 : decode cX4_copyFrom 49 = .ok (.invokevirtual 39, 3) := by decide +kernel
theorem dX4_copyFrom_52 : decode cX4_copyFrom 52 = .ok (.iinc 2 1, 3) := by decide +kernel
theorem dX4_copyFrom_55 : decode cX4_copyFrom 55 = .ok (.goto (-24), 3) := by decide +kernel
theorem dX4_copyFrom_58 : decode cX4_copyFrom 58 = .ok (.aload_n 1, 1) := by decide +kernel
theorem dX4_copyFrom_59 : decode cX4_copyFrom 59 = .ok (.getfield 17, 3) := by decide +kernel
theorem dX4_copyFrom_62 : decode cX4_copyFrom 62 = .ok (.iconst 0, 1) := by decide +kernel
theorem dX4_copyFrom_63 : decode cX4_copyFrom 63 = .ok (.aload_n 0, 1) := by decide +kernel
theorem dX4_copyFrom_64 : decode cX4_copyFrom 64 = .ok (.getfield 17, 3) := by decide +kernel
theorem dX4_copyFrom_67 : decode cX4_copyFrom 67 = .ok (.iconst 0, 1) := by decide +kernel
theorem dX4_copyFrom_68 : decode cX4_copyFrom 68 = .ok (.bipush 12, 2) := by decide +kernel
theorem dX4_copyFrom_70 : decode cX4_copyFrom 70 = .ok (.invokestatic 42, 3) := by decide +kernel
theorem dX4_copyFrom_73 : decode cX4_copyFrom 73 = .ok (.aload_n 1, 1) := by decide +kernel
theorem dX4_copyFrom_74 : decode cX4_copyFrom 74 = .ok (.getfield 21, 3) := by decide +kernel
theorem dX4_copyFrom_77 : decode cX4_copyFrom 77 = .ok (.iconst 0, 1) := by decide +kernel
theorem dX4_copyFrom_78 : decode cX4_copyFrom 78 = .ok (.aload_n 0, 1) := by decide +kernel
theorem dX4_copyFrom_79 : decode cX4_copyFrom 79 = .ok (.getfield 21, 3) := by decide +kernel
theorem dX4_copyFrom_82 : decode cX4_copyFrom 82 = .ok (.iconst 0, 1) := by decide +kernel
theorem dX4_copyFrom_83 : decode cX4_copyFrom 83 = .ok (.iconst 4, 1) := by decide +kernel
theorem dX4_copyFrom_84 : decode cX4_copyFrom 84 = .ok (.invokestatic 42, 3) := by decide +kernel
theorem dX4_copyFrom_87 : decode cX4_copyFrom 87 = .ok (.aload_n 0, 1) := by decide +kernel
theorem dX4_copyFrom_88 : decode cX4_copyFrom 88 = .ok (.aload_n 1, 1) := by decide +kernel
theorem dX4_copyFrom_89 : decode cX4_copyFrom 89 = .ok (.getfield 48, 3) := by decide +kernel
theorem dX4_copyFrom_92 : decode cX4_copyFrom 92 = .ok (.putfield 48, 3) := by decide +kernel
theorem dX4_copyFrom_95 : decode cX4_copyFrom 95 = .ok (.aload_n 0, 1) := by decide +kernel
theorem dX4_copyFrom_96 : decode cX4_copyFrom 96 = .ok (.aload_n 1, 1) := by decide +kernel
theorem dX4_copyFrom_97 : decode cX4_copyFrom 97 = .ok (.getfield 52, 3) := by decide +kernel
theorem dX4_copyFrom_100 : decode cX4_copyFrom 100 = .ok (.putfield 52, 3) := by decide +kernel
theorem dX4_copyFrom_103 : decode cX4_copyFrom 103 = .ok (.aload_n 0, 1) := by decide +kernel
theorem dX4_copyFrom_104 : decode cX4_copyFrom 104 = .ok (.aload_n 1, 1) := by decide +kernel
theorem dX4_copyFrom_105 : decode cX4_copyFrom 105 = .ok (.getfield 55, 3) := by decide +kernel
theorem dX4_copyFrom_108 : decode cX4_copyFrom 108 = .ok (.putfield 55, 3) := by decide +kernel
theorem dX4_copyFrom_111 : decode cX4_copyFrom 111 = .ok (.aload_n 0, 1) := by decide +kernel
theorem dX4_copyFrom_112 : decode cX4_copyFrom 112 = .ok (.aload_n 1, 1) := by decide +kernel
theorem dX4_copyFrom_113 : decode cX4_copyFrom 113 = .ok (.getfield 58, 3) := by decide +kernel
theorem dX4_copyFrom_116 : decode cX4_copyFrom 116 = .ok (.putfield 58, 3) := by decide +kernel
theorem dX4_copyFrom_119 : decode cX4_copyFrom 119 = .ok (.return_, 1) := by decide +kernel
theorem dX4_hasWall_0 : decode cX4_hasWall 0 = .ok (.iload_n 1, 1) := by decide +kernel
theorem dX4_hasWall_1 : decode cX4_hasWall 1 = .ok (.ifCond .lt 15, 3) := by decide +kernel
theorem dX4_hasWall_4 : decode cX4_hasWall 4 = .ok (.iload_n 1, 1) := by decide +kernel
theorem dX4_hasWall_5 : decode cX4_hasWall 5 = .ok (.aload_n 0, 1) := by decide +kernel
theorem dX4_hasWall_6 : decode cX4_hasWall 6 = .ok (.getfield 48, 3) := by decide +kernel
theorem dX4_hasWall_9 : decode cX4_hasWall 9 = .ok (.if_icmp .ge 7, 3) := by decide +kernel
theorem dX4_hasWall_12 : decode cX4_hasWall 12 = .ok (.iconst 1, 1) := by decide +kernel
theorem dX4_hasWall_13 : decode cX4_hasWall 13 = .ok (.goto 4, 3) := by decide +kernel
theorem dX4_hasWall_16 : decode cX4_hasWall 16 = .ok (.iconst 0, 1) := by decide +kernel
theorem dX4_hasWall_17 : decode cX4_hasWall 17 = .ok (.ireturn, 1) := by decide +kernel
theorem dX4_hasCommission_0 : decode cX4_hasCommission 0 = .ok (.iload_n 1, 1) := by decide +kernel
theorem dX4_hasCommission_1 : decode cX4_hasCommission 1 = .ok (.ifCond .lt 15, 3) := by decide +kernel
theorem dX4_hasCommission_4 : decode cX4_hasCommission 4 = .ok (.iload_n 1, 1) := by decide +kernel
theorem dX4_hasCommission_5 : decode cX4_hasCommission 5 = .ok (.aload_n 0, 1) := by decide +kernel
theorem dX4_hasCommission_6 : decode cX4_hasCommission 6 = .ok (.getfield 52, 3) := by decide +kernel
theorem dX4_hasCommission_9 : decode cX4_hasCommission 9 = .ok (.if_icmp .ge 7, 3) := by decide +kernel
theorem dX4_hasCommission_12 : decode cX4_hasCommission 12 = .ok (.iconst 1, 1) := by decide +kernel
theorem dX4_hasCommission_13 : decode cX4_hasCommission 13 = .ok (.goto 4, 3) := by decide +kernel
theorem dX4_hasCommission_16 : decode cX4_hasCommission 16 = .ok (.iconst 0, 1) := by decide +kernel
theorem dX4_hasCommission_17 : decode cX4_hasCommission 17 = .ok (.ireturn, 1) := by decide +kernel
theorem dX4_changeCorrection_0 : decode cX4_changeCorrection 0 = .ok (.iload_n 1, 1) := by decide +kernel
theorem dX4_changeCorrection_1 : decode cX4_changeCorrection 1 = .ok (.iconst 0, 1) := by decide +kernel
theorem dX4_changeCorrection_2 : decode cX4_changeCorrection 2 = .ok (.bipush 11, 2) := by decide +kernel
theorem dX4_changeCorrection_4 : decode cX4_changeCorrection 4 = .ok (.invokestatic 61, 3) := by decide +kernel
theorem dX4_changeCorrection_7 : decode cX4_changeCorrection 7 = .ok (.ifCond .eq 14, 3) := by decide +kernel
theorem dX4_changeCorrection_10 : decode cX4_changeCorrection 10 = .ok (.iload_n 2, 1) := by decide +kernel
theorem dX4_changeCorrection_11 : decode cX4_changeCorrection 11 = .ok (.bipush (-20), 2) := by decide +kernel
theorem dX4_changeCorrection_13 : decode cX4_changeCorrection 13 = .ok (.bipush 20, 2) := by decide +kernel
theorem dX4_changeCorrection_15 : decode cX4_changeCorrection 15 = .ok (.invokestatic 61, 3) := by decide +kernel
theorem dX4_changeCorrection_18 : decode cX4_changeCorrection 18 = .ok (.ifCond .ne 6, 3) := by decide +kernel
theorem dX4_changeCorrection_21 : decode cX4_changeCorrection 21 = .ok (.ldc 65, 2) := by decide +kernel
theorem dX4_changeCorrection_23 : decode cX4_changeCorrection 23 = .ok (.ireturn, 1) := by decide +kernel
theorem dX4_changeCorrection_24 : decode cX4_changeCorrection 24 = .ok (.aload_n 0, 1) := by decide +kernel
theorem dX4_changeCorrection_25 : decode cX4_changeCorrection 25 = .ok (.getfield 17, 3) := by decide +kernel
theorem dX4_changeCorrection_28 : decode cX4_changeCorrection 28 = .ok (.iload_n 1, 1) := by decide +kernel
theorem dX4_changeCorrection_29 : decode cX4_changeCorrection 29 = .ok (.iaload, 1) := by decide +kernel
theorem dX4_changeCorrection_30 : decode cX4_changeCorrection 30 = .ok (.istore_n 3, 1) := by decide +kernel
theorem dX4_changeCorrection_31 : decode cX4_changeCorrection 31 = .ok (.aload_n 0, 1) := by decide +kernel
theorem dX4_changeCorrection_32 : decode cX4_changeCorrection 32 = .ok (.getfield 17, 3) := by decide +kernel
theorem dX4_changeCorrection_35 : decode cX4_changeCorrection 35 = .ok (.iload_n 1, 1) := by decide +kernel
theorem dX4_changeCorrection_36 : decode cX4_changeCorrection 36 = .ok (.iload_n 2, 1) := by decide +kernel
theorem dX4_changeCorrection_37 : decode cX4_changeCorrection 37 = .ok (.iastore, 1) := by decide +kernel
theorem dX4_changeCorrection_38 : decode cX4_changeCorrection 38 = .ok (.iload_n 3, 1) := by decide +kernel
theorem dX4_changeCorrection_39 : decode cX4_changeCorrection 39 = .ok (.ireturn, 1) := by decide +kernel
theorem dX4_changeSetting_0 : decode cX4_changeSetting 0 = .ok (.iload_n 1, 1) := by decide +kernel
theorem dX4_changeSetting_1 : decode cX4_changeSetting 1 = .ok (.iconst 0, 1) := by decide +kernel
theorem dX4_changeSetting_2 : decode cX4_changeSetting 2 = .ok (.iconst 3, 1) := by decide +kernel
theorem dX4_changeSetting_3 : decode cX4_changeSetting 3 = .ok (.invokestatic 61, 3) := by decide +kernel
theorem dX4_changeSetting_6 : decode cX4_changeSetting 6 = .ok (.ifCond .eq 20, 3) := by decide +kernel
theorem dX4_changeSetting_9 : decode cX4_changeSetting 9 = .ok (.iload_n 2, 1) := by decide +kernel
theorem dX4_changeSetting_10 : decode cX4_changeSetting 10 = .ok (.getstatic 66, 3) := by decide +kernel
theorem dX4_changeSetting_13 : decode cX4_changeSetting 13 = .ok (.iload_n 1, 1) := by decide +kernel
theorem dX4_changeSetting_14 : decode cX4_changeSetting 14 = .ok (.iaload, 1) := by decide +kernel
theorem dX4_changeSetting_15 : decode cX4_changeSetting 15 = .ok (.getstatic 69, 3) := by decide +kernel
theorem dX4_changeSetting_18 : decode cX4_changeSetting 18 = .ok (.iload_n 1, 1) := by decide +kernel
theorem dX4_changeSetting_19 : decode cX4_changeSetting 19 = .ok (.iaload, 1) := by decide +kernel
theorem dX4_changeSetting_20 : decode cX4_changeSetting 20 = .ok (.invokestatic 61, 3) := by decide +kernel
theorem dX4_changeSetting_23 : decode cX4_changeSetting 23 = .ok (.ifCond .ne 6, 3) := by decide +kernel
theorem dX4_changeSetting_26 : decode cX4_changeSetting 26 = .ok (.ldc 65, 2) := by decide +kernel
theorem dX4_changeSetting_28 : decode cX4_changeSetting 28 = .ok (.ireturn, 1) := by decide +kernel
theorem dX4_changeSetting_29 : decode cX4_changeSetting 29 = .ok (.aload_n 0, 1) := by decide +kernel
theorem dX4_changeSetting_30 : decode cX4_changeSetting 30 = .ok (.getfield 21, 3) := by decide +kernel
theorem dX4_changeSetting_33 : decode cX4_changeSetting 33 = .ok (.iload_n 1, 1) := by decide +kernel
theorem dX4_changeSetting_34 : decode cX4_changeSetting 34 = .ok (.iaload, 1) := by decide +kernel
theorem dX4_changeSetting_35 : decode cX4_changeSetting 35 = .ok (.istore_n 3, 1) := by decide +kernel
theorem dX4_changeSetting_36 : decode cX4_changeSetting 36 = .ok (.aload_n 0, 1) := by decide +kernel
theorem dX4_changeSetting_37 : decode cX4_changeSetting 37 = .ok (.getfield 21, 3) := by decide +kernel
theorem dX4_changeSetting_40 : decode cX4_changeSetting 40 = .ok (.iload_n 1, 1) := by decide +kernel
theorem dX4_changeSetting_41 : decode cX4_changeSetting 41 = .ok (.iload_n 2, 1) := by decide +kernel
theorem dX4_changeSetting_42 : decode cX4_changeSetting 42 = .ok (.iastore, 1) := by decide +kernel
theorem dX4_changeSetting_43 : decode cX4_changeSetting 43 = .ok (.iload_n 3, 1) := by decide +kernel
theorem dX4_changeSetting_44 : decode cX4_changeSetting 44 = .ok (.ireturn, 1) := by decide +kernel
theorem dX4_openWall_0 : decode cX4_openWall 0 = .ok (.aload_n 0, 1) := by decide +kernel
theorem dX4_openWall_1 : decode cX4_openWall 1 = .ok (.getfield 48, 3) := by decide +kernel
theorem dX4_openWall_4 : decode cX4_openWall 4 = .ok (.bipush 6, 2) := by decide +kernel
theorem dX4_openWall_6 : decode cX4_openWall 6 = .ok (.if_icmp .lt 6, 3) := by decide +kernel
theorem dX4_openWall_9 : decode cX4_openWall 9 = .ok (.ldc 72, 2) := by decide +kernel
theorem dX4_openWall_11 : decode cX4_openWall 11 = .ok (.ireturn, 1) := by decide +kernel
theorem dX4_openWall_12 : decode cX4_openWall 12 = .ok (.aload_n 0, 1) := by decide +kernel
theorem dX4_openWall_13 : decode cX4_openWall 13 = .ok (.getfield 11, 3) := by decide +kernel
theorem dX4_openWall_16 : decode cX4_openWall 16 = .ok (.aload_n 0, 1) := by decide +kernel
theorem dX4_openWall_17 : decode cX4_openWall 17 = .ok (.getfield 48, 3) := by decide +kernel
theorem dX4_openWall_20 : decode cX4_openWall 20 = .ok (.aaload, 1) := by decide +kernel
theorem dX4_openWall_21 : decode cX4_openWall 21 = .ok (.astore_n 1, 1) := by decide +kernel
theorem dX4_openWall_22 : decode cX4_openWall 22 = .ok (.aload_n 1, 1) := by decide +kernel
theorem dX4_openWall_23 : decode cX4_openWall 23 = .ok (.ldc 73, 2) := by decide +kernel
theorem dX4_openWall_25 : decode cX4_openWall 25 = .ok (.putfield 74, 3) := by decide +kernel
theorem dX4_openWall_28 : decode cX4_openWall 28 = .ok (.aload_n 1, 1) := by decide +kernel
theorem dX4_openWall_29 : decode cX4_openWall 29 = .ok (.ldc 73, 2) := by decide +kernel
theorem dX4_openWall_31 : decode cX4_openWall 31 = .ok (.putfield 77, 3) := by decide +kernel
theorem dX4_openWall_34 : decode cX4_openWall 34 = .ok (.aload_n 0, 1) := by decide +kernel
theorem dX4_openWall_35 : decode cX4_openWall 35 = .ok (.dup, 1) := by decide +kernel
theorem dX4_openWall_36 : decode cX4_openWall 36 = .ok (.getfield 48, 3) := by decide +kernel
theorem dX4_openWall_39 : decode cX4_openWall 39 = .ok (.iconst 1, 1) := by decide +kernel
theorem dX4_openWall_40 : decode cX4_openWall 40 = .ok (.iadd, 1) := by decide +kernel
theorem dX4_openWall_41 : decode cX4_openWall 41 = .ok (.putfield 48, 3) := by decide +kernel
theorem dX4_openWall_44 : decode cX4_openWall 44 = .ok (.aload_n 0, 1) := by decide +kernel
theorem dX4_openWall_45 : decode cX4_openWall 45 = .ok (.getfield 48, 3) := by decide +kernel
theorem dX4_openWall_48 : decode cX4_openWall 48 = .ok (.iconst 1, 1) := by decide +kernel
theorem dX4_openWall_49 : decode cX4_openWall 49 = .ok (.isub, 1) := by decide +kernel
theorem dX4_openWall_50 : decode cX4_openWall 50 = .ok (.ireturn, 1) := by decide +kernel
theorem dX4_measureWall_0 : decode cX4_measureWall 0 = .ok (.aload_n 0, 1) := by decide +kernel
theorem dX4_measureWall_1 : decode cX4_measureWall 1 = .ok (.iload_n 1, 1) := by decide +kernel
theorem dX4_measureWall_2 : decode cX4_measureWall 2 = .ok (.invokevirtual 80, 3) := by decide +kernel
theorem dX4_measureWall_5 : decode cX4_measureWall 5 = .ok (.ifCond .eq 14, 3) := by decide +kernel
theorem dX4_measureWall_8 : decode cX4_measureWall 8 = .ok (.iload_n 2, 1) := by decide +kernel
theorem dX4_measureWall_9 : decode cX4_measureWall 9 = .ok (.bipush (-60), 2) := by decide +kernel
theorem dX4_measureWall_11 : decode cX4_measureWall 11 = .ok (.bipush 60, 2) := by decide +kernel
theorem dX4_measureWall_13 : decode cX4_measureWall 13 = .ok (.invokestatic 61, 3) := by decide +kernel
theorem dX4_measureWall_16 : decode cX4_measureWall 16 = .ok (.ifCond .ne 6, 3) := by decide +kernel
theorem dX4_measureWall_19 : decode cX4_measureWall 19 = .ok (.ldc 65, 2) := by decide +kernel
theorem dX4_measureWall_21 : decode cX4_measureWall 21 = .ok (.ireturn, 1) := by decide +kernel
theorem dX4_measureWall_22 : decode cX4_measureWall 22 = .ok (.aload_n 0, 1) := by decide +kernel
theorem dX4_measureWall_23 : decode cX4_measureWall 23 = .ok (.getfield 11, 3) := by decide +kernel
theorem dX4_measureWall_26 : decode cX4_measureWall 26 = .ok (.iload_n 1, 1) := by decide +kernel
theorem dX4_measureWall_27 : decode cX4_measureWall 27 = .ok (.aaload, 1) := by decide +kernel
theorem dX4_measureWall_28 : decode cX4_measureWall 28 = .ok (.astore_n 3, 1) := by decide +kernel
theorem dX4_measureWall_29 : decode cX4_measureWall 29 = .ok (.aload_n 3, 1) := by decide +kernel
theorem dX4_measureWall_30 : decode cX4_measureWall 30 = .ok (.aload_n 3, 1) := by decide +kernel
theorem dX4_measureWall_31 : decode cX4_measureWall 31 = .ok (.getfield 74, 3) := by decide +kernel
theorem dX4_measureWall_34 : decode cX4_measureWall 34 = .ok (.putfield 77, 3) := by decide +kernel
theorem dX4_measureWall_37 : decode cX4_measureWall 37 = .ok (.aload_n 3, 1) := by decide +kernel
theorem dX4_measureWall_38 : decode cX4_measureWall 38 = .ok (.iload_n 2, 1) := by decide +kernel
theorem dX4_measureWall_39 : decode cX4_measureWall 39 = .ok (.putfield 74, 3) := by decide +kernel
theorem dX4_measureWall_42 : decode cX4_measureWall 42 = .ok (.aload_n 3, 1) := by decide +kernel
theorem dX4_measureWall_43 : decode cX4_measureWall 43 = .ok (.aload_n 0, 1) := by decide +kernel
theorem dX4_measureWall_44 : decode cX4_measureWall 44 = .ok (.getfield 21, 3) := by decide +kernel
theorem dX4_measureWall_47 : decode cX4_measureWall 47 = .ok (.iconst 0, 1) := by decide +kernel
theorem dX4_measureWall_48 : decode cX4_measureWall 48 = .ok (.iaload, 1) := by decide +kernel
theorem dX4_measureWall_49 : decode cX4_measureWall 49 = .ok (.invokevirtual 84, 3) := by decide +kernel
theorem dX4_measureWall_52 : decode cX4_measureWall 52 = .ok (.ifCond .eq 7, 3) := by decide +kernel
theorem dX4_measureWall_55 : decode cX4_measureWall 55 = .ok (.iconst 1, 1) := by decide +kernel
theorem dX4_measureWall_56 : decode cX4_measureWall 56 = .ok (.goto 4, 3) := by decide +kernel
theorem dX4_measureWall_59 : decode cX4_measureWall 59 = .ok (.iconst 0, 1) := by decide +kernel
theorem dX4_measureWall_60 : decode cX4_measureWall 60 = .ok (.ireturn, 1) := by decide +kernel
theorem dX4_openCommission_0 : decode cX4_openCommission 0 = .ok (.iload_n 1, 1) := by decide +kernel
theorem dX4_openCommission_1 : decode cX4_openCommission 1 = .ok (.bipush 10, 2) := by decide +kernel
theorem dX4_openCommission_3 : decode cX4_openCommission 3 = .ok (.bipush 70, 2) := by decide +kernel
theorem dX4_openCommission_5 : decode cX4_openCommission 5 = .ok (.invokestatic 61, 3) := by decide +kernel
theorem dX4_openCommission_8 : decode cX4_openCommission 8 = .ok (.ifCond .eq 39, 3) := by decide +kernel
theorem dX4_openCommission_11 : decode cX4_openCommission 11 = .ok (.iload_n 2, 1) := by decide +kernel
theorem dX4_openCommission_12 : decode cX4_openCommission 12 = .ok (.iconst (-1), 1) := by decide +kernel
theorem dX4_openCommission_13 : decode cX4_openCommission 13 = .ok (.if_icmp .eq 11, 3) := by decide +kernel
theorem dX4_openCommission_16 : decode cX4_openCommission 16 = .ok (.aload_n 0, 1) := by decide +kernel
theorem dX4_openCommission_17 : decode cX4_openCommission 17 = .ok (.iload_n 2, 1) := by decide +kernel
theorem dX4_openCommission_18 : decode cX4_openCommission 18 = .ok (.invokevirtual 80, 3) := by decide +kernel
theorem dX4_openCommission_21 : decode cX4_openCommission 21 = .ok (.ifCond .eq 26, 3) := by decide +kernel
theorem dX4_openCommission_24 : decode cX4_openCommission 24 = .ok (.iload_n 3, 1) := by decide +kernel
theorem dX4_openCommission_25 : decode cX4_openCommission 25 = .ok (.bipush 10, 2) := by decide +kernel
theorem dX4_openCommission_27 : decode cX4_openCommission 27 = .ok (.bipush 60, 2) := by decide +kernel
theorem dX4_openCommission_29 : decode cX4_openCommission 29 = .ok (.invokestatic 61, 3) := by decide +kernel
theorem dX4_openCommission_32 : decode cX4_openCommission 32 = .ok (.ifCond .eq 15, 3) := by decide +kernel
theorem dX4_openCommission_35 : decode cX4_openCommission 35 = .ok (.iload 4, 2) := by decide +kernel
theorem dX4_openCommission_37 : decode cX4_openCommission 37 = .ok (.bipush (-60), 2) := by decide +kernel
theorem dX4_openCommission_39 : decode cX4_openCommission 39 = .ok (.bipush 60, 2) := by decide +kernel
theorem dX4_openCommission_41 : decode cX4_openCommission 41 = .ok (.invokestatic 61, 3) := by decide +kernel
theorem dX4_openCommission_44 : decode cX4_openCommission 44 = .ok (.ifCond .ne 6, 3) := by decide +kernel
theorem dX4_openCommission_47 : decode cX4_openCommission 47 = .ok (.ldc 65, 2) := by decide +kernel
theorem dX4_openCommission_49 : decode cX4_openCommission 49 = .ok (.ireturn, 1) := by decide +kernel
theorem dX4_openCommission_50 : decode cX4_openCommission 50 = .ok (.aload_n 0, 1) := by decide +kernel
theorem dX4_openCommission_51 : decode cX4_openCommission 51 = .ok (.getfield 52, 3) := by decide +kernel
theorem dX4_openCommission_54 : decode cX4_openCommission 54 = .ok (.bipush 10, 2) := by decide +kernel
theorem dX4_openCommission_56 : decode cX4_openCommission 56 = .ok (.if_icmp .lt 6, 3) := by decide +kernel
theorem dX4_openCommission_59 : decode cX4_openCommission 59 = .ok (.ldc 72, 2) := by decide +kernel
theorem dX4_openCommission_61 : decode cX4_openCommission 61 = .ok (.ireturn, 1) := by decide +kernel
theorem dX4_openCommission_62 : decode cX4_openCommission 62 = .ok (.aload_n 0, 1) := by decide +kernel
theorem dX4_openCommission_63 : decode cX4_openCommission 63 = .ok (.getfield 26, 3) := by decide +kernel
theorem dX4_openCommission_66 : decode cX4_openCommission 66 = .ok (.aload_n 0, 1) := by decide +kernel
theorem dX4_openCommission_67 : decode cX4_openCommission 67 = .ok (.getfield 52, 3) := by decide +kernel
theorem dX4_openCommission_70 : decode cX4_openCommission 70 = .ok (.aaload, 1) := by decide +kernel
theorem dX4_openCommission_71 : decode cX4_openCommission 71 = .ok (.astore 5, 2) := by decide +kernel
theorem dX4_openCommission_73 : decode cX4_openCommission 73 = .ok (.aload 5, 2) := by decide +kernel
theorem dX4_openCommission_75 : decode cX4_openCommission 75 = .ok (.iload_n 1, 1) := by decide +kernel
theorem dX4_openCommission_76 : decode cX4_openCommission 76 = .ok (.putfield 87, 3) := by decide +kernel
theorem dX4_openCommission_79 : decode cX4_openCommission 79 = .ok (.aload 5, 2) := by decide +kernel
theorem dX4_openCommission_81 : decode cX4_openCommission 81 = .ok (.iload_n 2, 1) := by decide +kernel
theorem dX4_openCommission_82 : decode cX4_openCommission 82 = .ok (.putfield 90, 3) := by decide +kernel
theorem dX4_openCommission_85 : decode cX4_openCommission 85 = .ok (.aload 5, 2) := by decide +kernel
theorem dX4_openCommission_87 : decode cX4_openCommission 87 = .ok (.iload_n 3, 1) := by decide +kernel
theorem dX4_openCommission_88 : decode cX4_openCommission 88 = .ok (.putfield 93, 3) := by decide +kernel
theorem dX4_openCommission_91 : decode cX4_openCommission 91 = .ok (.aload 5, 2) := by decide +kernel
theorem dX4_openCommission_93 : decode cX4_openCommission 93 = .ok (.iload 4, 2) := by decide +kernel
theorem dX4_openCommission_95 : decode cX4_openCommission 95 = .ok (.putfield 96, 3) := by decide +kernel
theorem dX4_openCommission_98 : decode cX4_openCommission 98 = .ok (.aload 5, 2) := by decide +kernel
theorem dX4_openCommission_100 : decode cX4_openCommission 100 = .ok (.iconst 0, 1) := by decide +kernel
theorem dX4_openCommission_101 : decode cX4_openCommission 101 = .ok (.putfield 99, 3) := by decide +kernel
theorem dX4_openCommission_104 : decode cX4_openCommission 104 = .ok (.aload 5, 2) := by decide +kernel
theorem dX4_openCommission_106 : decode cX4_openCommission 106 = .ok (.ldc 73, 2) := by decide +kernel
theorem dX4_openCommission_108 : decode cX4_openCommission 108 = .ok (.putfield 102, 3) := by decide +kernel
theorem dX4_openCommission_111 : decode cX4_openCommission 111 = .ok (.aload 5, 2) := by decide +kernel
theorem dX4_openCommission_113 : decode cX4_openCommission 113 = .ok (.ldc 73, 2) := by decide +kernel
theorem dX4_openCommission_115 : decode cX4_openCommission 115 = .ok (.putfield 105, 3) := by decide +kernel
theorem dX4_openCommission_118 : decode cX4_openCommission 118 = .ok (.aload 5, 2) := by decide +kernel
theorem dX4_openCommission_120 : decode cX4_openCommission 120 = .ok (.iconst 0, 1) := by decide +kernel
theorem dX4_openCommission_121 : decode cX4_openCommission 121 = .ok (.putfield 108, 3) := by decide +kernel
theorem dX4_openCommission_124 : decode cX4_openCommission 124 = .ok (.aload_n 0, 1) := by decide +kernel
theorem dX4_openCommission_125 : decode cX4_openCommission 125 = .ok (.dup, 1) := by decide +kernel
theorem dX4_openCommission_126 : decode cX4_openCommission 126 = .ok (.getfield 52, 3) := by decide +kernel
theorem dX4_openCommission_129 : decode cX4_openCommission 129 = .ok (.iconst 1, 1) := by decide +kernel
theorem dX4_openCommission_130 : decode cX4_openCommission 130 = .ok (.iadd, 1) := by decide +kernel
theorem dX4_openCommission_131 : decode cX4_openCommission 131 = .ok (.putfield 52, 3) := by decide +kernel
theorem dX4_openCommission_134 : decode cX4_openCommission 134 = .ok (.aload_n 0, 1) := by decide +kernel
theorem dX4_openCommission_135 : decode cX4_openCommission 135 = .ok (.getfield 52, 3) := by decide +kernel
theorem dX4_openCommission_138 : decode cX4_openCommission 138 = .ok (.iconst 1, 1) := by decide +kernel
theorem dX4_openCommission_139 : decode cX4_openCommission 139 = .ok (.isub, 1) := by decide +kernel
theorem dX4_openCommission_140 : decode cX4_openCommission 140 = .ok (.ireturn, 1) := by decide +kernel
theorem dX4_conclude_0 : decode cX4_conclude 0 = .ok (.aload_n 0, 1) := by decide +kernel
theorem dX4_conclude_1 : decode cX4_conclude 1 = .ok (.iload_n 1, 1) := by decide +kernel
theorem dX4_conclude_2 : decode cX4_conclude 2 = .ok (.invokevirtual 111, 3) := by decide +kernel
theorem dX4_conclude_5 : decode cX4_conclude 5 = .ok (.ifCond .ne 6, 3) := by decide +kernel
theorem dX4_conclude_8 : decode cX4_conclude 8 = .ok (.ldc 65, 2) := by decide +kernel
theorem dX4_conclude_10 : decode cX4_conclude 10 = .ok (.ireturn, 1) := by decide +kernel
theorem dX4_conclude_11 : decode cX4_conclude 11 = .ok (.aload_n 0, 1) := by decide +kernel
theorem dX4_conclude_12 : decode cX4_conclude 12 = .ok (.getfield 26, 3) := by decide +kernel
theorem dX4_conclude_15 : decode cX4_conclude 15 = .ok (.iload_n 1, 1) := by decide +kernel
theorem dX4_conclude_16 : decode cX4_conclude 16 = .ok (.aaload, 1) := by decide +kernel
theorem dX4_conclude_17 : decode cX4_conclude 17 = .ok (.astore_n 3, 1) := by decide +kernel
theorem dX4_conclude_18 : decode cX4_conclude 18 = .ok (.aload_n 3, 1) := by decide +kernel
theorem dX4_conclude_19 : decode cX4_conclude 19 = .ok (.getfield 99, 3) := by decide +kernel
theorem dX4_conclude_22 : decode cX4_conclude 22 = .ok (.ifCond .eq 6, 3) := by decide +kernel
theorem dX4_conclude_25 : decode cX4_conclude 25 = .ok (.ldc 114, 2) := by decide +kernel
theorem dX4_conclude_27 : decode cX4_conclude 27 = .ok (.ireturn, 1) := by decide +kernel
theorem dX4_conclude_28 : decode cX4_conclude 28 = .ok (.iload_n 2, 1) := by decide +kernel
theorem dX4_conclude_29 : decode cX4_conclude 29 = .ok (.ifCond .ne 20, 3) := by decide +kernel
theorem dX4_conclude_32 : decode cX4_conclude 32 = .ok (.aload_n 3, 1) := by decide +kernel
theorem dX4_conclude_33 : decode cX4_conclude 33 = .ok (.aload_n 0, 1) := by decide +kernel
theorem dX4_conclude_34 : decode cX4_conclude 34 = .ok (.iload_n 1, 1) := by decide +kernel
theorem dX4_conclude_35 : decode cX4_conclude 35 = .ok (.invokevirtual 115, 3) := by decide +kernel
theorem dX4_conclude_38 : decode cX4_conclude 38 = .ok (.putfield 102, 3) := by decide +kernel
theorem dX4_conclude_41 : decode cX4_conclude 41 = .ok (.aload_n 3, 1) := by decide +kernel
theorem dX4_conclude_42 : decode cX4_conclude 42 = .ok (.iconst 1, 1) := by decide +kernel
theorem dX4_conclude_43 : decode cX4_conclude 43 = .ok (.putfield 99, 3) := by decide +kernel
theorem dX4_conclude_46 : decode cX4_conclude 46 = .ok (.goto 13, 3) := by decide +kernel
theorem dX4_conclude_49 : decode cX4_conclude 49 = .ok (.aload_n 3, 1) := by decide +kernel
theorem dX4_conclude_50 : decode cX4_conclude 50 = .ok (.iload_n 2, 1) := by decide +kernel
theorem dX4_conclude_51 : decode cX4_conclude 51 = .ok (.putfield 108, 3) := by decide +kernel
theorem dX4_conclude_54 : decode cX4_conclude 54 = .ok (.aload_n 3, 1) := by decide +kernel
theorem dX4_conclude_55 : decode cX4_conclude 55 = .ok (.iconst 4, 1) := by decide +kernel
theorem dX4_conclude_56 : decode cX4_conclude 56 = .ok (.putfield 99, 3) := by decide +kernel
theorem dX4_conclude_59 : decode cX4_conclude 59 = .ok (.iload_n 2, 1) := by decide +kernel
theorem dX4_conclude_60 : decode cX4_conclude 60 = .ok (.ireturn, 1) := by decide +kernel
theorem dX4_reopen_0 : decode cX4_reopen 0 = .ok (.aload_n 0, 1) := by decide +kernel
theorem dX4_reopen_1 : decode cX4_reopen 1 = .ok (.iload_n 1, 1) := by decide +kernel
theorem dX4_reopen_2 : decode cX4_reopen 2 = .ok (.invokevirtual 111, 3) := by decide +kernel
theorem dX4_reopen_5 : decode cX4_reopen 5 = .ok (.ifCond .ne 6, 3) := by decide +kernel
theorem dX4_reopen_8 : decode cX4_reopen 8 = .ok (.ldc 65, 2) := by decide +kernel
theorem dX4_reopen_10 : decode cX4_reopen 10 = .ok (.ireturn, 1) := by decide +kernel
theorem dX4_reopen_11 : decode cX4_reopen 11 = .ok (.aload_n 0, 1) := by decide +kernel
theorem dX4_reopen_12 : decode cX4_reopen 12 = .ok (.getfield 26, 3) := by decide +kernel
theorem dX4_reopen_15 : decode cX4_reopen 15 = .ok (.iload_n 1, 1) := by decide +kernel
theorem dX4_reopen_16 : decode cX4_reopen 16 = .ok (.aaload, 1) := by decide +kernel
theorem dX4_reopen_17 : decode cX4_reopen 17 = .ok (.getfield 99, 3) := by decide +kernel
theorem dX4_reopen_20 : decode cX4_reopen 20 = .ok (.iconst 4, 1) := by decide +kernel
theorem dX4_reopen_21 : decode cX4_reopen 21 = .ok (.if_icmp .eq 6, 3) := by decide +kernel
theorem dX4_reopen_24 : decode cX4_reopen 24 = .ok (.ldc 114, 2) := by decide +kernel
theorem dX4_reopen_26 : decode cX4_reopen 26 = .ok (.ireturn, 1) := by decide +kernel
theorem dX4_reopen_27 : decode cX4_reopen 27 = .ok (.aload_n 0, 1) := by decide +kernel
theorem dX4_reopen_28 : decode cX4_reopen 28 = .ok (.getfield 26, 3) := by decide +kernel
theorem dX4_reopen_31 : decode cX4_reopen 31 = .ok (.iload_n 1, 1) := by decide +kernel
theorem dX4_reopen_32 : decode cX4_reopen 32 = .ok (.aaload, 1) := by decide +kernel
theorem dX4_reopen_33 : decode cX4_reopen 33 = .ok (.iconst 0, 1) := by decide +kernel
theorem dX4_reopen_34 : decode cX4_reopen 34 = .ok (.putfield 99, 3) := by decide +kernel
theorem dX4_reopen_37 : decode cX4_reopen 37 = .ok (.iload_n 2, 1) := by decide +kernel
theorem dX4_reopen_38 : decode cX4_reopen 38 = .ok (.ireturn, 1) := by decide +kernel
theorem dX4_castMelt_0 : decode cX4_castMelt 0 = .ok (.aload_n 0, 1) := by decide +kernel
theorem dX4_castMelt_1 : decode cX4_castMelt 1 = .ok (.aload_n 0, 1) := by decide +kernel
theorem dX4_castMelt_2 : decode cX4_castMelt 2 = .ok (.invokevirtual 119, 3) := by decide +kernel
theorem dX4_castMelt_5 : decode cX4_castMelt 5 = .ok (.invokevirtual 123, 3) := by decide +kernel
theorem dX4_castMelt_8 : decode cX4_castMelt 8 = .ok (.istore_n 1, 1) := by decide +kernel
theorem dX4_castMelt_9 : decode cX4_castMelt 9 = .ok (.iload_n 1, 1) := by decide +kernel
theorem dX4_castMelt_10 : decode cX4_castMelt 10 = .ok (.ifCond .ne 6, 3) := by decide +kernel
theorem dX4_castMelt_13 : decode cX4_castMelt 13 = .ok (.ldc 114, 2) := by decide +kernel
theorem dX4_castMelt_15 : decode cX4_castMelt 15 = .ok (.ireturn, 1) := by decide +kernel
theorem dX4_castMelt_16 : decode cX4_castMelt 16 = .ok (.iconst 0, 1) := by decide +kernel
theorem dX4_castMelt_17 : decode cX4_castMelt 17 = .ok (.istore_n 2, 1) := by decide +kernel
theorem dX4_castMelt_18 : decode cX4_castMelt 18 = .ok (.iload_n 2, 1) := by decide +kernel
theorem dX4_castMelt_19 : decode cX4_castMelt 19 = .ok (.aload_n 0, 1) := by decide +kernel
theorem dX4_castMelt_20 : decode cX4_castMelt 20 = .ok (.getfield 52, 3) := by decide +kernel
theorem dX4_castMelt_23 : decode cX4_castMelt 23 = .ok (.if_icmp .ge 58, 3) := by decide +kernel
theorem dX4_castMelt_26 : decode cX4_castMelt 26 = .ok (.iload_n 1, 1) := by decide +kernel
theorem dX4_castMelt_27 : decode cX4_castMelt 27 = .ok (.iconst 1, 1) := by decide +kernel
theorem dX4_castMelt_28 : decode cX4_castMelt 28 = .ok (.iload_n 2, 1) := by decide +kernel
theorem dX4_castMelt_29 : decode cX4_castMelt 29 = .ok (.ishl, 1) := by decide +kernel
theorem dX4_castMelt_30 : decode cX4_castMelt 30 = .ok (.iand, 1) := by decide +kernel
theorem dX4_castMelt_31 : decode cX4_castMelt 31 = .ok (.ifCond .eq 44, 3) := by decide +kernel
theorem dX4_castMelt_34 : decode cX4_castMelt 34 = .ok (.aload_n 0, 1) := by decide +kernel
theorem dX4_castMelt_35 : decode cX4_castMelt 35 = .ok (.getfield 26, 3) := by decide +kernel
theorem dX4_castMelt_38 : decode cX4_castMelt 38 = .ok (.iload_n 2, 1) := by decide +kernel
theorem dX4_castMelt_39 : decode cX4_castMelt 39 = .ok (.aaload, 1) := by decide +kernel
theorem dX4_castMelt_40 : decode cX4_castMelt 40 = .ok (.iconst 2, 1) := by decide +kernel
theorem dX4_castMelt_41 : decode cX4_castMelt 41 = .ok (.putfield 99, 3) := by decide +kernel
theorem dX4_castMelt_44 : decode cX4_castMelt 44 = .ok (.aload_n 0, 1) := by decide +kernel
theorem dX4_castMelt_45 : decode cX4_castMelt 45 = .ok (.getfield 26, 3) := by decide +kernel
theorem dX4_castMelt_48 : decode cX4_castMelt 48 = .ok (.iload_n 2, 1) := by decide +kernel
theorem dX4_castMelt_49 : decode cX4_castMelt 49 = .ok (.aaload, 1) := by decide +kernel
theorem dX4_castMelt_50 : decode cX4_castMelt 50 = .ok (.aload_n 0, 1) := by decide +kernel
theorem dX4_castMelt_51 : decode cX4_castMelt 51 = .ok (.getfield 55, 3) := by decide +kernel
theorem dX4_castMelt_54 : decode cX4_castMelt 54 = .ok (.putfield 105, 3) := by decide +kernel
theorem dX4_castMelt_57 : decode cX4_castMelt 57 = .ok (.aload_n 0, 1) := by decide +kernel
theorem dX4_castMelt_58 : decode cX4_castMelt 58 = .ok (.dup, 1) := by decide +kernel
theorem dX4_castMelt_59 : decode cX4_castMelt 59 = .ok (.getfield 58, 3) := by decide +kernel
theorem dX4_castMelt_62 : decode cX4_castMelt 62 = .ok (.aload_n 0, 1) := by decide +kernel
theorem dX4_castMelt_63 : decode cX4_castMelt 63 = .ok (.getfield 26, 3) := by decide +kernel
theorem dX4_castMelt_66 : decode cX4_castMelt 66 = .ok (.iload_n 2, 1) := by decide +kernel
theorem dX4_castMelt_67 : decode cX4_castMelt 67 = .ok (.aaload, 1) := by decide +kernel
theorem dX4_castMelt_68 : decode cX4_castMelt 68 = .ok (.invokevirtual 126, 3) := by decide +kernel
theorem dX4_castMelt_71 : decode cX4_castMelt 71 = .ok (.iadd, 1) := by decide +kernel
theorem dX4_castMelt_72 : decode cX4_castMelt 72 = .ok (.putfield 58, 3) := by decide +kernel
theorem dX4_castMelt_75 : decode cX4_castMelt 75 = .ok (.iinc 2 1, 3) := by decide +kernel
theorem dX4_castMelt_78 : decode cX4_castMelt 78 = .ok (.goto (-60), 3) := by decide +kernel
theorem dX4_castMelt_81 : decode cX4_castMelt 81 = .ok (.aload_n 0, 1) := by decide +kernel
theorem dX4_castMelt_82 : decode cX4_castMelt 82 = .ok (.dup, 1) := by decide +kernel
theorem dX4_castMelt_83 : decode cX4_castMelt 83 = .ok (.getfield 55, 3) := by decide +kernel
theorem dX4_castMelt_86 : decode cX4_castMelt 86 = .ok (.iconst 1, 1) := by decide +kernel
theorem dX4_castMelt_87 : decode cX4_castMelt 87 = .ok (.iadd, 1) := by decide +kernel
theorem dX4_castMelt_88 : decode cX4_castMelt 88 = .ok (.putfield 55, 3) := by decide +kernel
theorem dX4_castMelt_91 : decode cX4_castMelt 91 = .ok (.iload_n 1, 1) := by decide +kernel
theorem dX4_castMelt_92 : decode cX4_castMelt 92 = .ok (.invokestatic 129, 3) := by decide +kernel
theorem dX4_castMelt_95 : decode cX4_castMelt 95 = .ok (.ireturn, 1) := by decide +kernel
theorem dX4_meltsNeeded_0 : decode cX4_meltsNeeded 0 = .ok (.aload_n 0, 1) := by decide +kernel
theorem dX4_meltsNeeded_1 : decode cX4_meltsNeeded 1 = .ok (.invokevirtual 119, 3) := by decide +kernel
theorem dX4_meltsNeeded_4 : decode cX4_meltsNeeded 4 = .ok (.istore_n 1, 1) := by decide +kernel
theorem dX4_meltsNeeded_5 : decode cX4_meltsNeeded 5 = .ok (.iconst 0, 1) := by decide +kernel
theorem dX4_meltsNeeded_6 : decode cX4_meltsNeeded 6 = .ok (.istore_n 2, 1) := by decide +kernel
theorem dX4_meltsNeeded_7 : decode cX4_meltsNeeded 7 = .ok (.iload_n 2, 1) := by decide +kernel
theorem dX4_meltsNeeded_8 : decode cX4_meltsNeeded 8 = .ok (.bipush 10, 2) := by decide +kernel
theorem dX4_meltsNeeded_10 : decode cX4_meltsNeeded 10 = .ok (.if_icmp .gt 34, 3) := by decide +kernel
theorem dX4_meltsNeeded_13 : decode cX4_meltsNeeded 13 = .ok (.iload_n 1, 1) := by decide +kernel
theorem dX4_meltsNeeded_14 : decode cX4_meltsNeeded 14 = .ok (.ifCond .ne 5, 3) := by decide +kernel
theorem dX4_meltsNeeded_17 : decode cX4_meltsNeeded 17 = .ok (.iload_n 2, 1) := by decide +kernel
theorem dX4_meltsNeeded_18 : decode cX4_meltsNeeded 18 = .ok (.ireturn, 1) := by decide +kernel
theorem dX4_meltsNeeded_19 : decode cX4_meltsNeeded 19 = .ok (.aload_n 0, 1) := by decide +kernel
theorem dX4_meltsNeeded_20 : decode cX4_meltsNeeded 20 = .ok (.iload_n 1, 1) := by decide +kernel
theorem dX4_meltsNeeded_21 : decode cX4_meltsNeeded 21 = .ok (.invokevirtual 123, 3) := by decide +kernel
theorem dX4_meltsNeeded_24 : decode cX4_meltsNeeded 24 = .ok (.istore_n 3, 1) := by decide +kernel
theorem dX4_meltsNeeded_25 : decode cX4_meltsNeeded 25 = .ok (.iload_n 3, 1) := by decide +kernel
theorem dX4_meltsNeeded_26 : decode cX4_meltsNeeded 26 = .ok (.ifCond .ne 6, 3) := by decide +kernel
theorem dX4_meltsNeeded_29 : decode cX4_meltsNeeded 29 = .ok (.ldc 73, 2) := by decide +kernel
theorem dX4_meltsNeeded_31 : decode cX4_meltsNeeded 31 = .ok (.ireturn, 1) := by decide +kernel
theorem dX4_meltsNeeded_32 : decode cX4_meltsNeeded 32 = .ok (.iload_n 1, 1) := by decide +kernel
theorem dX4_meltsNeeded_33 : decode cX4_meltsNeeded 33 = .ok (.iload_n 3, 1) := by decide +kernel
theorem dX4_meltsNeeded_34 : decode cX4_meltsNeeded 34 = .ok (.iconst (-1), 1) := by decide +kernel
theorem dX4_meltsNeeded_35 : decode cX4_meltsNeeded 35 = .ok (.ixor, 1) := by decide +kernel
theorem dX4_meltsNeeded_36 : decode cX4_meltsNeeded 36 = .ok (.iand, 1) := by decide +kernel
theorem dX4_meltsNeeded_37 : decode cX4_meltsNeeded 37 = .ok (.istore_n 1, 1) := by decide +kernel
theorem dX4_meltsNeeded_38 : decode cX4_meltsNeeded 38 = .ok (.iinc 2 1, 3) := by decide +kernel
theorem dX4_meltsNeeded_41 : decode cX4_meltsNeeded 41 = .ok (.goto (-34), 3) := by decide +kernel
theorem dX4_meltsNeeded_44 : decode cX4_meltsNeeded 44 = .ok (.ldc 73, 2) := by decide +kernel
theorem dX4_meltsNeeded_46 : decode cX4_meltsNeeded 46 = .ok (.ireturn, 1) := by decide +kernel
theorem dX4_acceptedOnes_0 : decode cX4_acceptedOnes 0 = .ok (.iconst 0, 1) := by decide +kernel
theorem dX4_acceptedOnes_1 : decode cX4_acceptedOnes 1 = .ok (.istore_n 1, 1) := by decide +kernel
theorem dX4_acceptedOnes_2 : decode cX4_acceptedOnes 2 = .ok (.iconst 0, 1) := by decide +kernel
theorem dX4_acceptedOnes_3 : decode cX4_acceptedOnes 3 = .ok (.istore_n 2, 1) := by decide +kernel
theorem dX4_acceptedOnes_4 : decode cX4_acceptedOnes 4 = .ok (.iload_n 2, 1) := by decide +kernel
theorem dX4_acceptedOnes_5 : decode cX4_acceptedOnes 5 = .ok (.aload_n 0, 1) := by decide +kernel
theorem dX4_acceptedOnes_6 : decode cX4_acceptedOnes 6 = .ok (.getfield 52, 3) := by decide +kernel
theorem dX4_acceptedOnes_9 : decode cX4_acceptedOnes 9 = .ok (.if_icmp .ge 28, 3) := by decide +kernel
theorem dX4_acceptedOnes_12 : decode cX4_acceptedOnes 12 = .ok (.aload_n 0, 1) := by decide +kernel
theorem dX4_acceptedOnes_13 : decode cX4_acceptedOnes 13 = .ok (.getfield 26, 3) := by decide +kernel
theorem dX4_acceptedOnes_16 : decode cX4_acceptedOnes 16 = .ok (.iload_n 2, 1) := by decide +kernel
theorem dX4_acceptedOnes_17 : decode cX4_acceptedOnes 17 = .ok (.aaload, 1) := by decide +kernel
theorem dX4_acceptedOnes_18 : decode cX4_acceptedOnes 18 = .ok (.getfield 99, 3) := by decide +kernel
theorem dX4_acceptedOnes_21 : decode cX4_acceptedOnes 21 = .ok (.iconst 1, 1) := by decide +kernel
theorem dX4_acceptedOnes_22 : decode cX4_acceptedOnes 22 = .ok (.if_icmp .ne 9, 3) := by decide +kernel
theorem dX4_acceptedOnes_25 : decode cX4_acceptedOnes 25 = .ok (.iload_n 1, 1) := by decide +kernel
theorem dX4_acceptedOnes_26 : decode cX4_acceptedOnes 26 = .ok (.iconst 1, 1) := by decide +kernel
theorem dX4_acceptedOnes_27 : decode cX4_acceptedOnes 27 = .ok (.iload_n 2, 1) := by decide +kernel
theorem dX4_acceptedOnes_28 : decode cX4_acceptedOnes 28 = .ok (.ishl, 1) := by decide +kernel
theorem dX4_acceptedOnes_29 : decode cX4_acceptedOnes 29 = .ok (.ior, 1) := by decide +kernel
theorem dX4_acceptedOnes_30 : decode cX4_acceptedOnes 30 = .ok (.istore_n 1, 1) := by decide +kernel
theorem dX4_acceptedOnes_31 : decode cX4_acceptedOnes 31 = .ok (.iinc 2 1, 3) := by decide +kernel
theorem dX4_acceptedOnes_34 : decode cX4_acceptedOnes 34 = .ok (.goto (-30), 3) := by decide +kernel
theorem dX4_acceptedOnes_37 : decode cX4_acceptedOnes 37 = .ok (.iload_n 1, 1) := by decide +kernel
theorem dX4_acceptedOnes_38 : decode cX4_acceptedOnes 38 = .ok (.ireturn, 1) := by decide +kernel
theorem dX4_nextMelt_0 : decode cX4_nextMelt 0 = .ok (.iconst 0, 1) := by decide +kernel
theorem dX4_nextMelt_1 : decode cX4_nextMelt 1 = .ok (.istore_n 2, 1) := by decide +kernel
theorem dX4_nextMelt_2 : decode cX4_nextMelt 2 = .ok (.iconst 0, 1) := by decide +kernel
theorem dX4_nextMelt_3 : decode cX4_nextMelt 3 = .ok (.istore_n 3, 1) := by decide +kernel
theorem dX4_nextMelt_4 : decode cX4_nextMelt 4 = .ok (.iconst 0, 1) := by decide +kernel
theorem dX4_nextMelt_5 : decode cX4_nextMelt 5 = .ok (.istore 4, 2) := by decide +kernel
theorem dX4_nextMelt_7 : decode cX4_nextMelt 7 = .ok (.iload 4, 2) := by decide +kernel
theorem dX4_nextMelt_9 : decode cX4_nextMelt 9 = .ok (.aload_n 0, 1) := by decide +kernel
theorem dX4_nextMelt_10 : decode cX4_nextMelt 10 = .ok (.getfield 52, 3) := by decide +kernel
theorem dX4_nextMelt_13 : decode cX4_nextMelt 13 = .ok (.if_icmp .ge 55, 3) := by decide +kernel
theorem dX4_nextMelt_16 : decode cX4_nextMelt 16 = .ok (.aload_n 0, 1) := by decide +kernel
theorem dX4_nextMelt_17 : decode cX4_nextMelt 17 = .ok (.getfield 26, 3) := by decide +kernel
theorem dX4_nextMelt_20 : decode cX4_nextMelt 20 = .ok (.iload 4, 2) := by decide +kernel
theorem dX4_nextMelt_22 : decode cX4_nextMelt 22 = .ok (.aaload, 1) := by decide +kernel
theorem dX4_nextMelt_23 : decode cX4_nextMelt 23 = .ok (.invokevirtual 126, 3) := by decide +kernel
theorem dX4_nextMelt_26 : decode cX4_nextMelt 26 = .ok (.istore 5, 2) := by decide +kernel
theorem dX4_nextMelt_28 : decode cX4_nextMelt 28 = .ok (.iload_n 1, 1) := by decide +kernel
theorem dX4_nextMelt_29 : decode cX4_nextMelt 29 = .ok (.iconst 1, 1) := by decide +kernel
theorem dX4_nextMelt_30 : decode cX4_nextMelt 30 = .ok (.iload 4, 2) := by decide +kernel
theorem dX4_nextMelt_32 : decode cX4_nextMelt 32 = .ok (.ishl, 1) := by decide +kernel
theorem dX4_nextMelt_33 : decode cX4_nextMelt 33 = .ok (.iand, 1) := by decide +kernel
theorem dX4_nextMelt_34 : decode cX4_nextMelt 34 = .ok (.ifCond .eq 28, 3) := by decide +kernel
theorem dX4_nextMelt_37 : decode cX4_nextMelt 37 = .ok (.iload_n 3, 1) := by decide +kernel
theorem dX4_nextMelt_38 : decode cX4_nextMelt 38 = .ok (.iload 5, 2) := by decide +kernel
theorem dX4_nextMelt_40 : decode cX4_nextMelt 40 = .ok (.iadd, 1) := by decide +kernel
theorem dX4_nextMelt_41 : decode cX4_nextMelt 41 = .ok (.aload_n 0, 1) := by decide +kernel
theorem dX4_nextMelt_42 : decode cX4_nextMelt 42 = .ok (.getfield 21, 3) := by decide +kernel
theorem dX4_nextMelt_45 : decode cX4_nextMelt 45 = .ok (.iconst 3, 1) := by decide +kernel
theorem dX4_nextMelt_46 : decode cX4_nextMelt 46 = .ok (.iaload, 1) := by decide +kernel
theorem dX4_nextMelt_47 : decode cX4_nextMelt 47 = .ok (.if_icmp .gt 15, 3) := by decide +kernel
theorem dX4_nextMelt_50 : decode cX4_nextMelt 50 = .ok (.iload_n 2, 1) := by decide +kernel
theorem dX4_nextMelt_51 : decode cX4_nextMelt 51 = .ok (.iconst 1, 1) := by decide +kernel
theorem dX4_nextMelt_52 : decode cX4_nextMelt 52 = .ok (.iload 4, 2) := by decide +kernel
theorem dX4_nextMelt_54 : decode cX4_nextMelt 54 = .ok (.ishl, 1) := by decide +kernel
theorem dX4_nextMelt_55 : decode cX4_nextMelt 55 = .ok (.ior, 1) := by decide +kernel
theorem dX4_nextMelt_56 : decode cX4_nextMelt 56 = .ok (.istore_n 2, 1) := by decide +kernel
theorem dX4_nextMelt_57 : decode cX4_nextMelt 57 = .ok (.iload_n 3, 1) := by decide +kernel
theorem dX4_nextMelt_58 : decode cX4_nextMelt 58 = .ok (.iload 5, 2) := by decide +kernel
theorem dX4_nextMelt_60 : decode cX4_nextMelt 60 = .ok (.iadd, 1) := by decide +kernel
theorem dX4_nextMelt_61 : decode cX4_nextMelt 61 = .ok (.istore_n 3, 1) := by decide +kernel
theorem dX4_nextMelt_62 : decode cX4_nextMelt 62 = .ok (.iinc 4 1, 3) := by decide +kernel
theorem dX4_nextMelt_65 : decode cX4_nextMelt 65 = .ok (.goto (-58), 3) := by decide +kernel
theorem dX4_nextMelt_68 : decode cX4_nextMelt 68 = .ok (.iload_n 2, 1) := by decide +kernel
theorem dX4_nextMelt_69 : decode cX4_nextMelt 69 = .ok (.ireturn, 1) := by decide +kernel
theorem dX4_handOver_0 : decode cX4_handOver 0 = .ok (.aload_n 0, 1) := by decide +kernel
theorem dX4_handOver_1 : decode cX4_handOver 1 = .ok (.iload_n 1, 1) := by decide +kernel
theorem dX4_handOver_2 : decode cX4_handOver 2 = .ok (.invokevirtual 111, 3) := by decide +kernel
theorem dX4_handOver_5 : decode cX4_handOver 5 = .ok (.ifCond .ne 6, 3) := by decide +kernel
theorem dX4_handOver_8 : decode cX4_handOver 8 = .ok (.ldc 65, 2) := by decide +kernel
theorem dX4_handOver_10 : decode cX4_handOver 10 = .ok (.ireturn, 1) := by decide +kernel
theorem dX4_handOver_11 : decode cX4_handOver 11 = .ok (.aload_n 0, 1) := by decide +kernel
theorem dX4_handOver_12 : decode cX4_handOver 12 = .ok (.getfield 26, 3) := by decide +kernel
theorem dX4_handOver_15 : decode cX4_handOver 15 = .ok (.iload_n 1, 1) := by decide +kernel
theorem dX4_handOver_16 : decode cX4_handOver 16 = .ok (.aaload, 1) := by decide +kernel
theorem dX4_handOver_17 : decode cX4_handOver 17 = .ok (.getfield 99, 3) := by decide +kernel
theorem dX4_handOver_20 : decode cX4_handOver 20 = .ok (.iconst 2, 1) := by decide +kernel
theorem dX4_handOver_21 : decode cX4_handOver 21 = .ok (.if_icmp .eq 6, 3) := by decide +kernel
theorem dX4_handOver_24 : decode cX4_handOver 24 = .ok (.ldc 114, 2) := by decide +kernel
theorem dX4_handOver_26 : decode cX4_handOver 26 = .ok (.ireturn, 1) := by decide +kernel
theorem dX4_handOver_27 : decode cX4_handOver 27 = .ok (.aload_n 0, 1) := by decide +kernel
theorem dX4_handOver_28 : decode cX4_handOver 28 = .ok (.getfield 26, 3) := by decide +kernel
theorem dX4_handOver_31 : decode cX4_handOver 31 = .ok (.iload_n 1, 1) := by decide +kernel
theorem dX4_handOver_32 : decode cX4_handOver 32 = .ok (.aaload, 1) := by decide +kernel
theorem dX4_handOver_33 : decode cX4_handOver 33 = .ok (.iconst 3, 1) := by decide +kernel
theorem dX4_handOver_34 : decode cX4_handOver 34 = .ok (.putfield 99, 3) := by decide +kernel
theorem dX4_handOver_37 : decode cX4_handOver 37 = .ok (.aload_n 0, 1) := by decide +kernel
theorem dX4_handOver_38 : decode cX4_handOver 38 = .ok (.iconst 3, 1) := by decide +kernel
theorem dX4_handOver_39 : decode cX4_handOver 39 = .ok (.invokevirtual 134, 3) := by decide +kernel
theorem dX4_handOver_42 : decode cX4_handOver 42 = .ok (.ireturn, 1) := by decide +kernel
theorem dX4_knownWalls_0 : decode cX4_knownWalls 0 = .ok (.iconst 0, 1) := by decide +kernel
theorem dX4_knownWalls_1 : decode cX4_knownWalls 1 = .ok (.istore_n 1, 1) := by decide +kernel
theorem dX4_knownWalls_2 : decode cX4_knownWalls 2 = .ok (.iconst 0, 1) := by decide +kernel
theorem dX4_knownWalls_3 : decode cX4_knownWalls 3 = .ok (.istore_n 2, 1) := by decide +kernel
theorem dX4_knownWalls_4 : decode cX4_knownWalls 4 = .ok (.iload_n 2, 1) := by decide +kernel
theorem dX4_knownWalls_5 : decode cX4_knownWalls 5 = .ok (.aload_n 0, 1) := by decide +kernel
theorem dX4_knownWalls_6 : decode cX4_knownWalls 6 = .ok (.getfield 48, 3) := by decide +kernel
theorem dX4_knownWalls_9 : decode cX4_knownWalls 9 = .ok (.if_icmp .ge 30, 3) := by decide +kernel
theorem dX4_knownWalls_12 : decode cX4_knownWalls 12 = .ok (.aload_n 0, 1) := by decide +kernel
theorem dX4_knownWalls_13 : decode cX4_knownWalls 13 = .ok (.getfield 11, 3) := by decide +kernel
theorem dX4_knownWalls_16 : decode cX4_knownWalls 16 = .ok (.iload_n 2, 1) := by decide +kernel
theorem dX4_knownWalls_17 : decode cX4_knownWalls 17 = .ok (.aaload, 1) := by decide +kernel
theorem dX4_knownWalls_18 : decode cX4_knownWalls 18 = .ok (.aload_n 0, 1) := by decide +kernel
theorem dX4_knownWalls_19 : decode cX4_knownWalls 19 = .ok (.getfield 21, 3) := by decide +kernel
theorem dX4_knownWalls_22 : decode cX4_knownWalls 22 = .ok (.iconst 0, 1) := by decide +kernel
theorem dX4_knownWalls_23 : decode cX4_knownWalls 23 = .ok (.iaload, 1) := by decide +kernel
theorem dX4_knownWalls_24 : decode cX4_knownWalls 24 = .ok (.invokevirtual 84, 3) := by decide +kernel
theorem dX4_knownWalls_27 : decode cX4_knownWalls 27 = .ok (.ifCond .eq 6, 3) := by decide +kernel
theorem dX4_knownWalls_30 : decode cX4_knownWalls 30 = .ok (.iinc 1 1, 3) := by decide +kernel
theorem dX4_knownWalls_33 : decode cX4_knownWalls 33 = .ok (.iinc 2 1, 3) := by decide +kernel
theorem dX4_knownWalls_36 : decode cX4_knownWalls 36 = .ok (.goto (-32), 3) := by decide +kernel
theorem dX4_knownWalls_39 : decode cX4_knownWalls 39 = .ok (.iload_n 1, 1) := by decide +kernel
theorem dX4_knownWalls_40 : decode cX4_knownWalls 40 = .ok (.ireturn, 1) := by decide +kernel
theorem dX4_commissionsInState_0 : decode cX4_commissionsInState 0 = .ok (.iconst 0, 1) := by decide +kernel
theorem dX4_commissionsInState_1 : decode cX4_commissionsInState 1 = .ok (.istore_n 2, 1) := by decide +kernel
theorem dX4_commissionsInState_2 : decode cX4_commissionsInState 2 = .ok (.iconst 0, 1) := by decide +kernel
theorem dX4_commissionsInState_3 : decode cX4_commissionsInState 3 = .ok (.istore_n 3, 1) := by decide +kernel
theorem dX4_commissionsInState_4 : decode cX4_commissionsInState 4 = .ok (.iload_n 3, 1) := by decide +kernel
theorem dX4_commissionsInState_5 : decode cX4_commissionsInState 5 = .ok (.aload_n 0, 1) := by decide +kernel
theorem dX4_commissionsInState_6 : decode cX4_commissionsInState 6 = .ok (.getfield 52, 3) := by decide +kernel
theorem dX4_commissionsInState_9 : decode cX4_commissionsInState 9 = .ok (.if_icmp .ge 25, 3) := by decide +kernel
theorem dX4_commissionsInState_12 : decode cX4_commissionsInState 12 = .ok (.aload_n 0, 1) := by decide +kernel
theorem dX4_commissionsInState_13 : decode cX4_commissionsInState 13 = .ok (.getfield 26, 3) := by decide +kernel
theorem dX4_commissionsInState_16 : decode cX4_commissionsInState 16 = .ok (.iload_n 3, 1) := by decide +kernel
theorem dX4_commissionsInState_17 : decode cX4_commissionsInState 17 = .ok (.aaload, 1) := by decide +kernel
theorem dX4_commissionsInState_18 : decode cX4_commissionsInState 18 = .ok (.getfield 99, 3) := by decide +kernel
theorem dX4_commissionsInState_21 : decode cX4_commissionsInState 21 = .ok (.iload_n 1, 1) := by decide +kernel
theorem dX4_commissionsInState_22 : decode cX4_commissionsInState 22 = .ok (.if_icmp .ne 6, 3) := by decide +kernel
theorem dX4_commissionsInState_25 : decode cX4_commissionsInState 25 = .ok (.iinc 2 1, 3) := by decide +kernel
theorem dX4_commissionsInState_28 : decode cX4_commissionsInState 28 = .ok (.iinc 3 1, 3) := by decide +kernel
theorem dX4_commissionsInState_31 : decode cX4_commissionsInState 31 = .ok (.goto (-27), 3) := by decide +kernel
theorem dX4_commissionsInState_34 : decode cX4_commissionsInState 34 = .ok (.iload_n 2, 1) := by decide +kernel
theorem dX4_commissionsInState_35 : decode cX4_commissionsInState 35 = .ok (.ireturn, 1) := by decide +kernel
theorem dX4_commissionsForWall_0 : decode cX4_commissionsForWall 0 = .ok (.iconst 0, 1) := by decide +kernel
theorem dX4_commissionsForWall_1 : decode cX4_commissionsForWall 1 = .ok (.istore_n 2, 1) := by decide +kernel
theorem dX4_commissionsForWall_2 : decode cX4_commissionsForWall 2 = .ok (.iconst 0, 1) := by decide +kernel
theorem dX4_commissionsForWall_3 : decode cX4_commissionsForWall 3 = .ok (.istore_n 3, 1) := by decide +kernel
theorem dX4_commissionsForWall_4 : decode cX4_commissionsForWall 4 = .ok (.iload_n 3, 1) := by decide +kernel
theorem dX4_commissionsForWall_5 : decode cX4_commissionsForWall 5 = .ok (.aload_n 0, 1) := by decide +kernel
theorem dX4_commissionsForWall_6 : decode cX4_commissionsForWall 6 = .ok (.getfield 52, 3) := by decide +kernel
theorem dX4_commissionsForWall_9 : decode cX4_commissionsForWall 9 = .ok (.if_icmp .ge 25, 3) := by decide +kernel
theorem dX4_commissionsForWall_12 : decode cX4_commissionsForWall 12 = .ok (.aload_n 0, 1) := by decide +kernel
theorem dX4_commissionsForWall_13 : decode cX4_commissionsForWall 13 = .ok (.getfield 26, 3) := by decide +kernel
theorem dX4_commissionsForWall_16 : decode cX4_commissionsForWall 16 = .ok (.iload_n 3, 1) := by decide +kernel
theorem dX4_commissionsForWall_17 : decode cX4_commissionsForWall 17 = .ok (.aaload, 1) := by decide +kernel
theorem dX4_commissionsForWall_18 : decode cX4_commissionsForWall 18 = .ok (.getfield 90, 3) := by decide +kernel
theorem dX4_commissionsForWall_21 : decode cX4_commissionsForWall 21 = .ok (.iload_n 1, 1) := by decide +kernel
theorem dX4_commissionsForWall_22 : decode cX4_commissionsForWall 22 = .ok (.if_icmp .ne 6, 3) := by decide +kernel
theorem dX4_commissionsForWall_25 : decode cX4_commissionsForWall 25 = .ok (.iinc 2 1, 3) := by decide +kernel
theorem dX4_commissionsForWall_28 : decode cX4_commissionsForWall 28 = .ok (.iinc 3 1, 3) := by decide +kernel
theorem dX4_commissionsForWall_31 : decode cX4_commissionsForWall 31 = .ok (.goto (-27), 3) := by decide +kernel
theorem dX4_commissionsForWall_34 : decode cX4_commissionsForWall 34 = .ok (.iload_n 2, 1) := by decide +kernel
theorem dX4_commissionsForWall_35 : decode cX4_commissionsForWall 35 = .ok (.ireturn, 1) := by decide +kernel
theorem dX4_declinationOfWall_0 : decode cX4_declinationOfWall 0 = .ok (.aload_n 0, 1) := by decide +kernel
theorem dX4_declinationOfWall_1 : decode cX4_declinationOfWall 1 = .ok (.iload_n 1, 1) := by decide +kernel
theorem dX4_declinationOfWall_2 : decode cX4_declinationOfWall 2 = .ok (.invokevirtual 80, 3) := by decide +kernel
theorem dX4_declinationOfWall_5 : decode cX4_declinationOfWall 5 = .ok (.ifCond .eq 21, 3) := by decide +kernel
theorem dX4_declinationOfWall_8 : decode cX4_declinationOfWall 8 = .ok (.aload_n 0, 1) := by decide +kernel
theorem dX4_declinationOfWall_9 : decode cX4_declinationOfWall 9 = .ok (.getfield 11, 3) := by decide +kernel
theorem dX4_declinationOfWall_12 : decode cX4_declinationOfWall 12 = .ok (.iload_n 1, 1) := by decide +kernel
theorem dX4_declinationOfWall_13 : decode cX4_declinationOfWall 13 = .ok (.aaload, 1) := by decide +kernel
theorem dX4_declinationOfWall_14 : decode cX4_declinationOfWall 14 = .ok (.aload_n 0, 1) := by decide +kernel
theorem dX4_declinationOfWall_15 : decode cX4_declinationOfWall 15 = .ok (.getfield 21, 3) := by decide +kernel
theorem dX4_declinationOfWall_18 : decode cX4_declinationOfWall 18 = .ok (.iconst 0, 1) := by decide +kernel
theorem dX4_declinationOfWall_19 : decode cX4_declinationOfWall 19 = .ok (.iaload, 1) := by decide +kernel
theorem dX4_declinationOfWall_20 : decode cX4_declinationOfWall 20 = .ok (.invokevirtual 84, 3) := by decide +kernel
theorem dX4_declinationOfWall_23 : decode cX4_declinationOfWall 23 = .ok (.ifCond .ne 6, 3) := by decide +kernel
theorem dX4_declinationOfWall_26 : decode cX4_declinationOfWall 26 = .ok (.ldc 73, 2) := by decide +kernel
theorem dX4_declinationOfWall_28 : decode cX4_declinationOfWall 28 = .ok (.ireturn, 1) := by decide +kernel
theorem dX4_declinationOfWall_29 : decode cX4_declinationOfWall 29 = .ok (.aload_n 0, 1) := by decide +kernel
theorem dX4_declinationOfWall_30 : decode cX4_declinationOfWall 30 = .ok (.getfield 11, 3) := by decide +kernel
theorem dX4_declinationOfWall_33 : decode cX4_declinationOfWall 33 = .ok (.iload_n 1, 1) := by decide +kernel
theorem dX4_declinationOfWall_34 : decode cX4_declinationOfWall 34 = .ok (.aaload, 1) := by decide +kernel
theorem dX4_declinationOfWall_35 : decode cX4_declinationOfWall 35 = .ok (.getfield 74, 3) := by decide +kernel
theorem dX4_declinationOfWall_38 : decode cX4_declinationOfWall 38 = .ok (.aload_n 0, 1) := by decide +kernel
theorem dX4_declinationOfWall_39 : decode cX4_declinationOfWall 39 = .ok (.getfield 11, 3) := by decide +kernel
theorem dX4_declinationOfWall_42 : decode cX4_declinationOfWall 42 = .ok (.iload_n 1, 1) := by decide +kernel
theorem dX4_declinationOfWall_43 : decode cX4_declinationOfWall 43 = .ok (.aaload, 1) := by decide +kernel
theorem dX4_declinationOfWall_44 : decode cX4_declinationOfWall 44 = .ok (.getfield 77, 3) := by decide +kernel
theorem dX4_declinationOfWall_47 : decode cX4_declinationOfWall 47 = .ok (.iadd, 1) := by decide +kernel
theorem dX4_declinationOfWall_48 : decode cX4_declinationOfWall 48 = .ok (.i2l, 1) := by decide +kernel
theorem dX4_declinationOfWall_49 : decode cX4_declinationOfWall 49 = .ok (.ldc2_w 137, 3) := by decide +kernel
theorem dX4_declinationOfWall_52 : decode cX4_declinationOfWall 52 = .ok (.invokestatic 139, 3) := by decide +kernel
theorem dX4_declinationOfWall_55 : decode cX4_declinationOfWall 55 = .ok (.l2i, 1) := by decide +kernel
theorem dX4_declinationOfWall_56 : decode cX4_declinationOfWall 56 = .ok (.ireturn, 1) := by decide +kernel
theorem dX4_declinationOfDial_0 : decode cX4_declinationOfDial 0 = .ok (.aload_n 0, 1) := by decide +kernel
theorem dX4_declinationOfDial_1 : decode cX4_declinationOfDial 1 = .ok (.iload_n 1, 1) := by decide +kernel
theorem dX4_declinationOfDial_2 : decode cX4_declinationOfDial 2 = .ok (.invokevirtual 111, 3) := by decide +kernel
theorem dX4_declinationOfDial_5 : decode cX4_declinationOfDial 5 = .ok (.ifCond .ne 6, 3) := by decide +kernel
theorem dX4_declinationOfDial_8 : decode cX4_declinationOfDial 8 = .ok (.ldc 73, 2) := by decide +kernel
theorem dX4_declinationOfDial_10 : decode cX4_declinationOfDial 10 = .ok (.ireturn, 1) := by decide +kernel
theorem dX4_declinationOfDial_11 : decode cX4_declinationOfDial 11 = .ok (.aload_n 0, 1) := by decide +kernel
theorem dX4_declinationOfDial_12 : decode cX4_declinationOfDial 12 = .ok (.getfield 26, 3) := by decide +kernel
theorem dX4_declinationOfDial_15 : decode cX4_declinationOfDial 15 = .ok (.iload_n 1, 1) := by decide +kernel
theorem dX4_declinationOfDial_16 : decode cX4_declinationOfDial 16 = .ok (.aaload, 1) := by decide +kernel
theorem dX4_declinationOfDial_17 : decode cX4_declinationOfDial 17 = .ok (.astore_n 2, 1) := by decide +kernel
theorem dX4_declinationOfDial_18 : decode cX4_declinationOfDial 18 = .ok (.aload_n 2, 1) := by decide +kernel
theorem dX4_declinationOfDial_19 : decode cX4_declinationOfDial 19 = .ok (.getfield 90, 3) := by decide +kernel
theorem dX4_declinationOfDial_22 : decode cX4_declinationOfDial 22 = .ok (.iconst (-1), 1) := by decide +kernel
theorem dX4_declinationOfDial_23 : decode cX4_declinationOfDial 23 = .ok (.if_icmp .ne 5, 3) := by decide +kernel
theorem dX4_declinationOfDial_26 : decode cX4_declinationOfDial 26 = .ok (.iconst 0, 1) := by decide +kernel
theorem dX4_declinationOfDial_27 : decode cX4_declinationOfDial 27 = .ok (.ireturn, 1) := by decide +kernel
theorem dX4_declinationOfDial_28 : decode cX4_declinationOfDial 28 = .ok (.aload_n 2, 1) := by decide +kernel
theorem dX4_declinationOfDial_29 : decode cX4_declinationOfDial 29 = .ok (.invokevirtual 143, 3) := by decide +kernel
theorem dX4_declinationOfDial_32 : decode cX4_declinationOfDial 32 = .ok (.ifCond .eq 14, 3) := by decide +kernel
theorem dX4_declinationOfDial_35 : decode cX4_declinationOfDial 35 = .ok (.aload_n 0, 1) := by decide +kernel
theorem dX4_declinationOfDial_36 : decode cX4_declinationOfDial 36 = .ok (.aload_n 2, 1) := by decide +kernel
theorem dX4_declinationOfDial_37 : decode cX4_declinationOfDial 37 = .ok (.getfield 90, 3) := by decide +kernel
theorem dX4_declinationOfDial_40 : decode cX4_declinationOfDial 40 = .ok (.invokevirtual 147, 3) := by decide +kernel
theorem dX4_declinationOfDial_43 : decode cX4_declinationOfDial 43 = .ok (.goto 7, 3) := by decide +kernel
theorem dX4_declinationOfDial_46 : decode cX4_declinationOfDial 46 = .ok (.aload_n 2, 1) := by decide +kernel
theorem dX4_declinationOfDial_47 : decode cX4_declinationOfDial 47 = .ok (.getfield 102, 3) := by decide +kernel
theorem dX4_declinationOfDial_50 : decode cX4_declinationOfDial 50 = .ok (.ireturn, 1) := by decide +kernel
theorem dX7_init_0 : decode cX7_init 0 = .ok (.aload_n 0, 1) := by decide +kernel
theorem dX7_init_1 : decode cX7_init 1 = .ok (.invokespecial 1, 3) := by decide +kernel
theorem dX7_init_4 : decode cX7_init 4 = .ok (.aload_n 0, 1) := by decide +kernel
theorem dX7_init_5 : decode cX7_init 5 = .ok (.new 7, 3) := by decide +kernel
theorem dX7_init_8 : decode cX7_init 8 = .ok (.dup, 1) := by decide +kernel
theorem dX7_init_9 : decode cX7_init 9 = .ok (.invokespecial 9, 3) := by decide +kernel
theorem dX7_init_12 : decode cX7_init 12 = .ok (.putfield 10, 3) := by decide +kernel
theorem dX7_init_15 : decode cX7_init 15 = .ok (.aload_n 0, 1) := by decide +kernel
theorem dX7_init_16 : decode cX7_init 16 = .ok (.new 16, 3) := by decide +kernel
theorem dX7_init_19 : decode cX7_init 19 = .ok (.dup, 1) := by decide +kernel
theorem dX7_init_20 : decode cX7_init 20 = .ok (.invokespecial 18, 3) := by decide +kernel
theorem dX7_init_23 : decode cX7_init 23 = .ok (.putfield 19, 3) := by decide +kernel
theorem dX7_init_26 : decode cX7_init 26 = .ok (.aload_n 0, 1) := by decide +kernel
theorem dX7_init_27 : decode cX7_init 27 = .ok (.new 23, 3) := by decide +kernel
theorem dX7_init_30 : decode cX7_init 30 = .ok (.dup, 1) := by decide +kernel
theorem dX7_init_31 : decode cX7_init 31 = .ok (.invokespecial 25, 3) := by decide +kernel
theorem dX7_init_34 : decode cX7_init 34 = .ok (.putfield 26, 3) := by decide +kernel
theorem dX7_init_37 : decode cX7_init 37 = .ok (.aload_n 0, 1) := by decide +kernel
theorem dX7_init_38 : decode cX7_init 38 = .ok (.new 30, 3) := by decide +kernel
theorem dX7_init_41 : decode cX7_init 41 = .ok (.dup, 1) := by decide +kernel
theorem dX7_init_42 : decode cX7_init 42 = .ok (.invokespecial 32, 3) := by decide +kernel
theorem dX7_init_45 : decode cX7_init 45 = .ok (.putfield 33, 3) := by decide +kernel
theorem dX7_init_48 : decode cX7_init 48 = .ok (.aload_n 0, 1) := by decide +kernel
theorem dX7_init_49 : decode cX7_init 49 = .ok (.aload_n 0, 1) := by decide +kernel
theorem dX7_init_50 : decode cX7_init 50 = .ok (.getfield 10, 3) := by decide +kernel
theorem dX7_init_53 : decode cX7_init 53 = .ok (.getfield 37, 3) := by decide +kernel
theorem dX7_init_56 : decode cX7_init 56 = .ok (.putfield 41, 3) := by decide +kernel
theorem dX7_init_59 : decode cX7_init 59 = .ok (.return_, 1) := by decide +kernel
theorem dX7_setCorrection_0 : decode cX7_setCorrection 0 = .ok (.aload_n 0, 1) := by decide +kernel
theorem dX7_setCorrection_1 : decode cX7_setCorrection 1 = .ok (.getfield 19, 3) := by decide +kernel
theorem dX7_setCorrection_4 : decode cX7_setCorrection 4 = .ok (.aload_n 0, 1) := by decide +kernel
theorem dX7_setCorrection_5 : decode cX7_setCorrection 5 = .ok (.getfield 10, 3) := by decide +kernel
theorem dX7_setCorrection_8 : decode cX7_setCorrection 8 = .ok (.invokevirtual 42, 3) := by decide +kernel
theorem dX7_setCorrection_11 : decode cX7_setCorrection 11 = .ok (.aload_n 0, 1) := by decide +kernel
theorem dX7_setCorrection_12 : decode cX7_setCorrection 12 = .ok (.aload_n 0, 1) := by decide +kernel
theorem dX7_setCorrection_13 : decode cX7_setCorrection 13 = .ok (.getfield 41, 3) := by decide +kernel
theorem dX7_setCorrection_16 : decode cX7_setCorrection 16 = .ok (.iload_n 1, 1) := by decide +kernel
theorem dX7_setCorrection_17 : decode cX7_setCorrection 17 = .ok (.iload_n 2, 1) := by decide +kernel
theorem dX7_setCorrection_18 : decode cX7_setCorrection 18 = .ok (.invokevirtual 46, 3) := by decide +kernel
theorem dX7_setCorrection_21 : decode cX7_setCorrection 21 = .ok (.invokevirtual 52, 3) := by decide +kernel
theorem dX7_setCorrection_24 : decode cX7_setCorrection 24 = .ok (.ireturn, 1) := by decide +kernel
theorem dX7_set_0 : decode cX7_set 0 = .ok (.aload_n 0, 1) := by decide +kernel
theorem dX7_set_1 : decode cX7_set 1 = .ok (.getfield 19, 3) := by decide +kernel
theorem dX7_set_4 : decode cX7_set 4 = .ok (.aload_n 0, 1) := by decide +kernel
theorem dX7_set_5 : decode cX7_set 5 = .ok (.getfield 10, 3) := by decide +kernel
theorem dX7_set_8 : decode cX7_set 8 = .ok (.invokevirtual 42, 3) := by decide +kernel
theorem dX7_set_11 : decode cX7_set 11 = .ok (.aload_n 0, 1) := by decide +kernel
theorem dX7_set_12 : decode cX7_set 12 = .ok (.aload_n 0, 1) := by decide +kernel
theorem dX7_set_13 : decode cX7_set 13 = .ok (.getfield 41, 3) := by decide +kernel
theorem dX7_set_16 : decode cX7_set 16 = .ok (.iload_n 1, 1) := by decide +kernel
theorem dX7_set_17 : decode cX7_set 17 = .ok (.iload_n 2, 1) := by decide +kernel
theorem dX7_set_18 : decode cX7_set 18 = .ok (.invokevirtual 56, 3) := by decide +kernel
theorem dX7_set_21 : decode cX7_set 21 = .ok (.invokevirtual 52, 3) := by decide +kernel
theorem dX7_set_24 : decode cX7_set 24 = .ok (.ireturn, 1) := by decide +kernel
theorem dX7_addWall_0 : decode cX7_addWall 0 = .ok (.aload_n 0, 1) := by decide +kernel
theorem dX7_addWall_1 : decode cX7_addWall 1 = .ok (.getfield 19, 3) := by decide +kernel
theorem dX7_addWall_4 : decode cX7_addWall 4 = .ok (.aload_n 0, 1) := by decide +kernel
theorem dX7_addWall_5 : decode cX7_addWall 5 = .ok (.getfield 10, 3) := by decide +kernel
theorem dX7_addWall_8 : decode cX7_addWall 8 = .ok (.invokevirtual 42, 3) := by decide +kernel
theorem dX7_addWall_11 : decode cX7_addWall 11 = .ok (.aload_n 0, 1) := by decide +kernel
theorem dX7_addWall_12 : decode cX7_addWall 12 = .ok (.aload_n 0, 1) := by decide +kernel
theorem dX7_addWall_13 : decode cX7_addWall 13 = .ok (.getfield 41, 3) := by decide +kernel
theorem dX7_addWall_16 : decode cX7_addWall 16 = .ok (.invokevirtual 59, 3) := by decide +kernel
theorem dX7_addWall_19 : decode cX7_addWall 19 = .ok (.invokevirtual 52, 3) := by decide +kernel
theorem dX7_addWall_22 : decode cX7_addWall 22 = .ok (.ireturn, 1) := by decide +kernel
theorem dX7_measure_0 : decode cX7_measure 0 = .ok (.aload_n 0, 1) := by decide +kernel
theorem dX7_measure_1 : decode cX7_measure 1 = .ok (.getfield 19, 3) := by decide +kernel
theorem dX7_measure_4 : decode cX7_measure 4 = .ok (.aload_n 0, 1) := by decide +kernel
theorem dX7_measure_5 : decode cX7_measure 5 = .ok (.getfield 10, 3) := by decide +kernel
theorem dX7_measure_8 : decode cX7_measure 8 = .ok (.invokevirtual 42, 3) := by decide +kernel
theorem dX7_measure_11 : decode cX7_measure 11 = .ok (.aload_n 0, 1) := by decide +kernel
theorem dX7_measure_12 : decode cX7_measure 12 = .ok (.aload_n 0, 1) := by decide +kernel
theorem dX7_measure_13 : decode cX7_measure 13 = .ok (.getfield 41, 3) := by decide +kernel
theorem dX7_measure_16 : decode cX7_measure 16 = .ok (.iload_n 1, 1) := by decide +kernel
theorem dX7_measure_17 : decode cX7_measure 17 = .ok (.iload_n 2, 1) := by decide +kernel
theorem dX7_measure_18 : decode cX7_measure 18 = .ok (.invokevirtual 63, 3) := by decide +kernel
theorem dX7_measure_21 : decode cX7_measure 21 = .ok (.invokevirtual 52, 3) := by decide +kernel
theorem dX7_measure_24 : decode cX7_measure 24 = .ok (.ireturn, 1) := by decide +kernel
theorem dX7_ask_0 : decode cX7_ask 0 = .ok (.aload_n 0, 1) := by decide +kernel
theorem dX7_ask_1 : decode cX7_ask 1 = .ok (.getfield 19, 3) := by decide +kernel
theorem dX7_ask_4 : decode cX7_ask 4 = .ok (.aload_n 0, 1) := by decide +kernel
theorem dX7_ask_5 : decode cX7_ask 5 = .ok (.getfield 10, 3) := by decide +kernel
theorem dX7_ask_8 : decode cX7_ask 8 = .ok (.invokevirtual 42, 3) := by decide +kernel
theorem dX7_ask_11 : decode cX7_ask 11 = .ok (.aload_n 0, 1) := by decide +kernel
theorem dX7_ask_12 : decode cX7_ask 12 = .ok (.aload_n 0, 1) := by decide +kernel
theorem dX7_ask_13 : decode cX7_ask 13 = .ok (.getfield 41, 3) := by decide +kernel
theorem dX7_ask_16 : decode cX7_ask 16 = .ok (.iload_n 1, 1) := by decide +kernel
theorem dX7_ask_17 : decode cX7_ask 17 = .ok (.iload_n 2, 1) := by decide +kernel
theorem dX7_ask_18 : decode cX7_ask 18 = .ok (.iload_n 3, 1) := by decide +kernel
theorem dX7_ask_19 : decode cX7_ask 19 = .ok (.iload 4, 2) := by decide +kernel
theorem dX7_ask_21 : decode cX7_ask 21 = .ok (.invokevirtual 66, 3) := by decide +kernel
theorem dX7_ask_24 : decode cX7_ask 24 = .ok (.invokevirtual 52, 3) := by decide +kernel
theorem dX7_ask_27 : decode cX7_ask 27 = .ok (.ireturn, 1) := by decide +kernel
theorem dX7_decide_0 : decode cX7_decide 0 = .ok (.aload_n 0, 1) := by decide +kernel
theorem dX7_decide_1 : decode cX7_decide 1 = .ok (.getfield 19, 3) := by decide +kernel
theorem dX7_decide_4 : decode cX7_decide 4 = .ok (.aload_n 0, 1) := by decide +kernel
theorem dX7_decide_5 : decode cX7_decide 5 = .ok (.getfield 10, 3) := by decide +kernel
theorem dX7_decide_8 : decode cX7_decide 8 = .ok (.invokevirtual 42, 3) := by decide +kernel
theorem dX7_decide_11 : decode cX7_decide 11 = .ok (.aload_n 0, 1) := by decide +kernel
theorem dX7_decide_12 : decode cX7_decide 12 = .ok (.aload_n 0, 1) := by decide +kernel
theorem dX7_decide_13 : decode cX7_decide 13 = .ok (.getfield 41, 3) := by decide +kernel
theorem dX7_decide_16 : decode cX7_decide 16 = .ok (.iload_n 1, 1) := by decide +kernel
theorem dX7_decide_17 : decode cX7_decide 17 = .ok (.aload_n 0, 1) := by decide +kernel
theorem dX7_decide_18 : decode cX7_decide 18 = .ok (.iload_n 1, 1) := by decide +kernel
theorem dX7_decide_19 : decode cX7_decide 19 = .ok (.invokevirtual 70, 3) := by decide +kernel
theorem dX7_decide_22 : decode cX7_decide 22 = .ok (.invokevirtual 73, 3) := by decide +kernel
theorem dX7_decide_25 : decode cX7_decide 25 = .ok (.invokevirtual 52, 3) := by decide +kernel
theorem dX7_decide_28 : decode cX7_decide 28 = .ok (.ireturn, 1) := by decide +kernel
theorem dX7_askAgain_0 : decode cX7_askAgain 0 = .ok (.aload_n 0, 1) := by decide +kernel
theorem dX7_askAgain_1 : decode cX7_askAgain 1 = .ok (.getfield 19, 3) := by decide +kernel
theorem dX7_askAgain_4 : decode cX7_askAgain 4 = .ok (.aload_n 0, 1) := by decide +kernel
theorem dX7_askAgain_5 : decode cX7_askAgain 5 = .ok (.getfield 10, 3) := by decide +kernel
theorem dX7_askAgain_8 : decode cX7_askAgain 8 = .ok (.invokevirtual 42, 3) := by decide +kernel
theorem dX7_askAgain_11 : decode cX7_askAgain 11 = .ok (.aload_n 0, 1) := by decide +kernel
theorem dX7_askAgain_12 : decode cX7_askAgain 12 = .ok (.aload_n 0, 1) := by decide +kernel
theorem dX7_askAgain_13 : decode cX7_askAgain 13 = .ok (.getfield 41, 3) := by decide +kernel
theorem dX7_askAgain_16 : decode cX7_askAgain 16 = .ok (.iload_n 1, 1) := by decide +kernel
theorem dX7_askAgain_17 : decode cX7_askAgain 17 = .ok (.aload_n 0, 1) := by decide +kernel
theorem dX7_askAgain_18 : decode cX7_askAgain 18 = .ok (.iload_n 1, 1) := by decide +kernel
theorem dX7_askAgain_19 : decode cX7_askAgain 19 = .ok (.invokevirtual 70, 3) := by decide +kernel
theorem dX7_askAgain_22 : decode cX7_askAgain 22 = .ok (.invokevirtual 76, 3) := by decide +kernel
theorem dX7_askAgain_25 : decode cX7_askAgain 25 = .ok (.invokevirtual 52, 3) := by decide +kernel
theorem dX7_askAgain_28 : decode cX7_askAgain 28 = .ok (.ireturn, 1) := by decide +kernel
theorem dX7_cast_0 : decode cX7_cast 0 = .ok (.aload_n 0, 1) := by decide +kernel
theorem dX7_cast_1 : decode cX7_cast 1 = .ok (.getfield 19, 3) := by decide +kernel
theorem dX7_cast_4 : decode cX7_cast 4 = .ok (.aload_n 0, 1) := by decide +kernel
theorem dX7_cast_5 : decode cX7_cast 5 = .ok (.getfield 10, 3) := by decide +kernel
theorem dX7_cast_8 : decode cX7_cast 8 = .ok (.invokevirtual 42, 3) := by decide +kernel
theorem dX7_cast_11 : decode cX7_cast 11 = .ok (.aload_n 0, 1) := by decide +kernel
theorem dX7_cast_12 : decode cX7_cast 12 = .ok (.aload_n 0, 1) := by decide +kernel
theorem dX7_cast_13 : decode cX7_cast 13 = .ok (.getfield 41, 3) := by decide +kernel
theorem dX7_cast_16 : decode cX7_cast 16 = .ok (.invokevirtual 79, 3) := by decide +kernel
theorem dX7_cast_19 : decode cX7_cast 19 = .ok (.invokevirtual 52, 3) := by decide +kernel
theorem dX7_cast_22 : decode cX7_cast 22 = .ok (.ireturn, 1) := by decide +kernel
theorem dX7_deliver_0 : decode cX7_deliver 0 = .ok (.aload_n 0, 1) := by decide +kernel
theorem dX7_deliver_1 : decode cX7_deliver 1 = .ok (.getfield 19, 3) := by decide +kernel
theorem dX7_deliver_4 : decode cX7_deliver 4 = .ok (.aload_n 0, 1) := by decide +kernel
theorem dX7_deliver_5 : decode cX7_deliver 5 = .ok (.getfield 10, 3) := by decide +kernel
theorem dX7_deliver_8 : decode cX7_deliver 8 = .ok (.invokevirtual 42, 3) := by decide +kernel
theorem dX7_deliver_11 : decode cX7_deliver 11 = .ok (.aload_n 0, 1) := by decide +kernel
theorem dX7_deliver_12 : decode cX7_deliver 12 = .ok (.aload_n 0, 1) := by decide +kernel
theorem dX7_deliver_13 : decode cX7_deliver 13 = .ok (.getfield 41, 3) := by decide +kernel
theorem dX7_deliver_16 : decode cX7_deliver 16 = .ok (.iload_n 1, 1) := by decide +kernel
theorem dX7_deliver_17 : decode cX7_deliver 17 = .ok (.invokevirtual 82, 3) := by decide +kernel
theorem dX7_deliver_20 : decode cX7_deliver 20 = .ok (.invokevirtual 52, 3) := by decide +kernel
theorem dX7_deliver_23 : decode cX7_deliver 23 = .ok (.ireturn, 1) := by decide +kernel
theorem dX7_take_0 : decode cX7_take 0 = .ok (.aload_n 0, 1) := by decide +kernel
theorem dX7_take_1 : decode cX7_take 1 = .ok (.getfield 19, 3) := by decide +kernel
theorem dX7_take_4 : decode cX7_take 4 = .ok (.aload_n 0, 1) := by decide +kernel
theorem dX7_take_5 : decode cX7_take 5 = .ok (.getfield 10, 3) := by decide +kernel
theorem dX7_take_8 : decode cX7_take 8 = .ok (.invokevirtual 42, 3) := by decide +kernel
theorem dX7_take_11 : decode cX7_take 11 = .ok (.aload_n 0, 1) := by decide +kernel
theorem dX7_take_12 : decode cX7_take 12 = .ok (.aload_n 0, 1) := by decide +kernel
theorem dX7_take_13 : decode cX7_take 13 = .ok (.getfield 10, 3) := by decide +kernel
theorem dX7_take_16 : decode cX7_take 16 = .ok (.iload_n 1, 1) := by decide +kernel
theorem dX7_take_17 : decode cX7_take 17 = .ok (.invokevirtual 85, 3) := by decide +kernel
theorem dX7_take_20 : decode cX7_take 20 = .ok (.invokevirtual 52, 3) := by decide +kernel
theorem dX7_take_23 : decode cX7_take 23 = .ok (.ireturn, 1) := by decide +kernel
theorem dX7_restore_0 : decode cX7_restore 0 = .ok (.aload_n 0, 1) := by decide +kernel
theorem dX7_restore_1 : decode cX7_restore 1 = .ok (.getfield 19, 3) := by decide +kernel
theorem dX7_restore_4 : decode cX7_restore 4 = .ok (.aload_n 0, 1) := by decide +kernel
theorem dX7_restore_5 : decode cX7_restore 5 = .ok (.getfield 10, 3) := by decide +kernel
theorem dX7_restore_8 : decode cX7_restore 8 = .ok (.invokevirtual 42, 3) := by decide +kernel
theorem dX7_restore_11 : decode cX7_restore 11 = .ok (.aload_n 0, 1) := by decide +kernel
theorem dX7_restore_12 : decode cX7_restore 12 = .ok (.aload_n 0, 1) := by decide +kernel
theorem dX7_restore_13 : decode cX7_restore 13 = .ok (.getfield 10, 3) := by decide +kernel
theorem dX7_restore_16 : decode cX7_restore 16 = .ok (.iload_n 1, 1) := by decide +kernel
theorem dX7_restore_17 : decode cX7_restore 17 = .ok (.invokevirtual 88, 3) := by decide +kernel
theorem dX7_restore_20 : decode cX7_restore 20 = .ok (.invokevirtual 52, 3) := by decide +kernel
theorem dX7_restore_23 : decode cX7_restore 23 = .ok (.ireturn, 1) := by decide +kernel
theorem dX7_undo_0 : decode cX7_undo 0 = .ok (.aload_n 0, 1) := by decide +kernel
theorem dX7_undo_1 : decode cX7_undo 1 = .ok (.getfield 19, 3) := by decide +kernel
theorem dX7_undo_4 : decode cX7_undo 4 = .ok (.getfield 91, 3) := by decide +kernel
theorem dX7_undo_7 : decode cX7_undo 7 = .ok (.ifCond .ne 6, 3) := by decide +kernel
theorem dX7_undo_10 : decode cX7_undo 10 = .ok (.ldc 95, 2) := by decide +kernel
theorem dX7_undo_12 : decode cX7_undo 12 = .ok (.ireturn, 1) := by decide +kernel
theorem dX7_undo_13 : decode cX7_undo 13 = .ok (.aload_n 0, 1) := by decide +kernel
theorem dX7_undo_14 : decode cX7_undo 14 = .ok (.getfield 19, 3) := by decide +kernel
theorem dX7_undo_17 : decode cX7_undo 17 = .ok (.aload_n 0, 1) := by decide +kernel
theorem dX7_undo_18 : decode cX7_undo 18 = .ok (.getfield 10, 3) := by decide +kernel
theorem dX7_undo_21 : decode cX7_undo 21 = .ok (.invokevirtual 96, 3) := by decide +kernel
theorem dX7_undo_24 : decode cX7_undo 24 = .ok (.aload_n 0, 1) := by decide +kernel
theorem dX7_undo_25 : decode cX7_undo 25 = .ok (.getfield 19, 3) := by decide +kernel
theorem dX7_undo_28 : decode cX7_undo 28 = .ok (.getfield 91, 3) := by decide +kernel
theorem dX7_undo_31 : decode cX7_undo 31 = .ok (.ireturn, 1) := by decide +kernel
theorem dX7_append_0 : decode cX7_append 0 = .ok (.aload_n 0, 1) := by decide +kernel
theorem dX7_append_1 : decode cX7_append 1 = .ok (.getfield 26, 3) := by decide +kernel
theorem dX7_append_4 : decode cX7_append 4 = .ok (.iload_n 1, 1) := by decide +kernel
theorem dX7_append_5 : decode cX7_append 5 = .ok (.invokevirtual 99, 3) := by decide +kernel
theorem dX7_append_8 : decode cX7_append 8 = .ok (.ireturn, 1) := by decide +kernel
theorem dX7_clearText_0 : decode cX7_clearText 0 = .ok (.aload_n 0, 1) := by decide +kernel
theorem dX7_clearText_1 : decode cX7_clearText 1 = .ok (.getfield 26, 3) := by decide +kernel
theorem dX7_clearText_4 : decode cX7_clearText 4 = .ok (.invokevirtual 102, 3) := by decide +kernel
theorem dX7_clearText_7 : decode cX7_clearText 7 = .ok (.ireturn, 1) := by decide +kernel
theorem dX7_run_0 : decode cX7_run 0 = .ok (.aload_n 0, 1) := by decide +kernel
theorem dX7_run_1 : decode cX7_run 1 = .ok (.getfield 19, 3) := by decide +kernel
theorem dX7_run_4 : decode cX7_run 4 = .ok (.aload_n 0, 1) := by decide +kernel
theorem dX7_run_5 : decode cX7_run 5 = .ok (.getfield 10, 3) := by decide +kernel
theorem dX7_run_8 : decode cX7_run 8 = .ok (.invokevirtual 42, 3) := by decide +kernel
theorem dX7_run_11 : decode cX7_run 11 = .ok (.aload_n 0, 1) := by decide +kernel
theorem dX7_run_12 : decode cX7_run 12 = .ok (.getfield 26, 3) := by decide +kernel
theorem dX7_run_15 : decode cX7_run 15 = .ok (.invokevirtual 105, 3) := by decide +kernel
theorem dX7_run_18 : decode cX7_run 18 = .ok (.iconst 0, 1) := by decide +kernel
theorem dX7_run_19 : decode cX7_run 19 = .ok (.istore_n 1, 1) := by decide +kernel
theorem dX7_run_20 : decode cX7_run 20 = .ok (.iload_n 1, 1) := by decide +kernel
theorem dX7_run_21 : decode cX7_run 21 = .ok (.sipush 140, 3) := by decide +kernel
theorem dX7_run_24 : decode cX7_run 24 = .ok (.if_icmp .ge 69, 3) := by decide +kernel
theorem dX7_run_27 : decode cX7_run 27 = .ok (.aload_n 0, 1) := by decide +kernel
theorem dX7_run_28 : decode cX7_run 28 = .ok (.getfield 26, 3) := by decide +kernel
theorem dX7_run_31 : decode cX7_run 31 = .ok (.invokevirtual 108, 3) := by decide +kernel
theorem dX7_run_34 : decode cX7_run 34 = .ok (.ifCond .eq 59, 3) := by decide +kernel
theorem dX7_run_37 : decode cX7_run 37 = .ok (.aload_n 0, 1) := by decide +kernel
theorem dX7_run_38 : decode cX7_run 38 = .ok (.getfield 26, 3) := by decide +kernel
theorem dX7_run_41 : decode cX7_run 41 = .ok (.getfield 112, 3) := by decide +kernel
theorem dX7_run_44 : decode cX7_run 44 = .ok (.istore_n 2, 1) := by decide +kernel
theorem dX7_run_45 : decode cX7_run 45 = .ok (.aload_n 0, 1) := by decide +kernel
theorem dX7_run_46 : decode cX7_run 46 = .ok (.getfield 26, 3) := by decide +kernel
theorem dX7_run_49 : decode cX7_run 49 = .ok (.invokevirtual 115, 3) := by decide +kernel
theorem dX7_run_52 : decode cX7_run 52 = .ok (.istore_n 3, 1) := by decide +kernel
theorem dX7_run_53 : decode cX7_run 53 = .ok (.iload_n 3, 1) := by decide +kernel
theorem dX7_run_54 : decode cX7_run 54 = .ok (.iconst (-1), 1) := by decide +kernel
theorem dX7_run_55 : decode cX7_run 55 = .ok (.if_icmp .ne 15, 3) := by decide +kernel
theorem dX7_run_58 : decode cX7_run 58 = .ok (.aload_n 0, 1) := by decide +kernel
theorem dX7_run_59 : decode cX7_run 59 = .ok (.aload_n 0, 1) := by decide +kernel
theorem dX7_run_60 : decode cX7_run 60 = .ok (.getfield 26, 3) := by decide +kernel
theorem dX7_run_63 : decode cX7_run 63 = .ok (.getfield 112, 3) := by decide +kernel
theorem dX7_run_66 : decode cX7_run 66 = .ok (.invokevirtual 118, 3) := by decide +kernel
theorem dX7_run_69 : decode cX7_run 69 = .ok (.ireturn, 1) := by decide +kernel
theorem dX7_run_70 : decode cX7_run 70 = .ok (.aload_n 0, 1) := by decide +kernel
theorem dX7_run_71 : decode cX7_run 71 = .ok (.iload_n 3, 1) := by decide +kernel
theorem dX7_run_72 : decode cX7_run 72 = .ok (.invokevirtual 121, 3) := by decide +kernel
theorem dX7_run_75 : decode cX7_run 75 = .ok (.invokestatic 124, 3) := by decide +kernel
theorem dX7_run_78 : decode cX7_run 78 = .ok (.ifCond .eq 9, 3) := by decide +kernel
theorem dX7_run_81 : decode cX7_run 81 = .ok (.aload_n 0, 1) := by decide +kernel
theorem dX7_run_82 : decode cX7_run 82 = .ok (.iload_n 2, 1) := by decide +kernel
theorem dX7_run_83 : decode cX7_run 83 = .ok (.invokevirtual 118, 3) := by decide +kernel
theorem dX7_run_86 : decode cX7_run 86 = .ok (.ireturn, 1) := by decide +kernel
theorem dX7_run_87 : decode cX7_run 87 = .ok (.iinc 1 1, 3) := by decide +kernel
theorem dX7_run_90 : decode cX7_run 90 = .ok (.goto (-70), 3) := by decide +kernel
theorem dX7_run_93 : decode cX7_run 93 = .ok (.aload_n 0, 1) := by decide +kernel
theorem dX7_run_94 : decode cX7_run 94 = .ok (.getfield 19, 3) := by decide +kernel
theorem dX7_run_97 : decode cX7_run 97 = .ok (.invokevirtual 128, 3) := by decide +kernel
theorem dX7_run_100 : decode cX7_run 100 = .ok (.aload_n 0, 1) := by decide +kernel
theorem dX7_run_101 : decode cX7_run 101 = .ok (.getfield 26, 3) := by decide +kernel
theorem dX7_run_104 : decode cX7_run 104 = .ok (.invokevirtual 102, 3) := by decide +kernel
theorem dX7_run_107 : decode cX7_run 107 = .ok (.pop, 1) := by decide +kernel
theorem dX7_run_108 : decode cX7_run 108 = .ok (.iload_n 1, 1) := by decide +kernel
theorem dX7_run_109 : decode cX7_run 109 = .ok (.ireturn, 1) := by decide +kernel
theorem dX7_count_0 : decode cX7_count 0 = .ok (.iload_n 1, 1) := by decide +kernel
theorem dX7_count_1 : decode cX7_count 1 = .ok (.tableswitch 171 0 16 #[83, 91, 99, 107, 107, 107, 107, 107, 118, 126, 134, 142, 150, 158, 158, 158, 158], 83) := by decide +kernel
theorem dX7_count_84 : decode cX7_count 84 = .ok (.aload_n 0, 1) := by decide +kernel
theorem dX7_count_85 : decode cX7_count 85 = .ok (.getfield 41, 3) := by decide +kernel
theorem dX7_count_88 : decode cX7_count 88 = .ok (.getfield 131, 3) := by decide +kernel
theorem dX7_count_91 : decode cX7_count 91 = .ok (.ireturn, 1) := by decide +kernel
theorem dX7_count_92 : decode cX7_count 92 = .ok (.aload_n 0, 1) := by decide +kernel
theorem dX7_count_93 : decode cX7_count 93 = .ok (.getfield 41, 3) := by decide +kernel
theorem dX7_count_96 : decode cX7_count 96 = .ok (.invokevirtual 134, 3) := by decide +kernel
theorem dX7_count_99 : decode cX7_count 99 = .ok (.ireturn, 1) := by decide +kernel
theorem dX7_count_100 : decode cX7_count 100 = .ok (.aload_n 0, 1) := by decide +kernel
theorem dX7_count_101 : decode cX7_count 101 = .ok (.getfield 41, 3) := by decide +kernel
theorem dX7_count_104 : decode cX7_count 104 = .ok (.getfield 137, 3) := by decide +kernel
theorem dX7_count_107 : decode cX7_count 107 = .ok (.ireturn, 1) := by decide +kernel
theorem dX7_count_108 : decode cX7_count 108 = .ok (.aload_n 0, 1) := by decide +kernel
theorem dX7_count_109 : decode cX7_count 109 = .ok (.getfield 41, 3) := by decide +kernel
theorem dX7_count_112 : decode cX7_count 112 = .ok (.iload_n 1, 1) := by decide +kernel
theorem dX7_count_113 : decode cX7_count 113 = .ok (.iconst 3, 1) := by decide +kernel
theorem dX7_count_114 : decode cX7_count 114 = .ok (.isub, 1) := by decide +kernel
theorem dX7_count_115 : decode cX7_count 115 = .ok (.invokevirtual 140, 3) := by decide +kernel
theorem dX7_count_118 : decode cX7_count 118 = .ok (.ireturn, 1) := by decide +kernel
theorem dX7_count_119 : decode cX7_count 119 = .ok (.aload_n 0, 1) := by decide +kernel
theorem dX7_count_120 : decode cX7_count 120 = .ok (.getfield 41, 3) := by decide +kernel
theorem dX7_count_123 : decode cX7_count 123 = .ok (.getfield 143, 3) := by decide +kernel
theorem dX7_count_126 : decode cX7_count 126 = .ok (.ireturn, 1) := by decide +kernel
theorem dX7_count_127 : decode cX7_count 127 = .ok (.aload_n 0, 1) := by decide +kernel
theorem dX7_count_128 : decode cX7_count 128 = .ok (.getfield 41, 3) := by decide +kernel
theorem dX7_count_131 : decode cX7_count 131 = .ok (.getfield 146, 3) := by decide +kernel
theorem dX7_count_134 : decode cX7_count 134 = .ok (.ireturn, 1) := by decide +kernel
theorem dX7_count_135 : decode cX7_count 135 = .ok (.aload_n 0, 1) := by decide +kernel
theorem dX7_count_136 : decode cX7_count 136 = .ok (.getfield 10, 3) := by decide +kernel
theorem dX7_count_139 : decode cX7_count 139 = .ok (.invokevirtual 149, 3) := by decide +kernel
theorem dX7_count_142 : decode cX7_count 142 = .ok (.ireturn, 1) := by decide +kernel
theorem dX7_count_143 : decode cX7_count 143 = .ok (.aload_n 0, 1) := by decide +kernel
theorem dX7_count_144 : decode cX7_count 144 = .ok (.getfield 19, 3) := by decide +kernel
theorem dX7_count_147 : decode cX7_count 147 = .ok (.getfield 91, 3) := by decide +kernel
theorem dX7_count_150 : decode cX7_count 150 = .ok (.ireturn, 1) := by decide +kernel
theorem dX7_count_151 : decode cX7_count 151 = .ok (.aload_n 0, 1) := by decide +kernel
theorem dX7_count_152 : decode cX7_count 152 = .ok (.getfield 26, 3) := by decide +kernel
theorem dX7_count_155 : decode cX7_count 155 = .ok (.getfield 152, 3) := by decide +kernel
theorem dX7_count_158 : decode cX7_count 158 = .ok (.ireturn, 1) := by decide +kernel
theorem dX7_count_159 : decode cX7_count 159 = .ok (.aload_n 0, 1) := by decide +kernel
theorem dX7_count_160 : decode cX7_count 160 = .ok (.getfield 41, 3) := by decide +kernel
theorem dX7_count_163 : decode cX7_count 163 = .ok (.getfield 155, 3) := by decide +kernel
theorem dX7_count_166 : decode cX7_count 166 = .ok (.iload_n 1, 1) := by decide +kernel
theorem dX7_count_167 : decode cX7_count 167 = .ok (.bipush 13, 2) := by decide +kernel
theorem dX7_count_169 : decode cX7_count 169 = .ok (.isub, 1) := by decide +kernel
theorem dX7_count_170 : decode cX7_count 170 = .ok (.iaload, 1) := by decide +kernel
theorem dX7_count_171 : decode cX7_count 171 = .ok (.ireturn, 1) := by decide +kernel
theorem dX7_count_172 : decode cX7_count 172 = .ok (.ldc 159, 2) := by decide +kernel
theorem dX7_count_174 : decode cX7_count 174 = .ok (.ireturn, 1) := by decide +kernel
theorem dX7_wall_0 : decode cX7_wall 0 = .ok (.aload_n 0, 1) := by decide +kernel
theorem dX7_wall_1 : decode cX7_wall 1 = .ok (.getfield 41, 3) := by decide +kernel
theorem dX7_wall_4 : decode cX7_wall 4 = .ok (.iload_n 1, 1) := by decide +kernel
theorem dX7_wall_5 : decode cX7_wall 5 = .ok (.invokevirtual 160, 3) := by decide +kernel
theorem dX7_wall_8 : decode cX7_wall 8 = .ok (.ifCond .ne 6, 3) := by decide +kernel
theorem dX7_wall_11 : decode cX7_wall 11 = .ok (.ldc 159, 2) := by decide +kernel
theorem dX7_wall_13 : decode cX7_wall 13 = .ok (.ireturn, 1) := by decide +kernel
theorem dX7_wall_14 : decode cX7_wall 14 = .ok (.iload_n 2, 1) := by decide +kernel
theorem dX7_wall_15 : decode cX7_wall 15 = .ok (.tableswitch 73 0 3 #[29, 42, 55, 64], 29) := by decide +kernel
theorem dX7_wall_44 : decode cX7_wall 44 = .ok (.aload_n 0, 1) := by decide +kernel
theorem dX7_wall_45 : decode cX7_wall 45 = .ok (.getfield 41, 3) := by decide +kernel
theorem dX7_wall_48 : decode cX7_wall 48 = .ok (.getfield 163, 3) := by decide +kernel
theorem dX7_wall_51 : decode cX7_wall 51 = .ok (.iload_n 1, 1) := by decide +kernel
theorem dX7_wall_52 : decode cX7_wall 52 = .ok (.aaload, 1) := by decide +kernel
theorem dX7_wall_53 : decode cX7_wall 53 = .ok (.getfield 167, 3) := by decide +kernel
theorem dX7_wall_56 : decode cX7_wall 56 = .ok (.ireturn, 1) := by decide +kernel
theorem dX7_wall_57 : decode cX7_wall 57 = .ok (.aload_n 0, 1) := by decide +kernel
theorem dX7_wall_58 : decode cX7_wall 58 = .ok (.getfield 41, 3) := by decide +kernel
theorem dX7_wall_61 : decode cX7_wall 61 = .ok (.getfield 163, 3) := by decide +kernel
theorem dX7_wall_64 : decode cX7_wall 64 = .ok (.iload_n 1, 1) := by decide +kernel
theorem dX7_wall_65 : decode cX7_wall 65 = .ok (.aaload, 1) := by decide +kernel
theorem dX7_wall_66 : decode cX7_wall 66 = .ok (.getfield 172, 3) := by decide +kernel
theorem dX7_wall_69 : decode cX7_wall 69 = .ok (.ireturn, 1) := by decide +kernel
theorem dX7_wall_70 : decode cX7_wall 70 = .ok (.aload_n 0, 1) := by decide +kernel
theorem dX7_wall_71 : decode cX7_wall 71 = .ok (.getfield 41, 3) := by decide +kernel
theorem dX7_wall_74 : decode cX7_wall 74 = .ok (.iload_n 1, 1) := by decide +kernel
theorem dX7_wall_75 : decode cX7_wall 75 = .ok (.invokevirtual 175, 3) := by decide +kernel
theorem dX7_wall_78 : decode cX7_wall 78 = .ok (.ireturn, 1) := by decide +kernel
theorem dX7_wall_79 : decode cX7_wall 79 = .ok (.aload_n 0, 1) := by decide +kernel
theorem dX7_wall_80 : decode cX7_wall 80 = .ok (.getfield 41, 3) := by decide +kernel
theorem dX7_wall_83 : decode cX7_wall 83 = .ok (.iload_n 1, 1) := by decide +kernel
theorem dX7_wall_84 : decode cX7_wall 84 = .ok (.invokevirtual 178, 3) := by decide +kernel
theorem dX7_wall_87 : decode cX7_wall 87 = .ok (.ireturn, 1) := by decide +kernel
theorem dX7_wall_88 : decode cX7_wall 88 = .ok (.ldc 159, 2) := by decide +kernel
theorem dX7_wall_90 : decode cX7_wall 90 = .ok (.ireturn, 1) := by decide +kernel
theorem dX7_commission_0 : decode cX7_commission 0 = .ok (.aload_n 0, 1) := by decide +kernel
theorem dX7_commission_1 : decode cX7_commission 1 = .ok (.getfield 41, 3) := by decide +kernel
theorem dX7_commission_4 : decode cX7_commission 4 = .ok (.iload_n 1, 1) := by decide +kernel
theorem dX7_commission_5 : decode cX7_commission 5 = .ok (.invokevirtual 181, 3) := by decide +kernel
theorem dX7_commission_8 : decode cX7_commission 8 = .ok (.ifCond .ne 6, 3) := by decide +kernel
theorem dX7_commission_11 : decode cX7_commission 11 = .ok (.ldc 159, 2) := by decide +kernel
theorem dX7_commission_13 : decode cX7_commission 13 = .ok (.ireturn, 1) := by decide +kernel
theorem dX7_commission_14 : decode cX7_commission 14 = .ok (.aload_n 0, 1) := by decide +kernel
theorem dX7_commission_15 : decode cX7_commission 15 = .ok (.getfield 41, 3) := by decide +kernel
theorem dX7_commission_18 : decode cX7_commission 18 = .ok (.getfield 184, 3) := by decide +kernel
theorem dX7_commission_21 : decode cX7_commission 21 = .ok (.iload_n 1, 1) := by decide +kernel
theorem dX7_commission_22 : decode cX7_commission 22 = .ok (.aaload, 1) := by decide +kernel
theorem dX7_commission_23 : decode cX7_commission 23 = .ok (.astore_n 3, 1) := by decide +kernel
theorem dX7_commission_24 : decode cX7_commission 24 = .ok (.iload_n 2, 1) := by decide +kernel
theorem dX7_commission_25 : decode cX7_commission 25 = .ok (.tableswitch 100 0 8 #[51, 56, 61, 66, 71, 76, 85, 90, 95], 51) := by decide +kernel
theorem dX7_commission_76 : decode cX7_commission 76 = .ok (.aload_n 3, 1) := by decide +kernel
theorem dX7_commission_77 : decode cX7_commission 77 = .ok (.getfield 188, 3) := by decide +kernel
theorem dX7_commission_80 : decode cX7_commission 80 = .ok (.ireturn, 1) := by decide +kernel
theorem dX7_commission_81 : decode cX7_commission 81 = .ok (.aload_n 3, 1) := by decide +kernel
theorem dX7_commission_82 : decode cX7_commission 82 = .ok (.getfield 193, 3) := by decide +kernel
theorem dX7_commission_85 : decode cX7_commission 85 = .ok (.ireturn, 1) := by decide +kernel
theorem dX7_commission_86 : decode cX7_commission 86 = .ok (.aload_n 3, 1) := by decide +kernel
theorem dX7_commission_87 : decode cX7_commission 87 = .ok (.getfield 196, 3) := by decide +kernel
theorem dX7_commission_90 : decode cX7_commission 90 = .ok (.ireturn, 1) := by decide +kernel
theorem dX7_commission_91 : decode cX7_commission 91 = .ok (.aload_n 3, 1) := by decide +kernel
theorem dX7_commission_92 : decode cX7_commission 92 = .ok (.getfield 199, 3) := by decide +kernel
theorem dX7_commission_95 : decode cX7_commission 95 = .ok (.ireturn, 1) := by decide +kernel
theorem dX7_commission_96 : decode cX7_commission 96 = .ok (.aload_n 3, 1) := by decide +kernel
theorem dX7_commission_97 : decode cX7_commission 97 = .ok (.getfield 202, 3) := by decide +kernel
theorem dX7_commission_100 : decode cX7_commission 100 = .ok (.ireturn, 1) := by decide +kernel
theorem dX7_commission_101 : decode cX7_commission 101 = .ok (.aload_n 0, 1) := by decide +kernel
theorem dX7_commission_102 : decode cX7_commission 102 = .ok (.getfield 41, 3) := by decide +kernel
theorem dX7_commission_105 : decode cX7_commission 105 = .ok (.iload_n 1, 1) := by decide +kernel
theorem dX7_commission_106 : decode cX7_commission 106 = .ok (.invokevirtual 204, 3) := by decide +kernel
theorem dX7_commission_109 : decode cX7_commission 109 = .ok (.ireturn, 1) := by decide +kernel
theorem dX7_commission_110 : decode cX7_commission 110 = .ok (.aload_n 3, 1) := by decide +kernel
theorem dX7_commission_111 : decode cX7_commission 111 = .ok (.invokevirtual 207, 3) := by decide +kernel
theorem dX7_commission_114 : decode cX7_commission 114 = .ok (.ireturn, 1) := by decide +kernel
theorem dX7_commission_115 : decode cX7_commission 115 = .ok (.aload_n 3, 1) := by decide +kernel
theorem dX7_commission_116 : decode cX7_commission 116 = .ok (.getfield 210, 3) := by decide +kernel
theorem dX7_commission_119 : decode cX7_commission 119 = .ok (.ireturn, 1) := by decide +kernel
theorem dX7_commission_120 : decode cX7_commission 120 = .ok (.aload_n 3, 1) := by decide +kernel
theorem dX7_commission_121 : decode cX7_commission 121 = .ok (.getfield 213, 3) := by decide +kernel
theorem dX7_commission_124 : decode cX7_commission 124 = .ok (.ireturn, 1) := by decide +kernel
theorem dX7_commission_125 : decode cX7_commission 125 = .ok (.ldc 159, 2) := by decide +kernel
theorem dX7_commission_127 : decode cX7_commission 127 = .ok (.ireturn, 1) := by decide +kernel
theorem dX7_correction_0 : decode cX7_correction 0 = .ok (.iload_n 1, 1) := by decide +kernel
theorem dX7_correction_1 : decode cX7_correction 1 = .ok (.iconst 0, 1) := by decide +kernel
theorem dX7_correction_2 : decode cX7_correction 2 = .ok (.bipush 11, 2) := by decide +kernel
theorem dX7_correction_4 : decode cX7_correction 4 = .ok (.invokestatic 216, 3) := by decide +kernel
theorem dX7_correction_7 : decode cX7_correction 7 = .ok (.ifCond .ne 6, 3) := by decide +kernel
theorem dX7_correction_10 : decode cX7_correction 10 = .ok (.ldc 159, 2) := by decide +kernel
theorem dX7_correction_12 : decode cX7_correction 12 = .ok (.ireturn, 1) := by decide +kernel
theorem dX7_correction_13 : decode cX7_correction 13 = .ok (.aload_n 0, 1) := by decide +kernel
theorem dX7_correction_14 : decode cX7_correction 14 = .ok (.getfield 41, 3) := by decide +kernel
theorem dX7_correction_17 : decode cX7_correction 17 = .ok (.getfield 220, 3) := by decide +kernel
theorem dX7_correction_20 : decode cX7_correction 20 = .ok (.iload_n 1, 1) := by decide +kernel
theorem dX7_correction_21 : decode cX7_correction 21 = .ok (.iaload, 1) := by decide +kernel
theorem dX7_correction_22 : decode cX7_correction 22 = .ok (.ireturn, 1) := by decide +kernel
theorem dX7_sine_0 : decode cX7_sine 0 = .ok (.iload_n 1, 1) := by decide +kernel
theorem dX7_sine_1 : decode cX7_sine 1 = .ok (.sipush (-720), 3) := by decide +kernel
theorem dX7_sine_4 : decode cX7_sine 4 = .ok (.sipush 720, 3) := by decide +kernel
theorem dX7_sine_7 : decode cX7_sine 7 = .ok (.invokestatic 216, 3) := by decide +kernel
theorem dX7_sine_10 : decode cX7_sine 10 = .ok (.ifCond .ne 6, 3) := by decide +kernel
theorem dX7_sine_13 : decode cX7_sine 13 = .ok (.ldc 159, 2) := by decide +kernel
theorem dX7_sine_15 : decode cX7_sine 15 = .ok (.ireturn, 1) := by decide +kernel
theorem dX7_sine_16 : decode cX7_sine 16 = .ok (.iload_n 1, 1) := by decide +kernel
theorem dX7_sine_17 : decode cX7_sine 17 = .ok (.invokestatic 223, 3) := by decide +kernel
theorem dX7_sine_20 : decode cX7_sine 20 = .ok (.ireturn, 1) := by decide +kernel
theorem dX7_offset_0 : decode cX7_offset 0 = .ok (.aload_n 0, 1) := by decide +kernel
theorem dX7_offset_1 : decode cX7_offset 1 = .ok (.getfield 41, 3) := by decide +kernel
theorem dX7_offset_4 : decode cX7_offset 4 = .ok (.iload_n 1, 1) := by decide +kernel
theorem dX7_offset_5 : decode cX7_offset 5 = .ok (.invokevirtual 181, 3) := by decide +kernel
theorem dX7_offset_8 : decode cX7_offset 8 = .ok (.ifCond .eq 16, 3) := by decide +kernel
theorem dX7_offset_11 : decode cX7_offset 11 = .ok (.iload_n 2, 1) := by decide +kernel
theorem dX7_offset_12 : decode cX7_offset 12 = .ok (.sipush (-360), 3) := by decide +kernel
theorem dX7_offset_15 : decode cX7_offset 15 = .ok (.sipush 360, 3) := by decide +kernel
theorem dX7_offset_18 : decode cX7_offset 18 = .ok (.invokestatic 216, 3) := by decide +kernel
theorem dX7_offset_21 : decode cX7_offset 21 = .ok (.ifCond .ne 6, 3) := by decide +kernel
theorem dX7_offset_24 : decode cX7_offset 24 = .ok (.ldc 159, 2) := by decide +kernel
theorem dX7_offset_26 : decode cX7_offset 26 = .ok (.ireturn, 1) := by decide +kernel
theorem dX7_offset_27 : decode cX7_offset 27 = .ok (.aload_n 0, 1) := by decide +kernel
theorem dX7_offset_28 : decode cX7_offset 28 = .ok (.iload_n 1, 1) := by decide +kernel
theorem dX7_offset_29 : decode cX7_offset 29 = .ok (.invokevirtual 226, 3) := by decide +kernel
theorem dX7_offset_32 : decode cX7_offset 32 = .ok (.ifCond .ne 6, 3) := by decide +kernel
theorem dX7_offset_35 : decode cX7_offset 35 = .ok (.ldc 95, 2) := by decide +kernel
theorem dX7_offset_37 : decode cX7_offset 37 = .ok (.ireturn, 1) := by decide +kernel
theorem dX7_offset_38 : decode cX7_offset 38 = .ok (.aload_n 0, 1) := by decide +kernel
theorem dX7_offset_39 : decode cX7_offset 39 = .ok (.getfield 33, 3) := by decide +kernel
theorem dX7_offset_42 : decode cX7_offset 42 = .ok (.iload_n 2, 1) := by decide +kernel
theorem dX7_offset_43 : decode cX7_offset 43 = .ok (.invokevirtual 229, 3) := by decide +kernel
theorem dX7_offset_46 : decode cX7_offset 46 = .ok (.ireturn, 1) := by decide +kernel
theorem dX7_lines_0 : decode cX7_lines 0 = .ok (.aload_n 0, 1) := by decide +kernel
theorem dX7_lines_1 : decode cX7_lines 1 = .ok (.getfield 41, 3) := by decide +kernel
theorem dX7_lines_4 : decode cX7_lines 4 = .ok (.iload_n 1, 1) := by decide +kernel
theorem dX7_lines_5 : decode cX7_lines 5 = .ok (.invokevirtual 181, 3) := by decide +kernel
theorem dX7_lines_8 : decode cX7_lines 8 = .ok (.ifCond .eq 12, 3) := by decide +kernel
theorem dX7_lines_11 : decode cX7_lines 11 = .ok (.iload_n 2, 1) := by decide +kernel
theorem dX7_lines_12 : decode cX7_lines 12 = .ok (.iconst 0, 1) := by decide +kernel
theorem dX7_lines_13 : decode cX7_lines 13 = .ok (.iconst 2, 1) := by decide +kernel
theorem dX7_lines_14 : decode cX7_lines 14 = .ok (.invokestatic 216, 3) := by decide +kernel
theorem dX7_lines_17 : decode cX7_lines 17 = .ok (.ifCond .ne 6, 3) := by decide +kernel
theorem dX7_lines_20 : decode cX7_lines 20 = .ok (.ldc 159, 2) := by decide +kernel
theorem dX7_lines_22 : decode cX7_lines 22 = .ok (.ireturn, 1) := by decide +kernel
theorem dX7_lines_23 : decode cX7_lines 23 = .ok (.aload_n 0, 1) := by decide +kernel
theorem dX7_lines_24 : decode cX7_lines 24 = .ok (.iload_n 1, 1) := by decide +kernel
theorem dX7_lines_25 : decode cX7_lines 25 = .ok (.invokevirtual 226, 3) := by decide +kernel
theorem dX7_lines_28 : decode cX7_lines 28 = .ok (.ifCond .ne 6, 3) := by decide +kernel
theorem dX7_lines_31 : decode cX7_lines 31 = .ok (.ldc 95, 2) := by decide +kernel
theorem dX7_lines_33 : decode cX7_lines 33 = .ok (.ireturn, 1) := by decide +kernel
theorem dX7_lines_34 : decode cX7_lines 34 = .ok (.iload_n 2, 1) := by decide +kernel
theorem dX7_lines_35 : decode cX7_lines 35 = .ok (.lookupswitch 41 #[(0, 25), (1, 33)], 25) := by decide +kernel
theorem dX7_lines_60 : decode cX7_lines 60 = .ok (.aload_n 0, 1) := by decide +kernel
theorem dX7_lines_61 : decode cX7_lines 61 = .ok (.getfield 33, 3) := by decide +kernel
theorem dX7_lines_64 : decode cX7_lines 64 = .ok (.invokevirtual 232, 3) := by decide +kernel
theorem dX7_lines_67 : decode cX7_lines 67 = .ok (.ireturn, 1) := by decide +kernel
theorem dX7_lines_68 : decode cX7_lines 68 = .ok (.aload_n 0, 1) := by decide +kernel
theorem dX7_lines_69 : decode cX7_lines 69 = .ok (.getfield 33, 3) := by decide +kernel
theorem dX7_lines_72 : decode cX7_lines 72 = .ok (.invokevirtual 235, 3) := by decide +kernel
theorem dX7_lines_75 : decode cX7_lines 75 = .ok (.ireturn, 1) := by decide +kernel
theorem dX7_lines_76 : decode cX7_lines 76 = .ok (.aload_n 0, 1) := by decide +kernel
theorem dX7_lines_77 : decode cX7_lines 77 = .ok (.getfield 33, 3) := by decide +kernel
theorem dX7_lines_80 : decode cX7_lines 80 = .ok (.invokevirtual 238, 3) := by decide +kernel
theorem dX7_lines_83 : decode cX7_lines 83 = .ok (.ireturn, 1) := by decide +kernel
theorem dX7_read_0 : decode cX7_read 0 = .ok (.aload_n 0, 1) := by decide +kernel
theorem dX7_read_1 : decode cX7_read 1 = .ok (.getfield 41, 3) := by decide +kernel
theorem dX7_read_4 : decode cX7_read 4 = .ok (.iload_n 1, 1) := by decide +kernel
theorem dX7_read_5 : decode cX7_read 5 = .ok (.invokevirtual 181, 3) := by decide +kernel
theorem dX7_read_8 : decode cX7_read 8 = .ok (.ifCond .eq 36, 3) := by decide +kernel
theorem dX7_read_11 : decode cX7_read 11 = .ok (.iload_n 2, 1) := by decide +kernel
theorem dX7_read_12 : decode cX7_read 12 = .ok (.sipush (-3000), 3) := by decide +kernel
theorem dX7_read_15 : decode cX7_read 15 = .ok (.sipush 3000, 3) := by decide +kernel
theorem dX7_read_18 : decode cX7_read 18 = .ok (.invokestatic 216, 3) := by decide +kernel
theorem dX7_read_21 : decode cX7_read 21 = .ok (.ifCond .eq 23, 3) := by decide +kernel
theorem dX7_read_24 : decode cX7_read 24 = .ok (.iload_n 3, 1) := by decide +kernel
theorem dX7_read_25 : decode cX7_read 25 = .ok (.iconst 0, 1) := by decide +kernel
theorem dX7_read_26 : decode cX7_read 26 = .ok (.iconst 1, 1) := by decide +kernel
theorem dX7_read_27 : decode cX7_read 27 = .ok (.invokestatic 216, 3) := by decide +kernel
theorem dX7_read_30 : decode cX7_read 30 = .ok (.ifCond .eq 14, 3) := by decide +kernel
theorem dX7_read_33 : decode cX7_read 33 = .ok (.iload 4, 2) := by decide +kernel
theorem dX7_read_35 : decode cX7_read 35 = .ok (.iconst (-1), 1) := by decide +kernel
theorem dX7_read_36 : decode cX7_read 36 = .ok (.bipush 11, 2) := by decide +kernel
theorem dX7_read_38 : decode cX7_read 38 = .ok (.invokestatic 216, 3) := by decide +kernel
theorem dX7_read_41 : decode cX7_read 41 = .ok (.ifCond .ne 6, 3) := by decide +kernel
theorem dX7_read_44 : decode cX7_read 44 = .ok (.ldc 159, 2) := by decide +kernel
theorem dX7_read_46 : decode cX7_read 46 = .ok (.ireturn, 1) := by decide +kernel
theorem dX7_read_47 : decode cX7_read 47 = .ok (.aload_n 0, 1) := by decide +kernel
theorem dX7_read_48 : decode cX7_read 48 = .ok (.iload_n 1, 1) := by decide +kernel
theorem dX7_read_49 : decode cX7_read 49 = .ok (.invokevirtual 226, 3) := by decide +kernel
theorem dX7_read_52 : decode cX7_read 52 = .ok (.ifCond .ne 6, 3) := by decide +kernel
theorem dX7_read_55 : decode cX7_read 55 = .ok (.ldc 95, 2) := by decide +kernel
theorem dX7_read_57 : decode cX7_read 57 = .ok (.ireturn, 1) := by decide +kernel
theorem dX7_read_58 : decode cX7_read 58 = .ok (.iload_n 3, 1) := by decide +kernel
theorem dX7_read_59 : decode cX7_read 59 = .ok (.ifCond .ne 14, 3) := by decide +kernel
theorem dX7_read_62 : decode cX7_read 62 = .ok (.aload_n 0, 1) := by decide +kernel
theorem dX7_read_63 : decode cX7_read 63 = .ok (.getfield 33, 3) := by decide +kernel
theorem dX7_read_66 : decode cX7_read 66 = .ok (.iload_n 2, 1) := by decide +kernel
theorem dX7_read_67 : decode cX7_read 67 = .ok (.invokevirtual 241, 3) := by decide +kernel
theorem dX7_read_70 : decode cX7_read 70 = .ok (.goto 11, 3) := by decide +kernel
theorem dX7_read_73 : decode cX7_read 73 = .ok (.aload_n 0, 1) := by decide +kernel
theorem dX7_read_74 : decode cX7_read 74 = .ok (.getfield 33, 3) := by decide +kernel
theorem dX7_read_77 : decode cX7_read 77 = .ok (.iload_n 2, 1) := by decide +kernel
theorem dX7_read_78 : decode cX7_read 78 = .ok (.invokevirtual 244, 3) := by decide +kernel
theorem dX7_read_81 : decode cX7_read 81 = .ok (.istore 5, 2) := by decide +kernel
theorem dX7_read_83 : decode cX7_read 83 = .ok (.iload 5, 2) := by decide +kernel
theorem dX7_read_85 : decode cX7_read 85 = .ok (.ldc 247, 2) := by decide +kernel
theorem dX7_read_87 : decode cX7_read 87 = .ok (.if_icmp .eq 9, 3) := by decide +kernel
theorem dX7_read_90 : decode cX7_read 90 = .ok (.iload 4, 2) := by decide +kernel
theorem dX7_read_92 : decode cX7_read 92 = .ok (.iconst (-1), 1) := by decide +kernel
theorem dX7_read_93 : decode cX7_read 93 = .ok (.if_icmp .ne 6, 3) := by decide +kernel
theorem dX7_read_96 : decode cX7_read 96 = .ok (.iload 5, 2) := by decide +kernel
theorem dX7_read_98 : decode cX7_read 98 = .ok (.ireturn, 1) := by decide +kernel
theorem dX7_read_99 : decode cX7_read 99 = .ok (.iload 5, 2) := by decide +kernel
theorem dX7_read_101 : decode cX7_read 101 = .ok (.aload_n 0, 1) := by decide +kernel
theorem dX7_read_102 : decode cX7_read 102 = .ok (.getfield 41, 3) := by decide +kernel
theorem dX7_read_105 : decode cX7_read 105 = .ok (.getfield 220, 3) := by decide +kernel
theorem dX7_read_108 : decode cX7_read 108 = .ok (.iload 4, 2) := by decide +kernel
theorem dX7_read_110 : decode cX7_read 110 = .ok (.iaload, 1) := by decide +kernel
theorem dX7_read_111 : decode cX7_read 111 = .ok (.iadd, 1) := by decide +kernel
theorem dX7_read_112 : decode cX7_read 112 = .ok (.aload_n 0, 1) := by decide +kernel
theorem dX7_read_113 : decode cX7_read 113 = .ok (.getfield 41, 3) := by decide +kernel
theorem dX7_read_116 : decode cX7_read 116 = .ok (.getfield 184, 3) := by decide +kernel
theorem dX7_read_119 : decode cX7_read 119 = .ok (.iload_n 1, 1) := by decide +kernel
theorem dX7_read_120 : decode cX7_read 120 = .ok (.aaload, 1) := by decide +kernel
theorem dX7_read_121 : decode cX7_read 121 = .ok (.getfield 199, 3) := by decide +kernel
theorem dX7_read_124 : decode cX7_read 124 = .ok (.iadd, 1) := by decide +kernel
theorem dX7_read_125 : decode cX7_read 125 = .ok (.ireturn, 1) := by decide +kernel
theorem dX7_apart_0 : decode cX7_apart 0 = .ok (.aload_n 0, 1) := by decide +kernel
theorem dX7_apart_1 : decode cX7_apart 1 = .ok (.getfield 41, 3) := by decide +kernel
theorem dX7_apart_4 : decode cX7_apart 4 = .ok (.iload_n 1, 1) := by decide +kernel
theorem dX7_apart_5 : decode cX7_apart 5 = .ok (.invokevirtual 181, 3) := by decide +kernel
theorem dX7_apart_8 : decode cX7_apart 8 = .ok (.ifCond .eq 12, 3) := by decide +kernel
theorem dX7_apart_11 : decode cX7_apart 11 = .ok (.iload_n 2, 1) := by decide +kernel
theorem dX7_apart_12 : decode cX7_apart 12 = .ok (.iconst 0, 1) := by decide +kernel
theorem dX7_apart_13 : decode cX7_apart 13 = .ok (.iconst 1, 1) := by decide +kernel
theorem dX7_apart_14 : decode cX7_apart 14 = .ok (.invokestatic 216, 3) := by decide +kernel
theorem dX7_apart_17 : decode cX7_apart 17 = .ok (.ifCond .ne 6, 3) := by decide +kernel
theorem dX7_apart_20 : decode cX7_apart 20 = .ok (.ldc 159, 2) := by decide +kernel
theorem dX7_apart_22 : decode cX7_apart 22 = .ok (.ireturn, 1) := by decide +kernel
theorem dX7_apart_23 : decode cX7_apart 23 = .ok (.aload_n 0, 1) := by decide +kernel
theorem dX7_apart_24 : decode cX7_apart 24 = .ok (.iload_n 1, 1) := by decide +kernel
theorem dX7_apart_25 : decode cX7_apart 25 = .ok (.invokevirtual 226, 3) := by decide +kernel
theorem dX7_apart_28 : decode cX7_apart 28 = .ok (.ifCond .ne 6, 3) := by decide +kernel
theorem dX7_apart_31 : decode cX7_apart 31 = .ok (.ldc 95, 2) := by decide +kernel
theorem dX7_apart_33 : decode cX7_apart 33 = .ok (.ireturn, 1) := by decide +kernel
theorem dX7_apart_34 : decode cX7_apart 34 = .ok (.aload_n 0, 1) := by decide +kernel
theorem dX7_apart_35 : decode cX7_apart 35 = .ok (.getfield 33, 3) := by decide +kernel
theorem dX7_apart_38 : decode cX7_apart 38 = .ok (.invokevirtual 248, 3) := by decide +kernel
theorem dX7_apart_41 : decode cX7_apart 41 = .ok (.iload_n 2, 1) := by decide +kernel
theorem dX7_apart_42 : decode cX7_apart 42 = .ok (.ifCond .ne 13, 3) := by decide +kernel
theorem dX7_apart_45 : decode cX7_apart 45 = .ok (.aload_n 0, 1) := by decide +kernel
theorem dX7_apart_46 : decode cX7_apart 46 = .ok (.getfield 33, 3) := by decide +kernel
theorem dX7_apart_49 : decode cX7_apart 49 = .ok (.getfield 251, 3) := by decide +kernel
theorem dX7_apart_52 : decode cX7_apart 52 = .ok (.goto 10, 3) := by decide +kernel
theorem dX7_apart_55 : decode cX7_apart 55 = .ok (.aload_n 0, 1) := by decide +kernel
theorem dX7_apart_56 : decode cX7_apart 56 = .ok (.getfield 33, 3) := by decide +kernel
theorem dX7_apart_59 : decode cX7_apart 59 = .ok (.getfield 254, 3) := by decide +kernel
theorem dX7_apart_62 : decode cX7_apart 62 = .ok (.ireturn, 1) := by decide +kernel
theorem dX7_reason_0 : decode cX7_reason 0 = .ok (.aload_n 0, 1) := by decide +kernel
theorem dX7_reason_1 : decode cX7_reason 1 = .ok (.iload_n 1, 1) := by decide +kernel
theorem dX7_reason_2 : decode cX7_reason 2 = .ok (.invokevirtual 70, 3) := by decide +kernel
theorem dX7_reason_5 : decode cX7_reason 5 = .ok (.ireturn, 1) := by decide +kernel
theorem dX7_bestLatitude_0 : decode cX7_bestLatitude 0 = .ok (.iload_n 1, 1) := by decide +kernel
theorem dX7_bestLatitude_1 : decode cX7_bestLatitude 1 = .ok (.bipush 100, 2) := by decide +kernel
theorem dX7_bestLatitude_3 : decode cX7_bestLatitude 3 = .ok (.if_icmp .eq 7, 3) := by decide +kernel
theorem dX7_bestLatitude_6 : decode cX7_bestLatitude 6 = .ok (.iconst 1, 1) := by decide +kernel
theorem dX7_bestLatitude_7 : decode cX7_bestLatitude 7 = .ok (.goto 4, 3) := by decide +kernel
theorem dX7_bestLatitude_10 : decode cX7_bestLatitude 10 = .ok (.iconst 0, 1) := by decide +kernel
theorem dX7_bestLatitude_11 : decode cX7_bestLatitude 11 = .ok (.istore_n 2, 1) := by decide +kernel
theorem dX7_bestLatitude_12 : decode cX7_bestLatitude 12 = .ok (.iload_n 2, 1) := by decide +kernel
theorem dX7_bestLatitude_13 : decode cX7_bestLatitude 13 = .ok (.ifCond .eq 17, 3) := by decide +kernel
theorem dX7_bestLatitude_16 : decode cX7_bestLatitude 16 = .ok (.iload_n 1, 1) := by decide +kernel
theorem dX7_bestLatitude_17 : decode cX7_bestLatitude 17 = .ok (.bipush (-60), 2) := by decide +kernel
theorem dX7_bestLatitude_19 : decode cX7_bestLatitude 19 = .ok (.bipush 60, 2) := by decide +kernel
theorem dX7_bestLatitude_21 : decode cX7_bestLatitude 21 = .ok (.invokestatic 216, 3) := by decide +kernel
theorem dX7_bestLatitude_24 : decode cX7_bestLatitude 24 = .ok (.ifCond .ne 6, 3) := by decide +kernel
theorem dX7_bestLatitude_27 : decode cX7_bestLatitude 27 = .ok (.ldc 159, 2) := by decide +kernel
theorem dX7_bestLatitude_29 : decode cX7_bestLatitude 29 = .ok (.ireturn, 1) := by decide +kernel
theorem dX7_bestLatitude_30 : decode cX7_bestLatitude 30 = .ok (.ldc 247, 2) := by decide +kernel
theorem dX7_bestLatitude_32 : decode cX7_bestLatitude 32 = .ok (.istore_n 3, 1) := by decide +kernel
theorem dX7_bestLatitude_33 : decode cX7_bestLatitude 33 = .ok (.iconst 0, 1) := by decide +kernel
theorem dX7_bestLatitude_34 : decode cX7_bestLatitude 34 = .ok (.istore 4, 2) := by decide +kernel
theorem dX7_bestLatitude_36 : decode cX7_bestLatitude 36 = .ok (.bipush 10, 2) := by decide +kernel
theorem dX7_bestLatitude_38 : decode cX7_bestLatitude 38 = .ok (.istore 5, 2) := by decide +kernel
theorem dX7_bestLatitude_40 : decode cX7_bestLatitude 40 = .ok (.iload 5, 2) := by decide +kernel
theorem dX7_bestLatitude_42 : decode cX7_bestLatitude 42 = .ok (.bipush 70, 2) := by decide +kernel
theorem dX7_bestLatitude_44 : decode cX7_bestLatitude 44 = .ok (.if_icmp .gt 65, 3) := by decide +kernel
theorem dX7_bestLatitude_47 : decode cX7_bestLatitude 47 = .ok (.aload_n 0, 1) := by decide +kernel
theorem dX7_bestLatitude_48 : decode cX7_bestLatitude 48 = .ok (.getfield 33, 3) := by decide +kernel
theorem dX7_bestLatitude_51 : decode cX7_bestLatitude 51 = .ok (.iload_n 2, 1) := by decide +kernel
theorem dX7_bestLatitude_52 : decode cX7_bestLatitude 52 = .ok (.iload 5, 2) := by decide +kernel
theorem dX7_bestLatitude_54 : decode cX7_bestLatitude 54 = .ok (.iload_n 2, 1) := by decide +kernel
theorem dX7_bestLatitude_55 : decode cX7_bestLatitude 55 = .ok (.ifCond .eq 7, 3) := by decide +kernel
theorem dX7_bestLatitude_58 : decode cX7_bestLatitude 58 = .ok (.iload_n 1, 1) := by decide +kernel
theorem dX7_bestLatitude_59 : decode cX7_bestLatitude 59 = .ok (.goto 4, 3) := by decide +kernel
theorem dX7_bestLatitude_62 : decode cX7_bestLatitude 62 = .ok (.iconst 0, 1) := by decide +kernel
theorem dX7_bestLatitude_63 : decode cX7_bestLatitude 63 = .ok (.invokevirtual 257, 3) := by decide +kernel
theorem dX7_bestLatitude_66 : decode cX7_bestLatitude 66 = .ok (.aload_n 0, 1) := by decide +kernel
theorem dX7_bestLatitude_67 : decode cX7_bestLatitude 67 = .ok (.getfield 33, 3) := by decide +kernel
theorem dX7_bestLatitude_70 : decode cX7_bestLatitude 70 = .ok (.invokevirtual 248, 3) := by decide +kernel
theorem dX7_bestLatitude_73 : decode cX7_bestLatitude 73 = .ok (.iload_n 3, 1) := by decide +kernel
theorem dX7_bestLatitude_74 : decode cX7_bestLatitude 74 = .ok (.ldc 247, 2) := by decide +kernel
theorem dX7_bestLatitude_76 : decode cX7_bestLatitude 76 = .ok (.if_icmp .eq 15, 3) := by decide +kernel
theorem dX7_bestLatitude_79 : decode cX7_bestLatitude 79 = .ok (.aload_n 0, 1) := by decide +kernel
theorem dX7_bestLatitude_80 : decode cX7_bestLatitude 80 = .ok (.getfield 33, 3) := by decide +kernel
theorem dX7_bestLatitude_83 : decode cX7_bestLatitude 83 = .ok (.getfield 251, 3) := by decide +kernel
theorem dX7_bestLatitude_86 : decode cX7_bestLatitude 86 = .ok (.iload 4, 2) := by decide +kernel
theorem dX7_bestLatitude_88 : decode cX7_bestLatitude 88 = .ok (.if_icmp .ge 15, 3) := by decide +kernel
theorem dX7_bestLatitude_91 : decode cX7_bestLatitude 91 = .ok (.aload_n 0, 1) := by decide +kernel
theorem dX7_bestLatitude_92 : decode cX7_bestLatitude 92 = .ok (.getfield 33, 3) := by decide +kernel
theorem dX7_bestLatitude_95 : decode cX7_bestLatitude 95 = .ok (.getfield 251, 3) := by decide +kernel
theorem dX7_bestLatitude_98 : decode cX7_bestLatitude 98 = .ok (.istore 4, 2) := by decide +kernel
theorem dX7_bestLatitude_100 : decode cX7_bestLatitude 100 = .ok (.iload 5, 2) := by decide +kernel
theorem dX7_bestLatitude_102 : decode cX7_bestLatitude 102 = .ok (.istore_n 3, 1) := by decide +kernel
theorem dX7_bestLatitude_103 : decode cX7_bestLatitude 103 = .ok (.iinc 5 1, 3) := by decide +kernel
theorem dX7_bestLatitude_106 : decode cX7_bestLatitude 106 = .ok (.goto (-66), 3) := by decide +kernel
theorem dX7_bestLatitude_109 : decode cX7_bestLatitude 109 = .ok (.iload_n 3, 1) := by decide +kernel
theorem dX7_bestLatitude_110 : decode cX7_bestLatitude 110 = .ok (.ireturn, 1) := by decide +kernel
theorem dX7_melts_0 : decode cX7_melts 0 = .ok (.aload_n 0, 1) := by decide +kernel
theorem dX7_melts_1 : decode cX7_melts 1 = .ok (.getfield 41, 3) := by decide +kernel
theorem dX7_melts_4 : decode cX7_melts 4 = .ok (.invokevirtual 261, 3) := by decide +kernel
theorem dX7_melts_7 : decode cX7_melts 7 = .ok (.ireturn, 1) := by decide +kernel
theorem dX7_recorded_0 : decode cX7_recorded 0 = .ok (.iload_n 1, 1) := by decide +kernel
theorem dX7_recorded_1 : decode cX7_recorded 1 = .ok (.invokestatic 124, 3) := by decide +kernel
theorem dX7_recorded_4 : decode cX7_recorded 4 = .ok (.ifCond .ne 10, 3) := by decide +kernel
theorem dX7_recorded_7 : decode cX7_recorded 7 = .ok (.aload_n 0, 1) := by decide +kernel
theorem dX7_recorded_8 : decode cX7_recorded 8 = .ok (.getfield 19, 3) := by decide +kernel
theorem dX7_recorded_11 : decode cX7_recorded 11 = .ok (.invokevirtual 128, 3) := by decide +kernel
theorem dX7_recorded_14 : decode cX7_recorded 14 = .ok (.iload_n 1, 1) := by decide +kernel
theorem dX7_recorded_15 : decode cX7_recorded 15 = .ok (.ireturn, 1) := by decide +kernel
theorem dX7_failedAt_0 : decode cX7_failedAt 0 = .ok (.aload_n 0, 1) := by decide +kernel
theorem dX7_failedAt_1 : decode cX7_failedAt 1 = .ok (.getfield 19, 3) := by decide +kernel
theorem dX7_failedAt_4 : decode cX7_failedAt 4 = .ok (.aload_n 0, 1) := by decide +kernel
theorem dX7_failedAt_5 : decode cX7_failedAt 5 = .ok (.getfield 10, 3) := by decide +kernel
theorem dX7_failedAt_8 : decode cX7_failedAt 8 = .ok (.invokevirtual 264, 3) := by decide +kernel
theorem dX7_failedAt_11 : decode cX7_failedAt 11 = .ok (.sipush (-1000), 3) := by decide +kernel
theorem dX7_failedAt_14 : decode cX7_failedAt 14 = .ok (.iload_n 1, 1) := by decide +kernel
theorem dX7_failedAt_15 : decode cX7_failedAt 15 = .ok (.isub, 1) := by decide +kernel
theorem dX7_failedAt_16 : decode cX7_failedAt 16 = .ok (.ireturn, 1) := by decide +kernel
theorem dX7_perform_0 : decode cX7_perform 0 = .ok (.aload_n 0, 1) := by decide +kernel
theorem dX7_perform_1 : decode cX7_perform 1 = .ok (.getfield 26, 3) := by decide +kernel
theorem dX7_perform_4 : decode cX7_perform 4 = .ok (.getfield 267, 3) := by decide +kernel
theorem dX7_perform_7 : decode cX7_perform 7 = .ok (.iconst 0, 1) := by decide +kernel
theorem dX7_perform_8 : decode cX7_perform 8 = .ok (.iaload, 1) := by decide +kernel
theorem dX7_perform_9 : decode cX7_perform 9 = .ok (.istore_n 2, 1) := by decide +kernel
theorem dX7_perform_10 : decode cX7_perform 10 = .ok (.aload_n 0, 1) := by decide +kernel
theorem dX7_perform_11 : decode cX7_perform 11 = .ok (.getfield 26, 3) := by decide +kernel
theorem dX7_perform_14 : decode cX7_perform 14 = .ok (.getfield 267, 3) := by decide +kernel
theorem dX7_perform_17 : decode cX7_perform 17 = .ok (.iconst 1, 1) := by decide +kernel
theorem dX7_perform_18 : decode cX7_perform 18 = .ok (.iaload, 1) := by decide +kernel
theorem dX7_perform_19 : decode cX7_perform 19 = .ok (.istore_n 3, 1) := by decide +kernel
theorem dX7_perform_20 : decode cX7_perform 20 = .ok (.aload_n 0, 1) := by decide +kernel
theorem dX7_perform_21 : decode cX7_perform 21 = .ok (.getfield 26, 3) := by decide +kernel
theorem dX7_perform_24 : decode cX7_perform 24 = .ok (.getfield 267, 3) := by decide +kernel
theorem dX7_perform_27 : decode cX7_perform 27 = .ok (.iconst 2, 1) := by decide +kernel
theorem dX7_perform_28 : decode cX7_perform 28 = .ok (.iaload, 1) := by decide +kernel
theorem dX7_perform_29 : decode cX7_perform 29 = .ok (.istore 4, 2) := by decide +kernel
theorem dX7_perform_31 : decode cX7_perform 31 = .ok (.iload_n 1, 1) := by decide +kernel
theorem dX7_perform_32 : decode cX7_perform 32 = .ok (.tableswitch 118 0 6 #[44, 52, 62, 74, 87, 101, 109], 44) := by decide +kernel
theorem dX7_perform_76 : decode cX7_perform 76 = .ok (.aload_n 0, 1) := by decide +kernel
theorem dX7_perform_77 : decode cX7_perform 77 = .ok (.getfield 41, 3) := by decide +kernel
theorem dX7_perform_80 : decode cX7_perform 80 = .ok (.invokevirtual 59, 3) := by decide +kernel
theorem dX7_perform_83 : decode cX7_perform 83 = .ok (.ireturn, 1) := by decide +kernel
theorem dX7_perform_84 : decode cX7_perform 84 = .ok (.aload_n 0, 1) := by decide +kernel
theorem dX7_perform_85 : decode cX7_perform 85 = .ok (.getfield 41, 3) := by decide +kernel
theorem dX7_perform_88 : decode cX7_perform 88 = .ok (.iload_n 2, 1) := by decide +kernel
theorem dX7_perform_89 : decode cX7_perform 89 = .ok (.iload_n 3, 1) := by decide +kernel
theorem dX7_perform_90 : decode cX7_perform 90 = .ok (.invokevirtual 63, 3) := by decide +kernel
theorem dX7_perform_93 : decode cX7_perform 93 = .ok (.ireturn, 1) := by decide +kernel
theorem dX7_perform_94 : decode cX7_perform 94 = .ok (.aload_n 0, 1) := by decide +kernel
theorem dX7_perform_95 : decode cX7_perform 95 = .ok (.getfield 41, 3) := by decide +kernel
theorem dX7_perform_98 : decode cX7_perform 98 = .ok (.iload_n 2, 1) := by decide +kernel
theorem dX7_perform_99 : decode cX7_perform 99 = .ok (.iconst (-1), 1) := by decide +kernel
theorem dX7_perform_100 : decode cX7_perform 100 = .ok (.iload_n 3, 1) := by decide +kernel
theorem dX7_perform_101 : decode cX7_perform 101 = .ok (.iconst 0, 1) := by decide +kernel
theorem dX7_perform_102 : decode cX7_perform 102 = .ok (.invokevirtual 66, 3) := by decide +kernel
theorem dX7_perform_105 : decode cX7_perform 105 = .ok (.ireturn, 1) := by decide +kernel
theorem dX7_perform_106 : decode cX7_perform 106 = .ok (.aload_n 0, 1) := by decide +kernel
theorem dX7_perform_107 : decode cX7_perform 107 = .ok (.getfield 41, 3) := by decide +kernel
theorem dX7_perform_110 : decode cX7_perform 110 = .ok (.iload_n 2, 1) := by decide +kernel
theorem dX7_perform_111 : decode cX7_perform 111 = .ok (.iload_n 3, 1) := by decide +kernel
theorem dX7_perform_112 : decode cX7_perform 112 = .ok (.iload 4, 2) := by decide +kernel
theorem dX7_perform_114 : decode cX7_perform 114 = .ok (.iconst 0, 1) := by decide +kernel
theorem dX7_perform_115 : decode cX7_perform 115 = .ok (.invokevirtual 66, 3) := by decide +kernel
theorem dX7_perform_118 : decode cX7_perform 118 = .ok (.ireturn, 1) := by decide +kernel
theorem dX7_perform_119 : decode cX7_perform 119 = .ok (.aload_n 0, 1) := by decide +kernel
theorem dX7_perform_120 : decode cX7_perform 120 = .ok (.getfield 41, 3) := by decide +kernel
theorem dX7_perform_123 : decode cX7_perform 123 = .ok (.iload_n 2, 1) := by decide +kernel
theorem dX7_perform_124 : decode cX7_perform 124 = .ok (.aload_n 0, 1) := by decide +kernel
theorem dX7_perform_125 : decode cX7_perform 125 = .ok (.iload_n 2, 1) := by decide +kernel
theorem dX7_perform_126 : decode cX7_perform 126 = .ok (.invokevirtual 70, 3) := by decide +kernel
theorem dX7_perform_129 : decode cX7_perform 129 = .ok (.invokevirtual 73, 3) := by decide +kernel
theorem dX7_perform_132 : decode cX7_perform 132 = .ok (.ireturn, 1) := by decide +kernel
theorem dX7_perform_133 : decode cX7_perform 133 = .ok (.aload_n 0, 1) := by decide +kernel
theorem dX7_perform_134 : decode cX7_perform 134 = .ok (.getfield 41, 3) := by decide +kernel
theorem dX7_perform_137 : decode cX7_perform 137 = .ok (.invokevirtual 79, 3) := by decide +kernel
theorem dX7_perform_140 : decode cX7_perform 140 = .ok (.ireturn, 1) := by decide +kernel
theorem dX7_perform_141 : decode cX7_perform 141 = .ok (.aload_n 0, 1) := by decide +kernel
theorem dX7_perform_142 : decode cX7_perform 142 = .ok (.getfield 41, 3) := by decide +kernel
theorem dX7_perform_145 : decode cX7_perform 145 = .ok (.iload_n 2, 1) := by decide +kernel
theorem dX7_perform_146 : decode cX7_perform 146 = .ok (.invokevirtual 82, 3) := by decide +kernel
theorem dX7_perform_149 : decode cX7_perform 149 = .ok (.ireturn, 1) := by decide +kernel
theorem dX7_perform_150 : decode cX7_perform 150 = .ok (.ldc 159, 2) := by decide +kernel
theorem dX7_perform_152 : decode cX7_perform 152 = .ok (.ireturn, 1) := by decide +kernel
theorem dX7_judge_0 : decode cX7_judge 0 = .ok (.aload_n 0, 1) := by decide +kernel
theorem dX7_judge_1 : decode cX7_judge 1 = .ok (.getfield 41, 3) := by decide +kernel
theorem dX7_judge_4 : decode cX7_judge 4 = .ok (.iload_n 1, 1) := by decide +kernel
theorem dX7_judge_5 : decode cX7_judge 5 = .ok (.invokevirtual 181, 3) := by decide +kernel
theorem dX7_judge_8 : decode cX7_judge 8 = .ok (.ifCond .ne 6, 3) := by decide +kernel
theorem dX7_judge_11 : decode cX7_judge 11 = .ok (.ldc 159, 2) := by decide +kernel
theorem dX7_judge_13 : decode cX7_judge 13 = .ok (.ireturn, 1) := by decide +kernel
theorem dX7_judge_14 : decode cX7_judge 14 = .ok (.aload_n 0, 1) := by decide +kernel
theorem dX7_judge_15 : decode cX7_judge 15 = .ok (.iload_n 1, 1) := by decide +kernel
theorem dX7_judge_16 : decode cX7_judge 16 = .ok (.invokevirtual 226, 3) := by decide +kernel
theorem dX7_judge_19 : decode cX7_judge 19 = .ok (.ifCond .ne 5, 3) := by decide +kernel
theorem dX7_judge_22 : decode cX7_judge 22 = .ok (.iconst 1, 1) := by decide +kernel
theorem dX7_judge_23 : decode cX7_judge 23 = .ok (.ireturn, 1) := by decide +kernel
theorem dX7_judge_24 : decode cX7_judge 24 = .ok (.aload_n 0, 1) := by decide +kernel
theorem dX7_judge_25 : decode cX7_judge 25 = .ok (.getfield 33, 3) := by decide +kernel
theorem dX7_judge_28 : decode cX7_judge 28 = .ok (.invokevirtual 232, 3) := by decide +kernel
theorem dX7_judge_31 : decode cX7_judge 31 = .ok (.aload_n 0, 1) := by decide +kernel
theorem dX7_judge_32 : decode cX7_judge 32 = .ok (.getfield 41, 3) := by decide +kernel
theorem dX7_judge_35 : decode cX7_judge 35 = .ok (.getfield 155, 3) := by decide +kernel
theorem dX7_judge_38 : decode cX7_judge 38 = .ok (.iconst 1, 1) := by decide +kernel
theorem dX7_judge_39 : decode cX7_judge 39 = .ok (.iaload, 1) := by decide +kernel
theorem dX7_judge_40 : decode cX7_judge 40 = .ok (.if_icmp .ge 5, 3) := by decide +kernel
theorem dX7_judge_43 : decode cX7_judge 43 = .ok (.iconst 2, 1) := by decide +kernel
theorem dX7_judge_44 : decode cX7_judge 44 = .ok (.ireturn, 1) := by decide +kernel
theorem dX7_judge_45 : decode cX7_judge 45 = .ok (.aload_n 0, 1) := by decide +kernel
theorem dX7_judge_46 : decode cX7_judge 46 = .ok (.getfield 33, 3) := by decide +kernel
theorem dX7_judge_49 : decode cX7_judge 49 = .ok (.invokevirtual 248, 3) := by decide +kernel
theorem dX7_judge_52 : decode cX7_judge 52 = .ok (.aload_n 0, 1) := by decide +kernel
theorem dX7_judge_53 : decode cX7_judge 53 = .ok (.getfield 33, 3) := by decide +kernel
theorem dX7_judge_56 : decode cX7_judge 56 = .ok (.getfield 251, 3) := by decide +kernel
theorem dX7_judge_59 : decode cX7_judge 59 = .ok (.aload_n 0, 1) := by decide +kernel
theorem dX7_judge_60 : decode cX7_judge 60 = .ok (.getfield 41, 3) := by decide +kernel
theorem dX7_judge_63 : decode cX7_judge 63 = .ok (.getfield 155, 3) := by decide +kernel
theorem dX7_judge_66 : decode cX7_judge 66 = .ok (.iconst 2, 1) := by decide +kernel
theorem dX7_judge_67 : decode cX7_judge 67 = .ok (.iaload, 1) := by decide +kernel
theorem dX7_judge_68 : decode cX7_judge 68 = .ok (.if_icmp .le 5, 3) := by decide +kernel
theorem dX7_judge_71 : decode cX7_judge 71 = .ok (.iconst 3, 1) := by decide +kernel
theorem dX7_judge_72 : decode cX7_judge 72 = .ok (.ireturn, 1) := by decide +kernel
theorem dX7_judge_73 : decode cX7_judge 73 = .ok (.aload_n 0, 1) := by decide +kernel
theorem dX7_judge_74 : decode cX7_judge 74 = .ok (.getfield 41, 3) := by decide +kernel
theorem dX7_judge_77 : decode cX7_judge 77 = .ok (.getfield 184, 3) := by decide +kernel
theorem dX7_judge_80 : decode cX7_judge 80 = .ok (.iload_n 1, 1) := by decide +kernel
theorem dX7_judge_81 : decode cX7_judge 81 = .ok (.aaload, 1) := by decide +kernel
theorem dX7_judge_82 : decode cX7_judge 82 = .ok (.invokevirtual 207, 3) := by decide +kernel
theorem dX7_judge_85 : decode cX7_judge 85 = .ok (.aload_n 0, 1) := by decide +kernel
theorem dX7_judge_86 : decode cX7_judge 86 = .ok (.getfield 41, 3) := by decide +kernel
theorem dX7_judge_89 : decode cX7_judge 89 = .ok (.getfield 155, 3) := by decide +kernel
theorem dX7_judge_92 : decode cX7_judge 92 = .ok (.iconst 3, 1) := by decide +kernel
theorem dX7_judge_93 : decode cX7_judge 93 = .ok (.iaload, 1) := by decide +kernel
theorem dX7_judge_94 : decode cX7_judge 94 = .ok (.if_icmp .le 5, 3) := by decide +kernel
theorem dX7_judge_97 : decode cX7_judge 97 = .ok (.iconst 4, 1) := by decide +kernel
theorem dX7_judge_98 : decode cX7_judge 98 = .ok (.ireturn, 1) := by decide +kernel
theorem dX7_judge_99 : decode cX7_judge 99 = .ok (.iconst 0, 1) := by decide +kernel
theorem dX7_judge_100 : decode cX7_judge 100 = .ok (.ireturn, 1) := by decide +kernel
theorem dX7_layDial_0 : decode cX7_layDial 0 = .ok (.aload_n 0, 1) := by decide +kernel
theorem dX7_layDial_1 : decode cX7_layDial 1 = .ok (.getfield 41, 3) := by decide +kernel
theorem dX7_layDial_4 : decode cX7_layDial 4 = .ok (.iload_n 1, 1) := by decide +kernel
theorem dX7_layDial_5 : decode cX7_layDial 5 = .ok (.invokevirtual 204, 3) := by decide +kernel
theorem dX7_layDial_8 : decode cX7_layDial 8 = .ok (.istore_n 2, 1) := by decide +kernel
theorem dX7_layDial_9 : decode cX7_layDial 9 = .ok (.iload_n 2, 1) := by decide +kernel
theorem dX7_layDial_10 : decode cX7_layDial 10 = .ok (.ldc 247, 2) := by decide +kernel
theorem dX7_layDial_12 : decode cX7_layDial 12 = .ok (.if_icmp .ne 5, 3) := by decide +kernel
theorem dX7_layDial_15 : decode cX7_layDial 15 = .ok (.iconst 0, 1) := by decide +kernel
theorem dX7_layDial_16 : decode cX7_layDial 16 = .ok (.ireturn, 1) := by decide +kernel
theorem dX7_layDial_17 : decode cX7_layDial 17 = .ok (.aload_n 0, 1) := by decide +kernel
theorem dX7_layDial_18 : decode cX7_layDial 18 = .ok (.getfield 41, 3) := by decide +kernel
theorem dX7_layDial_21 : decode cX7_layDial 21 = .ok (.getfield 184, 3) := by decide +kernel
theorem dX7_layDial_24 : decode cX7_layDial 24 = .ok (.iload_n 1, 1) := by decide +kernel
theorem dX7_layDial_25 : decode cX7_layDial 25 = .ok (.aaload, 1) := by decide +kernel
theorem dX7_layDial_26 : decode cX7_layDial 26 = .ok (.astore_n 3, 1) := by decide +kernel
theorem dX7_layDial_27 : decode cX7_layDial 27 = .ok (.aload_n 0, 1) := by decide +kernel
theorem dX7_layDial_28 : decode cX7_layDial 28 = .ok (.getfield 33, 3) := by decide +kernel
theorem dX7_layDial_31 : decode cX7_layDial 31 = .ok (.aload_n 3, 1) := by decide +kernel
theorem dX7_layDial_32 : decode cX7_layDial 32 = .ok (.getfield 193, 3) := by decide +kernel
theorem dX7_layDial_35 : decode cX7_layDial 35 = .ok (.iconst (-1), 1) := by decide +kernel
theorem dX7_layDial_36 : decode cX7_layDial 36 = .ok (.if_icmp .eq 7, 3) := by decide +kernel
theorem dX7_layDial_39 : decode cX7_layDial 39 = .ok (.iconst 1, 1) := by decide +kernel
theorem dX7_layDial_40 : decode cX7_layDial 40 = .ok (.goto 4, 3) := by decide +kernel
theorem dX7_layDial_43 : decode cX7_layDial 43 = .ok (.iconst 0, 1) := by decide +kernel
theorem dX7_layDial_44 : decode cX7_layDial 44 = .ok (.aload_n 3, 1) := by decide +kernel
theorem dX7_layDial_45 : decode cX7_layDial 45 = .ok (.getfield 188, 3) := by decide +kernel
theorem dX7_layDial_48 : decode cX7_layDial 48 = .ok (.iload_n 2, 1) := by decide +kernel
theorem dX7_layDial_49 : decode cX7_layDial 49 = .ok (.invokevirtual 257, 3) := by decide +kernel
theorem dX7_layDial_52 : decode cX7_layDial 52 = .ok (.iconst 1, 1) := by decide +kernel
theorem dX7_layDial_53 : decode cX7_layDial 53 = .ok (.ireturn, 1) := by decide +kernel
theorem dX7_isError_0 : decode cX7_isError 0 = .ok (.iload_n 0, 1) := by decide +kernel
theorem dX7_isError_1 : decode cX7_isError 1 = .ok (.ldc 159, 2) := by decide +kernel
theorem dX7_isError_3 : decode cX7_isError 3 = .ok (.if_icmp .eq 16, 3) := by decide +kernel
theorem dX7_isError_6 : decode cX7_isError 6 = .ok (.iload_n 0, 1) := by decide +kernel
theorem dX7_isError_7 : decode cX7_isError 7 = .ok (.ldc 95, 2) := by decide +kernel
theorem dX7_isError_9 : decode cX7_isError 9 = .ok (.if_icmp .eq 10, 3) := by decide +kernel
theorem dX7_isError_12 : decode cX7_isError 12 = .ok (.iload_n 0, 1) := by decide +kernel
theorem dX7_isError_13 : decode cX7_isError 13 = .ok (.ldc_w 270, 3) := by decide +kernel
theorem dX7_isError_16 : decode cX7_isError 16 = .ok (.if_icmp .ne 7, 3) := by decide +kernel
theorem dX7_isError_19 : decode cX7_isError 19 = .ok (.iconst 1, 1) := by decide +kernel
theorem dX7_isError_20 : decode cX7_isError 20 = .ok (.goto 4, 3) := by decide +kernel
theorem dX7_isError_23 : decode cX7_isError 23 = .ok (.iconst 0, 1) := by decide +kernel
theorem dX7_isError_24 : decode cX7_isError 24 = .ok (.ireturn, 1) := by decide +kernel
theorem dX7_isWithin_0 : decode cX7_isWithin 0 = .ok (.iload_n 0, 1) := by decide +kernel
theorem dX7_isWithin_1 : decode cX7_isWithin 1 = .ok (.iload_n 1, 1) := by decide +kernel
theorem dX7_isWithin_2 : decode cX7_isWithin 2 = .ok (.if_icmp .lt 12, 3) := by decide +kernel
theorem dX7_isWithin_5 : decode cX7_isWithin 5 = .ok (.iload_n 0, 1) := by decide +kernel
theorem dX7_isWithin_6 : decode cX7_isWithin 6 = .ok (.iload_n 2, 1) := by decide +kernel
theorem dX7_isWithin_7 : decode cX7_isWithin 7 = .ok (.if_icmp .gt 7, 3) := by decide +kernel
theorem dX7_isWithin_10 : decode cX7_isWithin 10 = .ok (.iconst 1, 1) := by decide +kernel
theorem dX7_isWithin_11 : decode cX7_isWithin 11 = .ok (.goto 4, 3) := by decide +kernel
theorem dX7_isWithin_14 : decode cX7_isWithin 14 = .ok (.iconst 0, 1) := by decide +kernel
theorem dX7_isWithin_15 : decode cX7_isWithin 15 = .ok (.ireturn, 1) := by decide +kernel
theorem dX7_rounded_0 : decode cX7_rounded 0 = .ok (.lload_n 2, 1) := by decide +kernel
theorem dX7_rounded_1 : decode cX7_rounded 1 = .ok (.lconst 0, 1) := by decide +kernel
theorem dX7_rounded_2 : decode cX7_rounded 2 = .ok (.lcmp, 1) := by decide +kernel
theorem dX7_rounded_3 : decode cX7_rounded 3 = .ok (.ifCond .gt 5, 3) := by decide +kernel
theorem dX7_rounded_6 : decode cX7_rounded 6 = .ok (.lconst 0, 1) := by decide +kernel
theorem dX7_rounded_7 : decode cX7_rounded 7 = .ok (.lreturn, 1) := by decide +kernel
theorem dX7_rounded_8 : decode cX7_rounded 8 = .ok (.ldc2_w 271, 3) := by decide +kernel
theorem dX7_rounded_11 : decode cX7_rounded 11 = .ok (.lload_n 0, 1) := by decide +kernel
theorem dX7_rounded_12 : decode cX7_rounded 12 = .ok (.lmul, 1) := by decide +kernel
theorem dX7_rounded_13 : decode cX7_rounded 13 = .ok (.lload_n 2, 1) := by decide +kernel
theorem dX7_rounded_14 : decode cX7_rounded 14 = .ok (.ladd, 1) := by decide +kernel
theorem dX7_rounded_15 : decode cX7_rounded 15 = .ok (.lstore 4, 2) := by decide +kernel
theorem dX7_rounded_17 : decode cX7_rounded 17 = .ok (.lload 4, 2) := by decide +kernel
theorem dX7_rounded_19 : decode cX7_rounded 19 = .ok (.ldc2_w 271, 3) := by decide +kernel
theorem dX7_rounded_22 : decode cX7_rounded 22 = .ok (.lload_n 2, 1) := by decide +kernel
theorem dX7_rounded_23 : decode cX7_rounded 23 = .ok (.lmul, 1) := by decide +kernel
theorem dX7_rounded_24 : decode cX7_rounded 24 = .ok (.ldiv, 1) := by decide +kernel
theorem dX7_rounded_25 : decode cX7_rounded 25 = .ok (.lstore 6, 2) := by decide +kernel
theorem dX7_rounded_27 : decode cX7_rounded 27 = .ok (.lload 4, 2) := by decide +kernel
theorem dX7_rounded_29 : decode cX7_rounded 29 = .ok (.ldc2_w 271, 3) := by decide +kernel
theorem dX7_rounded_32 : decode cX7_rounded 32 = .ok (.lload_n 2, 1) := by decide +kernel
theorem dX7_rounded_33 : decode cX7_rounded 33 = .ok (.lmul, 1) := by decide +kernel
theorem dX7_rounded_34 : decode cX7_rounded 34 = .ok (.lrem, 1) := by decide +kernel
theorem dX7_rounded_35 : decode cX7_rounded 35 = .ok (.lconst 0, 1) := by decide +kernel
theorem dX7_rounded_36 : decode cX7_rounded 36 = .ok (.lcmp, 1) := by decide +kernel
theorem dX7_rounded_37 : decode cX7_rounded 37 = .ok (.ifCond .ge 10, 3) := by decide +kernel
theorem dX7_rounded_40 : decode cX7_rounded 40 = .ok (.lload 6, 2) := by decide +kernel
theorem dX7_rounded_42 : decode cX7_rounded 42 = .ok (.lconst 1, 1) := by decide +kernel
theorem dX7_rounded_43 : decode cX7_rounded 43 = .ok (.lsub, 1) := by decide +kernel
theorem dX7_rounded_44 : decode cX7_rounded 44 = .ok (.goto 5, 3) := by decide +kernel
theorem dX7_rounded_47 : decode cX7_rounded 47 = .ok (.lload 6, 2) := by decide +kernel
theorem dX7_rounded_49 : decode cX7_rounded 49 = .ok (.lreturn, 1) := by decide +kernel
theorem dX7_sineOf_0 : decode cX7_sineOf 0 = .ok (.iload_n 0, 1) := by decide +kernel
theorem dX7_sineOf_1 : decode cX7_sineOf 1 = .ok (.invokestatic 273, 3) := by decide +kernel
theorem dX7_sineOf_4 : decode cX7_sineOf 4 = .ok (.i2l, 1) := by decide +kernel
theorem dX7_sineOf_5 : decode cX7_sineOf 5 = .ok (.lstore_n 1, 1) := by decide +kernel
theorem dX7_sineOf_6 : decode cX7_sineOf 6 = .ok (.lload_n 1, 1) := by decide +kernel
theorem dX7_sineOf_7 : decode cX7_sineOf 7 = .ok (.ldc2_w 278, 3) := by decide +kernel
theorem dX7_sineOf_10 : decode cX7_sineOf 10 = .ok (.lload_n 1, 1) := by decide +kernel
theorem dX7_sineOf_11 : decode cX7_sineOf 11 = .ok (.lsub, 1) := by decide +kernel
theorem dX7_sineOf_12 : decode cX7_sineOf 12 = .ok (.lmul, 1) := by decide +kernel
theorem dX7_sineOf_13 : decode cX7_sineOf 13 = .ok (.lstore_n 3, 1) := by decide +kernel
theorem dX7_sineOf_14 : decode cX7_sineOf 14 = .ok (.ldc2_w 280, 3) := by decide +kernel
theorem dX7_sineOf_17 : decode cX7_sineOf 17 = .ok (.lload_n 3, 1) := by decide +kernel
theorem dX7_sineOf_18 : decode cX7_sineOf 18 = .ok (.lmul, 1) := by decide +kernel
theorem dX7_sineOf_19 : decode cX7_sineOf 19 = .ok (.ldc2_w 282, 3) := by decide +kernel
theorem dX7_sineOf_22 : decode cX7_sineOf 22 = .ok (.lload_n 3, 1) := by decide +kernel
theorem dX7_sineOf_23 : decode cX7_sineOf 23 = .ok (.lsub, 1) := by decide +kernel
theorem dX7_sineOf_24 : decode cX7_sineOf 24 = .ok (.invokestatic 284, 3) := by decide +kernel
theorem dX7_sineOf_27 : decode cX7_sineOf 27 = .ok (.l2i, 1) := by decide +kernel
theorem dX7_sineOf_28 : decode cX7_sineOf 28 = .ok (.istore 5, 2) := by decide +kernel
theorem dX7_sineOf_30 : decode cX7_sineOf 30 = .ok (.iload_n 0, 1) := by decide +kernel
theorem dX7_sineOf_31 : decode cX7_sineOf 31 = .ok (.ifCond .ge 9, 3) := by decide +kernel
theorem dX7_sineOf_34 : decode cX7_sineOf 34 = .ok (.iload 5, 2) := by decide +kernel
theorem dX7_sineOf_36 : decode cX7_sineOf 36 = .ok (.ineg, 1) := by decide +kernel
theorem dX7_sineOf_37 : decode cX7_sineOf 37 = .ok (.goto 5, 3) := by decide +kernel
theorem dX7_sineOf_40 : decode cX7_sineOf 40 = .ok (.iload 5, 2) := by decide +kernel
theorem dX7_sineOf_42 : decode cX7_sineOf 42 = .ok (.ireturn, 1) := by decide +kernel
end
section
theorem dX8_init_0 : decode cX8_init 0 = .ok (.aload_n 0, 1) := by decide +kernel
theorem dX8_init_1 : decode cX8_init 1 = .ok (.invokespecial 1, 3) := by decide +kernel
theorem dX8_init_4 : decode cX8_init 4 = .ok (.aload_n 0, 1) := by decide +kernel
theorem dX8_init_5 : decode cX8_init 5 = .ok (.sipush 356, 3) := by decide +kernel
theorem dX8_init_8 : decode cX8_init 8 = .ok (.newarray .int, 2) := by decide +kernel
theorem dX8_init_10 : decode cX8_init 10 = .ok (.putfield 7, 3) := by decide +kernel
theorem dX8_init_13 : decode cX8_init 13 = .ok (.aload_n 0, 1) := by decide +kernel
theorem dX8_init_14 : decode cX8_init 14 = .ok (.sipush 356, 3) := by decide +kernel
theorem dX8_init_17 : decode cX8_init 17 = .ok (.newarray .int, 2) := by decide +kernel
theorem dX8_init_19 : decode cX8_init 19 = .ok (.putfield 13, 3) := by decide +kernel
theorem dX8_init_22 : decode cX8_init 22 = .ok (.aload_n 0, 1) := by decide +kernel
theorem dX8_init_23 : decode cX8_init 23 = .ok (.sipush 1780, 3) := by decide +kernel
theorem dX8_init_26 : decode cX8_init 26 = .ok (.newarray .int, 2) := by decide +kernel
theorem dX8_init_28 : decode cX8_init 28 = .ok (.putfield 16, 3) := by decide +kernel
theorem dX8_init_31 : decode cX8_init 31 = .ok (.aload_n 0, 1) := by decide +kernel
theorem dX8_init_32 : decode cX8_init 32 = .ok (.sipush 140, 3) := by decide +kernel
theorem dX8_init_35 : decode cX8_init 35 = .ok (.newarray .int, 2) := by decide +kernel
theorem dX8_init_37 : decode cX8_init 37 = .ok (.putfield 19, 3) := by decide +kernel
theorem dX8_init_40 : decode cX8_init 40 = .ok (.aload_n 0, 1) := by decide +kernel
theorem dX8_init_41 : decode cX8_init 41 = .ok (.iconst 3, 1) := by decide +kernel
theorem dX8_init_42 : decode cX8_init 42 = .ok (.newarray .int, 2) := by decide +kernel
theorem dX8_init_44 : decode cX8_init 44 = .ok (.putfield 22, 3) := by decide +kernel
theorem dX8_init_47 : decode cX8_init 47 = .ok (.aload_n 0, 1) := by decide +kernel
theorem dX8_init_48 : decode cX8_init 48 = .ok (.sipush 721, 3) := by decide +kernel
theorem dX8_init_51 : decode cX8_init 51 = .ok (.newarray .int, 2) := by decide +kernel
theorem dX8_init_53 : decode cX8_init 53 = .ok (.putfield 25, 3) := by decide +kernel
theorem dX8_init_56 : decode cX8_init 56 = .ok (.aload_n 0, 1) := by decide +kernel
theorem dX8_init_57 : decode cX8_init 57 = .ok (.sipush 721, 3) := by decide +kernel
theorem dX8_init_60 : decode cX8_init 60 = .ok (.newarray .boolean, 2) := by decide +kernel
theorem dX8_init_62 : decode cX8_init 62 = .ok (.putfield 28, 3) := by decide +kernel
theorem dX8_init_65 : decode cX8_init 65 = .ok (.aload_n 0, 1) := by decide +kernel
theorem dX8_init_66 : decode cX8_init 66 = .ok (.bipush 10, 2) := by decide +kernel
theorem dX8_init_68 : decode cX8_init 68 = .ok (.newarray .int, 2) := by decide +kernel
theorem dX8_init_70 : decode cX8_init 70 = .ok (.putfield 32, 3) := by decide +kernel
theorem dX8_init_73 : decode cX8_init 73 = .ok (.aload_n 0, 1) := by decide +kernel
theorem dX8_init_74 : decode cX8_init 74 = .ok (.iconst 0, 1) := by decide +kernel
theorem dX8_init_75 : decode cX8_init 75 = .ok (.putfield 35, 3) := by decide +kernel
theorem dX8_init_78 : decode cX8_init 78 = .ok (.aload_n 0, 1) := by decide +kernel
theorem dX8_init_79 : decode cX8_init 79 = .ok (.getfield 7, 3) := by decide +kernel
theorem dX8_init_82 : decode cX8_init 82 = .ok (.iconst 4, 1) := by decide +kernel
theorem dX8_init_83 : decode cX8_init 83 = .ok (.iconst 2, 1) := by decide +kernel
theorem dX8_init_84 : decode cX8_init 84 = .ok (.iastore, 1) := by decide +kernel
theorem dX8_init_85 : decode cX8_init 85 = .ok (.aload_n 0, 1) := by decide +kernel
theorem dX8_init_86 : decode cX8_init 86 = .ok (.getfield 7, 3) := by decide +kernel
theorem dX8_init_89 : decode cX8_init 89 = .ok (.iconst 5, 1) := by decide +kernel
theorem dX8_init_90 : decode cX8_init 90 = .ok (.iconst 5, 1) := by decide +kernel
theorem dX8_init_91 : decode cX8_init 91 = .ok (.iastore, 1) := by decide +kernel
theorem dX8_init_92 : decode cX8_init 92 = .ok (.aload_n 0, 1) := by decide +kernel
theorem dX8_init_93 : decode cX8_init 93 = .ok (.getfield 7, 3) := by decide +kernel
theorem dX8_init_96 : decode cX8_init 96 = .ok (.bipush 6, 2) := by decide +kernel
theorem dX8_init_98 : decode cX8_init 98 = .ok (.bipush 10, 2) := by decide +kernel
theorem dX8_init_100 : decode cX8_init 100 = .ok (.iastore, 1) := by decide +kernel
theorem dX8_init_101 : decode cX8_init 101 = .ok (.aload_n 0, 1) := by decide +kernel
theorem dX8_init_102 : decode cX8_init 102 = .ok (.getfield 7, 3) := by decide +kernel
theorem dX8_init_105 : decode cX8_init 105 = .ok (.bipush 7, 2) := by decide +kernel
theorem dX8_init_107 : decode cX8_init 107 = .ok (.bipush 20, 2) := by decide +kernel
theorem dX8_init_109 : decode cX8_init 109 = .ok (.iastore, 1) := by decide +kernel
theorem dX8_init_110 : decode cX8_init 110 = .ok (.return_, 1) := by decide +kernel
theorem dX8_in_0 : decode cX8_in 0 = .ok (.iload_n 0, 1) := by decide +kernel
theorem dX8_in_1 : decode cX8_in 1 = .ok (.iload_n 1, 1) := by decide +kernel
theorem dX8_in_2 : decode cX8_in 2 = .ok (.if_icmp .lt 12, 3) := by decide +kernel
theorem dX8_in_5 : decode cX8_in 5 = .ok (.iload_n 0, 1) := by decide +kernel
theorem dX8_in_6 : decode cX8_in 6 = .ok (.iload_n 2, 1) := by decide +kernel
theorem dX8_in_7 : decode cX8_in 7 = .ok (.if_icmp .gt 7, 3) := by decide +kernel
theorem dX8_in_10 : decode cX8_in 10 = .ok (.iconst 1, 1) := by decide +kernel
theorem dX8_in_11 : decode cX8_in 11 = .ok (.goto 4, 3) := by decide +kernel
theorem dX8_in_14 : decode cX8_in 14 = .ok (.iconst 0, 1) := by decide +kernel
theorem dX8_in_15 : decode cX8_in 15 = .ok (.ireturn, 1) := by decide +kernel
theorem dX8_size_0 : decode cX8_size 0 = .ok (.iload_n 0, 1) := by decide +kernel
theorem dX8_size_1 : decode cX8_size 1 = .ok (.ifCond .ge 8, 3) := by decide +kernel
theorem dX8_size_4 : decode cX8_size 4 = .ok (.iload_n 0, 1) := by decide +kernel
theorem dX8_size_5 : decode cX8_size 5 = .ok (.ineg, 1) := by decide +kernel
theorem dX8_size_6 : decode cX8_size 6 = .ok (.goto 4, 3) := by decide +kernel
theorem dX8_size_9 : decode cX8_size 9 = .ok (.iload_n 0, 1) := by decide +kernel
theorem dX8_size_10 : decode cX8_size 10 = .ok (.ireturn, 1) := by decide +kernel
theorem dX8_act_0 : decode cX8_act 0 = .ok (.aload_n 0, 1) := by decide +kernel
theorem dX8_act_1 : decode cX8_act 1 = .ok (.getfield 39, 3) := by decide +kernel
theorem dX8_act_4 : decode cX8_act 4 = .ok (.iconst 5, 1) := by decide +kernel
theorem dX8_act_5 : decode cX8_act 5 = .ok (.if_icmp .ne 44, 3) := by decide +kernel
theorem dX8_act_8 : decode cX8_act 8 = .ok (.iconst 0, 1) := by decide +kernel
theorem dX8_act_9 : decode cX8_act 9 = .ok (.istore_n 1, 1) := by decide +kernel
theorem dX8_act_10 : decode cX8_act 10 = .ok (.iload_n 1, 1) := by decide +kernel
theorem dX8_act_11 : decode cX8_act 11 = .ok (.sipush 1424, 3) := by decide +kernel
theorem dX8_act_14 : decode cX8_act 14 = .ok (.if_icmp .ge 25, 3) := by decide +kernel
theorem dX8_act_17 : decode cX8_act 17 = .ok (.aload_n 0, 1) := by decide +kernel
theorem dX8_act_18 : decode cX8_act 18 = .ok (.getfield 16, 3) := by decide +kernel
theorem dX8_act_21 : decode cX8_act 21 = .ok (.iload_n 1, 1) := by decide +kernel
theorem dX8_act_22 : decode cX8_act 22 = .ok (.aload_n 0, 1) := by decide +kernel
theorem dX8_act_23 : decode cX8_act 23 = .ok (.getfield 16, 3) := by decide +kernel
theorem dX8_act_26 : decode cX8_act 26 = .ok (.iload_n 1, 1) := by decide +kernel
theorem dX8_act_27 : decode cX8_act 27 = .ok (.sipush 356, 3) := by decide +kernel
theorem dX8_act_30 : decode cX8_act 30 = .ok (.iadd, 1) := by decide +kernel
theorem dX8_act_31 : decode cX8_act 31 = .ok (.iaload, 1) := by decide +kernel
theorem dX8_act_32 : decode cX8_act 32 = .ok (.iastore, 1) := by decide +kernel
theorem dX8_act_33 : decode cX8_act 33 = .ok (.iinc 1 1, 3) := by decide +kernel
theorem dX8_act_36 : decode cX8_act 36 = .ok (.goto (-26), 3) := by decide +kernel
theorem dX8_act_39 : decode cX8_act 39 = .ok (.aload_n 0, 1) := by decide +kernel
theorem dX8_act_40 : decode cX8_act 40 = .ok (.dup, 1) := by decide +kernel
theorem dX8_act_41 : decode cX8_act 41 = .ok (.getfield 39, 3) := by decide +kernel
theorem dX8_act_44 : decode cX8_act 44 = .ok (.iconst 1, 1) := by decide +kernel
theorem dX8_act_45 : decode cX8_act 45 = .ok (.isub, 1) := by decide +kernel
theorem dX8_act_46 : decode cX8_act 46 = .ok (.putfield 39, 3) := by decide +kernel
theorem dX8_act_49 : decode cX8_act 49 = .ok (.iconst 0, 1) := by decide +kernel
theorem dX8_act_50 : decode cX8_act 50 = .ok (.istore_n 1, 1) := by decide +kernel
theorem dX8_act_51 : decode cX8_act 51 = .ok (.iload_n 1, 1) := by decide +kernel
theorem dX8_act_52 : decode cX8_act 52 = .ok (.sipush 356, 3) := by decide +kernel
theorem dX8_act_55 : decode cX8_act 55 = .ok (.if_icmp .ge 30, 3) := by decide +kernel
theorem dX8_act_58 : decode cX8_act 58 = .ok (.aload_n 0, 1) := by decide +kernel
theorem dX8_act_59 : decode cX8_act 59 = .ok (.getfield 16, 3) := by decide +kernel
theorem dX8_act_62 : decode cX8_act 62 = .ok (.sipush 356, 3) := by decide +kernel
theorem dX8_act_65 : decode cX8_act 65 = .ok (.aload_n 0, 1) := by decide +kernel
theorem dX8_act_66 : decode cX8_act 66 = .ok (.getfield 39, 3) := by decide +kernel
theorem dX8_act_69 : decode cX8_act 69 = .ok (.imul, 1) := by decide +kernel
theorem dX8_act_70 : decode cX8_act 70 = .ok (.iload_n 1, 1) := by decide +kernel
theorem dX8_act_71 : decode cX8_act 71 = .ok (.iadd, 1) := by decide +kernel
theorem dX8_act_72 : decode cX8_act 72 = .ok (.aload_n 0, 1) := by decide +kernel
theorem dX8_act_73 : decode cX8_act 73 = .ok (.getfield 7, 3) := by decide +kernel
theorem dX8_act_76 : decode cX8_act 76 = .ok (.iload_n 1, 1) := by decide +kernel
theorem dX8_act_77 : decode cX8_act 77 = .ok (.iaload, 1) := by decide +kernel
theorem dX8_act_78 : decode cX8_act 78 = .ok (.iastore, 1) := by decide +kernel
theorem dX8_act_79 : decode cX8_act 79 = .ok (.iinc 1 1, 3) := by decide +kernel
theorem dX8_act_82 : decode cX8_act 82 = .ok (.goto (-31), 3) := by decide +kernel
theorem dX8_act_85 : decode cX8_act 85 = .ok (.aload_n 0, 1) := by decide +kernel
theorem dX8_act_86 : decode cX8_act 86 = .ok (.dup, 1) := by decide +kernel
theorem dX8_act_87 : decode cX8_act 87 = .ok (.getfield 39, 3) := by decide +kernel
theorem dX8_act_90 : decode cX8_act 90 = .ok (.iconst 1, 1) := by decide +kernel
theorem dX8_act_91 : decode cX8_act 91 = .ok (.iadd, 1) := by decide +kernel
theorem dX8_act_92 : decode cX8_act 92 = .ok (.putfield 39, 3) := by decide +kernel
theorem dX8_act_95 : decode cX8_act 95 = .ok (.return_, 1) := by decide +kernel
theorem dX8_rounded_0 : decode cX8_rounded 0 = .ok (.lload_n 0, 1) := by decide +kernel
theorem dX8_rounded_1 : decode cX8_rounded 1 = .ok (.lload_n 0, 1) := by decide +kernel
theorem dX8_rounded_2 : decode cX8_rounded 2 = .ok (.ladd, 1) := by decide +kernel
theorem dX8_rounded_3 : decode cX8_rounded 3 = .ok (.lload_n 2, 1) := by decide +kernel
theorem dX8_rounded_4 : decode cX8_rounded 4 = .ok (.ladd, 1) := by decide +kernel
theorem dX8_rounded_5 : decode cX8_rounded 5 = .ok (.lstore 4, 2) := by decide +kernel
theorem dX8_rounded_7 : decode cX8_rounded 7 = .ok (.lload_n 2, 1) := by decide +kernel
theorem dX8_rounded_8 : decode cX8_rounded 8 = .ok (.lload_n 2, 1) := by decide +kernel
theorem dX8_rounded_9 : decode cX8_rounded 9 = .ok (.ladd, 1) := by decide +kernel
theorem dX8_rounded_10 : decode cX8_rounded 10 = .ok (.lstore 6, 2) := by decide +kernel
theorem dX8_rounded_12 : decode cX8_rounded 12 = .ok (.lload 4, 2) := by decide +kernel
theorem dX8_rounded_14 : decode cX8_rounded 14 = .ok (.lload 6, 2) := by decide +kernel
theorem dX8_rounded_16 : decode cX8_rounded 16 = .ok (.ldiv, 1) := by decide +kernel
theorem dX8_rounded_17 : decode cX8_rounded 17 = .ok (.lstore 8, 2) := by decide +kernel
theorem dX8_rounded_19 : decode cX8_rounded 19 = .ok (.lload 4, 2) := by decide +kernel
theorem dX8_rounded_21 : decode cX8_rounded 21 = .ok (.lconst 0, 1) := by decide +kernel
theorem dX8_rounded_22 : decode cX8_rounded 22 = .ok (.lcmp, 1) := by decide +kernel
theorem dX8_rounded_23 : decode cX8_rounded 23 = .ok (.ifCond .ge 21, 3) := by decide +kernel
theorem dX8_rounded_26 : decode cX8_rounded 26 = .ok (.lload 8, 2) := by decide +kernel
theorem dX8_rounded_28 : decode cX8_rounded 28 = .ok (.lload 6, 2) := by decide +kernel
theorem dX8_rounded_30 : decode cX8_rounded 30 = .ok (.lmul, 1) := by decide +kernel
theorem dX8_rounded_31 : decode cX8_rounded 31 = .ok (.lload 4, 2) := by decide +kernel
theorem dX8_rounded_33 : decode cX8_rounded 33 = .ok (.lcmp, 1) := by decide +kernel
theorem dX8_rounded_34 : decode cX8_rounded 34 = .ok (.ifCond .eq 10, 3) := by decide +kernel
theorem dX8_rounded_37 : decode cX8_rounded 37 = .ok (.lload 8, 2) := by decide +kernel
theorem dX8_rounded_39 : decode cX8_rounded 39 = .ok (.lconst 1, 1) := by decide +kernel
theorem dX8_rounded_40 : decode cX8_rounded 40 = .ok (.lsub, 1) := by decide +kernel
theorem dX8_rounded_41 : decode cX8_rounded 41 = .ok (.goto 5, 3) := by decide +kernel
theorem dX8_rounded_44 : decode cX8_rounded 44 = .ok (.lload 8, 2) := by decide +kernel
theorem dX8_rounded_46 : decode cX8_rounded 46 = .ok (.lreturn, 1) := by decide +kernel
theorem dX8_sineOf_0 : decode cX8_sineOf 0 = .ok (.iload_n 0, 1) := by decide +kernel
theorem dX8_sineOf_1 : decode cX8_sineOf 1 = .ok (.ifCond .ge 8, 3) := by decide +kernel
theorem dX8_sineOf_4 : decode cX8_sineOf 4 = .ok (.iload_n 0, 1) := by decide +kernel
theorem dX8_sineOf_5 : decode cX8_sineOf 5 = .ok (.ineg, 1) := by decide +kernel
theorem dX8_sineOf_6 : decode cX8_sineOf 6 = .ok (.goto 4, 3) := by decide +kernel
theorem dX8_sineOf_9 : decode cX8_sineOf 9 = .ok (.iload_n 0, 1) := by decide +kernel
theorem dX8_sineOf_10 : decode cX8_sineOf 10 = .ok (.istore_n 1, 1) := by decide +kernel
theorem dX8_sineOf_11 : decode cX8_sineOf 11 = .ok (.iload_n 1, 1) := by decide +kernel
theorem dX8_sineOf_12 : decode cX8_sineOf 12 = .ok (.i2l, 1) := by decide +kernel
theorem dX8_sineOf_13 : decode cX8_sineOf 13 = .ok (.sipush 720, 3) := by decide +kernel
theorem dX8_sineOf_16 : decode cX8_sineOf 16 = .ok (.iload_n 1, 1) := by decide +kernel
theorem dX8_sineOf_17 : decode cX8_sineOf 17 = .ok (.isub, 1) := by decide +kernel
theorem dX8_sineOf_18 : decode cX8_sineOf 18 = .ok (.i2l, 1) := by decide +kernel
theorem dX8_sineOf_19 : decode cX8_sineOf 19 = .ok (.lmul, 1) := by decide +kernel
theorem dX8_sineOf_20 : decode cX8_sineOf 20 = .ok (.lstore_n 2, 1) := by decide +kernel
theorem dX8_sineOf_21 : decode cX8_sineOf 21 = .ok (.ldc2_w 42, 3) := by decide +kernel
theorem dX8_sineOf_24 : decode cX8_sineOf 24 = .ok (.lload_n 2, 1) := by decide +kernel
theorem dX8_sineOf_25 : decode cX8_sineOf 25 = .ok (.lmul, 1) := by decide +kernel
theorem dX8_sineOf_26 : decode cX8_sineOf 26 = .ok (.ldc2_w 44, 3) := by decide +kernel
theorem dX8_sineOf_29 : decode cX8_sineOf 29 = .ok (.lload_n 2, 1) := by decide +kernel
theorem dX8_sineOf_30 : decode cX8_sineOf 30 = .ok (.lsub, 1) := by decide +kernel
theorem dX8_sineOf_31 : decode cX8_sineOf 31 = .ok (.invokestatic 46, 3) := by decide +kernel
theorem dX8_sineOf_34 : decode cX8_sineOf 34 = .ok (.lstore 4, 2) := by decide +kernel
theorem dX8_sineOf_36 : decode cX8_sineOf 36 = .ok (.iload_n 0, 1) := by decide +kernel
theorem dX8_sineOf_37 : decode cX8_sineOf 37 = .ok (.ifCond .ge 9, 3) := by decide +kernel
theorem dX8_sineOf_40 : decode cX8_sineOf 40 = .ok (.lload 4, 2) := by decide +kernel
theorem dX8_sineOf_42 : decode cX8_sineOf 42 = .ok (.lneg, 1) := by decide +kernel
theorem dX8_sineOf_43 : decode cX8_sineOf 43 = .ok (.goto 5, 3) := by decide +kernel
theorem dX8_sineOf_46 : decode cX8_sineOf 46 = .ok (.lload 4, 2) := by decide +kernel
theorem dX8_sineOf_48 : decode cX8_sineOf 48 = .ok (.lreturn, 1) := by decide +kernel
theorem dX8_cosineOf_0 : decode cX8_cosineOf 0 = .ok (.sipush 360, 3) := by decide +kernel
theorem dX8_cosineOf_3 : decode cX8_cosineOf 3 = .ok (.iload_n 0, 1) := by decide +kernel
theorem dX8_cosineOf_4 : decode cX8_cosineOf 4 = .ok (.iadd, 1) := by decide +kernel
theorem dX8_cosineOf_5 : decode cX8_cosineOf 5 = .ok (.invokestatic 50, 3) := by decide +kernel
theorem dX8_cosineOf_8 : decode cX8_cosineOf 8 = .ok (.lreturn, 1) := by decide +kernel
theorem dX8_sideOf_0 : decode cX8_sideOf 0 = .ok (.iload_n 1, 1) := by decide +kernel
theorem dX8_sideOf_1 : decode cX8_sideOf 1 = .ok (.ifCond .eq 19, 3) := by decide +kernel
theorem dX8_sideOf_4 : decode cX8_sideOf 4 = .ok (.ldc2_w 54, 3) := by decide +kernel
theorem dX8_sideOf_7 : decode cX8_sideOf 7 = .ok (.iload_n 0, 1) := by decide +kernel
theorem dX8_sideOf_8 : decode cX8_sideOf 8 = .ok (.invokestatic 56, 3) := by decide +kernel
theorem dX8_sideOf_11 : decode cX8_sideOf 11 = .ok (.lmul, 1) := by decide +kernel
theorem dX8_sideOf_12 : decode cX8_sideOf 12 = .ok (.iload_n 2, 1) := by decide +kernel
theorem dX8_sideOf_13 : decode cX8_sideOf 13 = .ok (.invokestatic 50, 3) := by decide +kernel
theorem dX8_sideOf_16 : decode cX8_sideOf 16 = .ok (.lmul, 1) := by decide +kernel
theorem dX8_sideOf_17 : decode cX8_sideOf 17 = .ok (.goto 12, 3) := by decide +kernel
theorem dX8_sideOf_20 : decode cX8_sideOf 20 = .ok (.iload_n 0, 1) := by decide +kernel
theorem dX8_sideOf_21 : decode cX8_sideOf 21 = .ok (.invokestatic 50, 3) := by decide +kernel
theorem dX8_sideOf_24 : decode cX8_sideOf 24 = .ok (.iload_n 2, 1) := by decide +kernel
theorem dX8_sideOf_25 : decode cX8_sideOf 25 = .ok (.invokestatic 50, 3) := by decide +kernel
theorem dX8_sideOf_28 : decode cX8_sideOf 28 = .ok (.lmul, 1) := by decide +kernel
theorem dX8_sideOf_29 : decode cX8_sideOf 29 = .ok (.lreturn, 1) := by decide +kernel
theorem dX8_frontOf_0 : decode cX8_frontOf 0 = .ok (.iload_n 1, 1) := by decide +kernel
theorem dX8_frontOf_1 : decode cX8_frontOf 1 = .ok (.ifCond .eq 34, 3) := by decide +kernel
theorem dX8_frontOf_4 : decode cX8_frontOf 4 = .ok (.ldc2_w 54, 3) := by decide +kernel
theorem dX8_frontOf_7 : decode cX8_frontOf 7 = .ok (.iload_n 2, 1) := by decide +kernel
theorem dX8_frontOf_8 : decode cX8_frontOf 8 = .ok (.invokestatic 56, 3) := by decide +kernel
theorem dX8_frontOf_11 : decode cX8_frontOf 11 = .ok (.lmul, 1) := by decide +kernel
theorem dX8_frontOf_12 : decode cX8_frontOf 12 = .ok (.iload_n 3, 1) := by decide +kernel
theorem dX8_frontOf_13 : decode cX8_frontOf 13 = .ok (.invokestatic 56, 3) := by decide +kernel
theorem dX8_frontOf_16 : decode cX8_frontOf 16 = .ok (.lmul, 1) := by decide +kernel
theorem dX8_frontOf_17 : decode cX8_frontOf 17 = .ok (.iload_n 2, 1) := by decide +kernel
theorem dX8_frontOf_18 : decode cX8_frontOf 18 = .ok (.invokestatic 50, 3) := by decide +kernel
theorem dX8_frontOf_21 : decode cX8_frontOf 21 = .ok (.iload_n 0, 1) := by decide +kernel
theorem dX8_frontOf_22 : decode cX8_frontOf 22 = .ok (.invokestatic 50, 3) := by decide +kernel
theorem dX8_frontOf_25 : decode cX8_frontOf 25 = .ok (.lmul, 1) := by decide +kernel
theorem dX8_frontOf_26 : decode cX8_frontOf 26 = .ok (.iload_n 3, 1) := by decide +kernel
theorem dX8_frontOf_27 : decode cX8_frontOf 27 = .ok (.invokestatic 50, 3) := by decide +kernel
theorem dX8_frontOf_30 : decode cX8_frontOf 30 = .ok (.lmul, 1) := by decide +kernel
theorem dX8_frontOf_31 : decode cX8_frontOf 31 = .ok (.ladd, 1) := by decide +kernel
theorem dX8_frontOf_32 : decode cX8_frontOf 32 = .ok (.goto 11, 3) := by decide +kernel
theorem dX8_frontOf_35 : decode cX8_frontOf 35 = .ok (.ldc2_w 54, 3) := by decide +kernel
theorem dX8_frontOf_38 : decode cX8_frontOf 38 = .ok (.iload_n 3, 1) := by decide +kernel
theorem dX8_frontOf_39 : decode cX8_frontOf 39 = .ok (.invokestatic 56, 3) := by decide +kernel
theorem dX8_frontOf_42 : decode cX8_frontOf 42 = .ok (.lmul, 1) := by decide +kernel
theorem dX8_frontOf_43 : decode cX8_frontOf 43 = .ok (.lreturn, 1) := by decide +kernel
theorem dX8_reckon_0 : decode cX8_reckon 0 = .ok (.iconst 4, 1) := by decide +kernel
theorem dX8_reckon_1 : decode cX8_reckon 1 = .ok (.iload_n 1, 1) := by decide +kernel
theorem dX8_reckon_2 : decode cX8_reckon 2 = .ok (.imul, 1) := by decide +kernel
theorem dX8_reckon_3 : decode cX8_reckon 3 = .ok (.istore 4, 2) := by decide +kernel
theorem dX8_reckon_5 : decode cX8_reckon 5 = .ok (.iconst 4, 1) := by decide +kernel
theorem dX8_reckon_6 : decode cX8_reckon 6 = .ok (.iload_n 3, 1) := by decide +kernel
theorem dX8_reckon_7 : decode cX8_reckon 7 = .ok (.imul, 1) := by decide +kernel
theorem dX8_reckon_8 : decode cX8_reckon 8 = .ok (.istore 5, 2) := by decide +kernel
theorem dX8_reckon_10 : decode cX8_reckon 10 = .ok (.sipush (-360), 3) := by decide +kernel
theorem dX8_reckon_13 : decode cX8_reckon 13 = .ok (.istore 6, 2) := by decide +kernel
theorem dX8_reckon_15 : decode cX8_reckon 15 = .ok (.iload 6, 2) := by decide +kernel
theorem dX8_reckon_17 : decode cX8_reckon 17 = .ok (.sipush 360, 3) := by decide +kernel
theorem dX8_reckon_20 : decode cX8_reckon 20 = .ok (.if_icmp .gt 119, 3) := by decide +kernel
theorem dX8_reckon_23 : decode cX8_reckon 23 = .ok (.iload 4, 2) := by decide +kernel
theorem dX8_reckon_25 : decode cX8_reckon 25 = .ok (.iload_n 2, 1) := by decide +kernel
theorem dX8_reckon_26 : decode cX8_reckon 26 = .ok (.iload 5, 2) := by decide +kernel
theorem dX8_reckon_28 : decode cX8_reckon 28 = .ok (.iload 6, 2) := by decide +kernel
theorem dX8_reckon_30 : decode cX8_reckon 30 = .ok (.invokestatic 59, 3) := by decide +kernel
theorem dX8_reckon_33 : decode cX8_reckon 33 = .ok (.lstore 7, 2) := by decide +kernel
theorem dX8_reckon_35 : decode cX8_reckon 35 = .ok (.lload 7, 2) := by decide +kernel
theorem dX8_reckon_37 : decode cX8_reckon 37 = .ok (.lconst 0, 1) := by decide +kernel
theorem dX8_reckon_38 : decode cX8_reckon 38 = .ok (.lcmp, 1) := by decide +kernel
theorem dX8_reckon_39 : decode cX8_reckon 39 = .ok (.ifCond .le 23, 3) := by decide +kernel
theorem dX8_reckon_42 : decode cX8_reckon 42 = .ok (.ldc2_w 63, 3) := by decide +kernel
theorem dX8_reckon_45 : decode cX8_reckon 45 = .ok (.iload 4, 2) := by decide +kernel
theorem dX8_reckon_47 : decode cX8_reckon 47 = .ok (.iload_n 2, 1) := by decide +kernel
theorem dX8_reckon_48 : decode cX8_reckon 48 = .ok (.iload 6, 2) := by decide +kernel
theorem dX8_reckon_50 : decode cX8_reckon 50 = .ok (.invokestatic 65, 3) := by decide +kernel
theorem dX8_reckon_53 : decode cX8_reckon 53 = .ok (.lmul, 1) := by decide +kernel
theorem dX8_reckon_54 : decode cX8_reckon 54 = .ok (.lload 7, 2) := by decide +kernel
theorem dX8_reckon_56 : decode cX8_reckon 56 = .ok (.invokestatic 46, 3) := by decide +kernel
theorem dX8_reckon_59 : decode cX8_reckon 59 = .ok (.goto 4, 3) := by decide +kernel
theorem dX8_reckon_62 : decode cX8_reckon 62 = .ok (.lconst 0, 1) := by decide +kernel
theorem dX8_reckon_63 : decode cX8_reckon 63 = .ok (.lstore 9, 2) := by decide +kernel
theorem dX8_reckon_65 : decode cX8_reckon 65 = .ok (.lload 7, 2) := by decide +kernel
theorem dX8_reckon_67 : decode cX8_reckon 67 = .ok (.lconst 0, 1) := by decide +kernel
theorem dX8_reckon_68 : decode cX8_reckon 68 = .ok (.lcmp, 1) := by decide +kernel
theorem dX8_reckon_69 : decode cX8_reckon 69 = .ok (.ifCond .le 25, 3) := by decide +kernel
theorem dX8_reckon_72 : decode cX8_reckon 72 = .ok (.lload 9, 2) := by decide +kernel
theorem dX8_reckon_74 : decode cX8_reckon 74 = .ok (.ldc2_w 69, 3) := by decide +kernel
theorem dX8_reckon_77 : decode cX8_reckon 77 = .ok (.lcmp, 1) := by decide +kernel
theorem dX8_reckon_78 : decode cX8_reckon 78 = .ok (.ifCond .lt 16, 3) := by decide +kernel
theorem dX8_reckon_81 : decode cX8_reckon 81 = .ok (.lload 9, 2) := by decide +kernel
theorem dX8_reckon_83 : decode cX8_reckon 83 = .ok (.ldc2_w 71, 3) := by decide +kernel
theorem dX8_reckon_86 : decode cX8_reckon 86 = .ok (.lcmp, 1) := by decide +kernel
theorem dX8_reckon_87 : decode cX8_reckon 87 = .ok (.ifCond .gt 7, 3) := by decide +kernel
theorem dX8_reckon_90 : decode cX8_reckon 90 = .ok (.iconst 1, 1) := by decide +kernel
theorem dX8_reckon_91 : decode cX8_reckon 91 = .ok (.goto 4, 3) := by decide +kernel
theorem dX8_reckon_94 : decode cX8_reckon 94 = .ok (.iconst 0, 1) := by decide +kernel
theorem dX8_reckon_95 : decode cX8_reckon 95 = .ok (.istore 11, 2) := by decide +kernel
theorem dX8_reckon_97 : decode cX8_reckon 97 = .ok (.aload_n 0, 1) := by decide +kernel
theorem dX8_reckon_98 : decode cX8_reckon 98 = .ok (.getfield 28, 3) := by decide +kernel
theorem dX8_reckon_101 : decode cX8_reckon 101 = .ok (.iload 6, 2) := by decide +kernel
theorem dX8_reckon_103 : decode cX8_reckon 103 = .ok (.sipush 360, 3) := by decide +kernel
theorem dX8_reckon_106 : decode cX8_reckon 106 = .ok (.iadd, 1) := by decide +kernel
theorem dX8_reckon_107 : decode cX8_reckon 107 = .ok (.iload 11, 2) := by decide +kernel
theorem dX8_reckon_109 : decode cX8_reckon 109 = .ok (.bastore, 1) := by decide +kernel
theorem dX8_reckon_110 : decode cX8_reckon 110 = .ok (.aload_n 0, 1) := by decide +kernel
theorem dX8_reckon_111 : decode cX8_reckon 111 = .ok (.getfield 25, 3) := by decide +kernel
theorem dX8_reckon_114 : decode cX8_reckon 114 = .ok (.iload 6, 2) := by decide +kernel
theorem dX8_reckon_116 : decode cX8_reckon 116 = .ok (.sipush 360, 3) := by decide +kernel
theorem dX8_reckon_119 : decode cX8_reckon 119 = .ok (.iadd, 1) := by decide +kernel
theorem dX8_reckon_120 : decode cX8_reckon 120 = .ok (.iload 11, 2) := by decide +kernel
theorem dX8_reckon_122 : decode cX8_reckon 122 = .ok (.ifCond .eq 9, 3) := by decide +kernel
theorem dX8_reckon_125 : decode cX8_reckon 125 = .ok (.lload 9, 2) := by decide +kernel
theorem dX8_reckon_127 : decode cX8_reckon 127 = .ok (.l2i, 1) := by decide +kernel
theorem dX8_reckon_128 : decode cX8_reckon 128 = .ok (.goto 4, 3) := by decide +kernel
theorem dX8_reckon_131 : decode cX8_reckon 131 = .ok (.iconst 0, 1) := by decide +kernel
theorem dX8_reckon_132 : decode cX8_reckon 132 = .ok (.iastore, 1) := by decide +kernel
theorem dX8_reckon_133 : decode cX8_reckon 133 = .ok (.iinc 6 1, 3) := by decide +kernel
theorem dX8_reckon_136 : decode cX8_reckon 136 = .ok (.goto (-121), 3) := by decide +kernel
theorem dX8_reckon_139 : decode cX8_reckon 139 = .ok (.return_, 1) := by decide +kernel
theorem dX8_has_0 : decode cX8_has 0 = .ok (.aload_n 0, 1) := by decide +kernel
theorem dX8_has_1 : decode cX8_has 1 = .ok (.getfield 28, 3) := by decide +kernel
theorem dX8_has_4 : decode cX8_has 4 = .ok (.iload_n 1, 1) := by decide +kernel
theorem dX8_has_5 : decode cX8_has 5 = .ok (.sipush 360, 3) := by decide +kernel
theorem dX8_has_8 : decode cX8_has 8 = .ok (.iadd, 1) := by decide +kernel
theorem dX8_has_9 : decode cX8_has 9 = .ok (.baload, 1) := by decide +kernel
theorem dX8_has_10 : decode cX8_has 10 = .ok (.ireturn, 1) := by decide +kernel
theorem dX8_off_0 : decode cX8_off 0 = .ok (.aload_n 0, 1) := by decide +kernel
theorem dX8_off_1 : decode cX8_off 1 = .ok (.getfield 25, 3) := by decide +kernel
theorem dX8_off_4 : decode cX8_off 4 = .ok (.iload_n 1, 1) := by decide +kernel
theorem dX8_off_5 : decode cX8_off 5 = .ok (.sipush 360, 3) := by decide +kernel
theorem dX8_off_8 : decode cX8_off 8 = .ok (.iadd, 1) := by decide +kernel
theorem dX8_off_9 : decode cX8_off 9 = .ok (.iaload, 1) := by decide +kernel
theorem dX8_off_10 : decode cX8_off 10 = .ok (.ireturn, 1) := by decide +kernel
theorem dX8_byLines_0 : decode cX8_byLines 0 = .ok (.sipush (-360), 3) := by decide +kernel
theorem dX8_byLines_3 : decode cX8_byLines 3 = .ok (.istore_n 2, 1) := by decide +kernel
theorem dX8_byLines_4 : decode cX8_byLines 4 = .ok (.iload_n 2, 1) := by decide +kernel
theorem dX8_byLines_5 : decode cX8_byLines 5 = .ok (.sipush 360, 3) := by decide +kernel
theorem dX8_byLines_8 : decode cX8_byLines 8 = .ok (.if_icmp .ge 94, 3) := by decide +kernel
theorem dX8_byLines_11 : decode cX8_byLines 11 = .ok (.aload_n 0, 1) := by decide +kernel
theorem dX8_byLines_12 : decode cX8_byLines 12 = .ok (.iload_n 2, 1) := by decide +kernel
theorem dX8_byLines_13 : decode cX8_byLines 13 = .ok (.invokevirtual 73, 3) := by decide +kernel
theorem dX8_byLines_16 : decode cX8_byLines 16 = .ok (.ifCond .eq 80, 3) := by decide +kernel
theorem dX8_byLines_19 : decode cX8_byLines 19 = .ok (.aload_n 0, 1) := by decide +kernel
theorem dX8_byLines_20 : decode cX8_byLines 20 = .ok (.iload_n 2, 1) := by decide +kernel
theorem dX8_byLines_21 : decode cX8_byLines 21 = .ok (.bipush 60, 2) := by decide +kernel
theorem dX8_byLines_23 : decode cX8_byLines 23 = .ok (.iadd, 1) := by decide +kernel
theorem dX8_byLines_24 : decode cX8_byLines 24 = .ok (.invokevirtual 73, 3) := by decide +kernel
theorem dX8_byLines_27 : decode cX8_byLines 27 = .ok (.ifCond .eq 69, 3) := by decide +kernel
theorem dX8_byLines_30 : decode cX8_byLines 30 = .ok (.aload_n 0, 1) := by decide +kernel
theorem dX8_byLines_31 : decode cX8_byLines 31 = .ok (.iload_n 2, 1) := by decide +kernel
theorem dX8_byLines_32 : decode cX8_byLines 32 = .ok (.invokevirtual 77, 3) := by decide +kernel
theorem dX8_byLines_35 : decode cX8_byLines 35 = .ok (.iload_n 1, 1) := by decide +kernel
theorem dX8_byLines_36 : decode cX8_byLines 36 = .ok (.if_icmp .gt 60, 3) := by decide +kernel
theorem dX8_byLines_39 : decode cX8_byLines 39 = .ok (.iload_n 1, 1) := by decide +kernel
theorem dX8_byLines_40 : decode cX8_byLines 40 = .ok (.aload_n 0, 1) := by decide +kernel
theorem dX8_byLines_41 : decode cX8_byLines 41 = .ok (.iload_n 2, 1) := by decide +kernel
theorem dX8_byLines_42 : decode cX8_byLines 42 = .ok (.bipush 60, 2) := by decide +kernel
theorem dX8_byLines_44 : decode cX8_byLines 44 = .ok (.iadd, 1) := by decide +kernel
theorem dX8_byLines_45 : decode cX8_byLines 45 = .ok (.invokevirtual 77, 3) := by decide +kernel
theorem dX8_byLines_48 : decode cX8_byLines 48 = .ok (.if_icmp .gt 48, 3) := by decide +kernel
theorem dX8_byLines_51 : decode cX8_byLines 51 = .ok (.aload_n 0, 1) := by decide +kernel
theorem dX8_byLines_52 : decode cX8_byLines 52 = .ok (.iload_n 2, 1) := by decide +kernel
theorem dX8_byLines_53 : decode cX8_byLines 53 = .ok (.bipush 60, 2) := by decide +kernel
theorem dX8_byLines_55 : decode cX8_byLines 55 = .ok (.iadd, 1) := by decide +kernel
theorem dX8_byLines_56 : decode cX8_byLines 56 = .ok (.invokevirtual 77, 3) := by decide +kernel
theorem dX8_byLines_59 : decode cX8_byLines 59 = .ok (.aload_n 0, 1) := by decide +kernel
theorem dX8_byLines_60 : decode cX8_byLines 60 = .ok (.iload_n 2, 1) := by decide +kernel
theorem dX8_byLines_61 : decode cX8_byLines 61 = .ok (.invokevirtual 77, 3) := by decide +kernel
theorem dX8_byLines_64 : decode cX8_byLines 64 = .ok (.isub, 1) := by decide +kernel
theorem dX8_byLines_65 : decode cX8_byLines 65 = .ok (.istore_n 3, 1) := by decide +kernel
theorem dX8_byLines_66 : decode cX8_byLines 66 = .ok (.iload_n 3, 1) := by decide +kernel
theorem dX8_byLines_67 : decode cX8_byLines 67 = .ok (.ifCond .ne 7, 3) := by decide +kernel
theorem dX8_byLines_70 : decode cX8_byLines 70 = .ok (.iload_n 2, 1) := by decide +kernel
theorem dX8_byLines_71 : decode cX8_byLines 71 = .ok (.goto 24, 3) := by decide +kernel
theorem dX8_byLines_74 : decode cX8_byLines 74 = .ok (.iload_n 2, 1) := by decide +kernel
theorem dX8_byLines_75 : decode cX8_byLines 75 = .ok (.i2l, 1) := by decide +kernel
theorem dX8_byLines_76 : decode cX8_byLines 76 = .ok (.ldc2_w 81, 3) := by decide +kernel
theorem dX8_byLines_79 : decode cX8_byLines 79 = .ok (.iload_n 1, 1) := by decide +kernel
theorem dX8_byLines_80 : decode cX8_byLines 80 = .ok (.aload_n 0, 1) := by decide +kernel
theorem dX8_byLines_81 : decode cX8_byLines 81 = .ok (.iload_n 2, 1) := by decide +kernel
theorem dX8_byLines_82 : decode cX8_byLines 82 = .ok (.invokevirtual 77, 3) := by decide +kernel
theorem dX8_byLines_85 : decode cX8_byLines 85 = .ok (.isub, 1) := by decide +kernel
theorem dX8_byLines_86 : decode cX8_byLines 86 = .ok (.i2l, 1) := by decide +kernel
theorem dX8_byLines_87 : decode cX8_byLines 87 = .ok (.lmul, 1) := by decide +kernel
theorem dX8_byLines_88 : decode cX8_byLines 88 = .ok (.iload_n 3, 1) := by decide +kernel
theorem dX8_byLines_89 : decode cX8_byLines 89 = .ok (.i2l, 1) := by decide +kernel
theorem dX8_byLines_90 : decode cX8_byLines 90 = .ok (.invokestatic 46, 3) := by decide +kernel
theorem dX8_byLines_93 : decode cX8_byLines 93 = .ok (.ladd, 1) := by decide +kernel
theorem dX8_byLines_94 : decode cX8_byLines 94 = .ok (.l2i, 1) := by decide +kernel
theorem dX8_byLines_95 : decode cX8_byLines 95 = .ok (.ireturn, 1) := by decide +kernel
theorem dX8_byLines_96 : decode cX8_byLines 96 = .ok (.iinc 2 60, 3) := by decide +kernel
theorem dX8_byLines_99 : decode cX8_byLines 99 = .ok (.goto (-95), 3) := by decide +kernel
theorem dX8_byLines_102 : decode cX8_byLines 102 = .ok (.ldc 83, 2) := by decide +kernel
theorem dX8_byLines_104 : decode cX8_byLines 104 = .ok (.ireturn, 1) := by decide +kernel
theorem dX8_byShadow_0 : decode cX8_byShadow 0 = .ok (.ldc 83, 2) := by decide +kernel
theorem dX8_byShadow_2 : decode cX8_byShadow 2 = .ok (.istore_n 2, 1) := by decide +kernel
theorem dX8_byShadow_3 : decode cX8_byShadow 3 = .ok (.iconst 0, 1) := by decide +kernel
theorem dX8_byShadow_4 : decode cX8_byShadow 4 = .ok (.istore_n 3, 1) := by decide +kernel
theorem dX8_byShadow_5 : decode cX8_byShadow 5 = .ok (.sipush (-360), 3) := by decide +kernel
theorem dX8_byShadow_8 : decode cX8_byShadow 8 = .ok (.istore 4, 2) := by decide +kernel
theorem dX8_byShadow_10 : decode cX8_byShadow 10 = .ok (.iload 4, 2) := by decide +kernel
theorem dX8_byShadow_12 : decode cX8_byShadow 12 = .ok (.sipush 360, 3) := by decide +kernel
theorem dX8_byShadow_15 : decode cX8_byShadow 15 = .ok (.if_icmp .gt 74, 3) := by decide +kernel
theorem dX8_byShadow_18 : decode cX8_byShadow 18 = .ok (.aload_n 0, 1) := by decide +kernel
theorem dX8_byShadow_19 : decode cX8_byShadow 19 = .ok (.iload 4, 2) := by decide +kernel
theorem dX8_byShadow_21 : decode cX8_byShadow 21 = .ok (.invokevirtual 73, 3) := by decide +kernel
theorem dX8_byShadow_24 : decode cX8_byShadow 24 = .ok (.ifCond .eq 59, 3) := by decide +kernel
theorem dX8_byShadow_27 : decode cX8_byShadow 27 = .ok (.aload_n 0, 1) := by decide +kernel
theorem dX8_byShadow_28 : decode cX8_byShadow 28 = .ok (.iload 4, 2) := by decide +kernel
theorem dX8_byShadow_30 : decode cX8_byShadow 30 = .ok (.invokevirtual 77, 3) := by decide +kernel
theorem dX8_byShadow_33 : decode cX8_byShadow 33 = .ok (.iload_n 1, 1) := by decide +kernel
theorem dX8_byShadow_34 : decode cX8_byShadow 34 = .ok (.isub, 1) := by decide +kernel
theorem dX8_byShadow_35 : decode cX8_byShadow 35 = .ok (.invokestatic 84, 3) := by decide +kernel
theorem dX8_byShadow_38 : decode cX8_byShadow 38 = .ok (.istore 5, 2) := by decide +kernel
theorem dX8_byShadow_40 : decode cX8_byShadow 40 = .ok (.iload_n 2, 1) := by decide +kernel
theorem dX8_byShadow_41 : decode cX8_byShadow 41 = .ok (.ldc 83, 2) := by decide +kernel
theorem dX8_byShadow_43 : decode cX8_byShadow 43 = .ok (.if_icmp .eq 9, 3) := by decide +kernel
theorem dX8_byShadow_46 : decode cX8_byShadow 46 = .ok (.iload 5, 2) := by decide +kernel
theorem dX8_byShadow_48 : decode cX8_byShadow 48 = .ok (.iload_n 3, 1) := by decide +kernel
theorem dX8_byShadow_49 : decode cX8_byShadow 49 = .ok (.if_icmp .ge 7, 3) := by decide +kernel
theorem dX8_byShadow_52 : decode cX8_byShadow 52 = .ok (.iconst 1, 1) := by decide +kernel
theorem dX8_byShadow_53 : decode cX8_byShadow 53 = .ok (.goto 4, 3) := by decide +kernel
theorem dX8_byShadow_56 : decode cX8_byShadow 56 = .ok (.iconst 0, 1) := by decide +kernel
theorem dX8_byShadow_57 : decode cX8_byShadow 57 = .ok (.istore 6, 2) := by decide +kernel
theorem dX8_byShadow_59 : decode cX8_byShadow 59 = .ok (.iload 6, 2) := by decide +kernel
theorem dX8_byShadow_61 : decode cX8_byShadow 61 = .ok (.ifCond .eq 8, 3) := by decide +kernel
theorem dX8_byShadow_64 : decode cX8_byShadow 64 = .ok (.iload 4, 2) := by decide +kernel
theorem dX8_byShadow_66 : decode cX8_byShadow 66 = .ok (.goto 4, 3) := by decide +kernel
theorem dX8_byShadow_69 : decode cX8_byShadow 69 = .ok (.iload_n 2, 1) := by decide +kernel
theorem dX8_byShadow_70 : decode cX8_byShadow 70 = .ok (.istore_n 2, 1) := by decide +kernel
theorem dX8_byShadow_71 : decode cX8_byShadow 71 = .ok (.iload 6, 2) := by decide +kernel
theorem dX8_byShadow_73 : decode cX8_byShadow 73 = .ok (.ifCond .eq 8, 3) := by decide +kernel
theorem dX8_byShadow_76 : decode cX8_byShadow 76 = .ok (.iload 5, 2) := by decide +kernel
theorem dX8_byShadow_78 : decode cX8_byShadow 78 = .ok (.goto 4, 3) := by decide +kernel
theorem dX8_byShadow_81 : decode cX8_byShadow 81 = .ok (.iload_n 3, 1) := by decide +kernel
theorem dX8_byShadow_82 : decode cX8_byShadow 82 = .ok (.istore_n 3, 1) := by decide +kernel
theorem dX8_byShadow_83 : decode cX8_byShadow 83 = .ok (.iinc 4 1, 3) := by decide +kernel
theorem dX8_byShadow_86 : decode cX8_byShadow 86 = .ok (.goto (-76), 3) := by decide +kernel
theorem dX8_byShadow_89 : decode cX8_byShadow 89 = .ok (.iload_n 2, 1) := by decide +kernel
theorem dX8_byShadow_90 : decode cX8_byShadow 90 = .ok (.ireturn, 1) := by decide +kernel
theorem dX8_apartOf_0 : decode cX8_apartOf 0 = .ok (.iconst 0, 1) := by decide +kernel
theorem dX8_apartOf_1 : decode cX8_apartOf 1 = .ok (.istore_n 2, 1) := by decide +kernel
theorem dX8_apartOf_2 : decode cX8_apartOf 2 = .ok (.ldc 83, 2) := by decide +kernel
theorem dX8_apartOf_4 : decode cX8_apartOf 4 = .ok (.istore_n 3, 1) := by decide +kernel
theorem dX8_apartOf_5 : decode cX8_apartOf 5 = .ok (.sipush (-360), 3) := by decide +kernel
theorem dX8_apartOf_8 : decode cX8_apartOf 8 = .ok (.istore 4, 2) := by decide +kernel
theorem dX8_apartOf_10 : decode cX8_apartOf 10 = .ok (.iload 4, 2) := by decide +kernel
theorem dX8_apartOf_12 : decode cX8_apartOf 12 = .ok (.sipush 360, 3) := by decide +kernel
theorem dX8_apartOf_15 : decode cX8_apartOf 15 = .ok (.if_icmp .gt 84, 3) := by decide +kernel
theorem dX8_apartOf_18 : decode cX8_apartOf 18 = .ok (.aload_n 0, 1) := by decide +kernel
theorem dX8_apartOf_19 : decode cX8_apartOf 19 = .ok (.iload 4, 2) := by decide +kernel
theorem dX8_apartOf_21 : decode cX8_apartOf 21 = .ok (.invokevirtual 73, 3) := by decide +kernel
theorem dX8_apartOf_24 : decode cX8_apartOf 24 = .ok (.ifCond .eq 16, 3) := by decide +kernel
theorem dX8_apartOf_27 : decode cX8_apartOf 27 = .ok (.aload_n 0, 1) := by decide +kernel
theorem dX8_apartOf_28 : decode cX8_apartOf 28 = .ok (.aload_n 0, 1) := by decide +kernel
theorem dX8_apartOf_29 : decode cX8_apartOf 29 = .ok (.iload 4, 2) := by decide +kernel
theorem dX8_apartOf_31 : decode cX8_apartOf 31 = .ok (.invokevirtual 77, 3) := by decide +kernel
theorem dX8_apartOf_34 : decode cX8_apartOf 34 = .ok (.invokevirtual 87, 3) := by decide +kernel
theorem dX8_apartOf_37 : decode cX8_apartOf 37 = .ok (.goto 5, 3) := by decide +kernel
theorem dX8_apartOf_40 : decode cX8_apartOf 40 = .ok (.ldc 83, 2) := by decide +kernel
theorem dX8_apartOf_42 : decode cX8_apartOf 42 = .ok (.istore 5, 2) := by decide +kernel
theorem dX8_apartOf_44 : decode cX8_apartOf 44 = .ok (.iload 5, 2) := by decide +kernel
theorem dX8_apartOf_46 : decode cX8_apartOf 46 = .ok (.ldc 83, 2) := by decide +kernel
theorem dX8_apartOf_48 : decode cX8_apartOf 48 = .ok (.if_icmp .eq 45, 3) := by decide +kernel
theorem dX8_apartOf_51 : decode cX8_apartOf 51 = .ok (.iload 4, 2) := by decide +kernel
theorem dX8_apartOf_53 : decode cX8_apartOf 53 = .ok (.iload 5, 2) := by decide +kernel
theorem dX8_apartOf_55 : decode cX8_apartOf 55 = .ok (.isub, 1) := by decide +kernel
theorem dX8_apartOf_56 : decode cX8_apartOf 56 = .ok (.invokestatic 84, 3) := by decide +kernel
theorem dX8_apartOf_59 : decode cX8_apartOf 59 = .ok (.istore 6, 2) := by decide +kernel
theorem dX8_apartOf_61 : decode cX8_apartOf 61 = .ok (.iload_n 3, 1) := by decide +kernel
theorem dX8_apartOf_62 : decode cX8_apartOf 62 = .ok (.ldc 83, 2) := by decide +kernel
theorem dX8_apartOf_64 : decode cX8_apartOf 64 = .ok (.if_icmp .eq 9, 3) := by decide +kernel
theorem dX8_apartOf_67 : decode cX8_apartOf 67 = .ok (.iload 6, 2) := by decide +kernel
theorem dX8_apartOf_69 : decode cX8_apartOf 69 = .ok (.iload_n 2, 1) := by decide +kernel
theorem dX8_apartOf_70 : decode cX8_apartOf 70 = .ok (.if_icmp .le 8, 3) := by decide +kernel
theorem dX8_apartOf_73 : decode cX8_apartOf 73 = .ok (.iload 4, 2) := by decide +kernel
theorem dX8_apartOf_75 : decode cX8_apartOf 75 = .ok (.goto 4, 3) := by decide +kernel
theorem dX8_apartOf_78 : decode cX8_apartOf 78 = .ok (.iload_n 3, 1) := by decide +kernel
theorem dX8_apartOf_79 : decode cX8_apartOf 79 = .ok (.istore_n 3, 1) := by decide +kernel
theorem dX8_apartOf_80 : decode cX8_apartOf 80 = .ok (.iload 6, 2) := by decide +kernel
theorem dX8_apartOf_82 : decode cX8_apartOf 82 = .ok (.iload_n 2, 1) := by decide +kernel
theorem dX8_apartOf_83 : decode cX8_apartOf 83 = .ok (.if_icmp .le 8, 3) := by decide +kernel
theorem dX8_apartOf_86 : decode cX8_apartOf 86 = .ok (.iload 6, 2) := by decide +kernel
theorem dX8_apartOf_88 : decode cX8_apartOf 88 = .ok (.goto 4, 3) := by decide +kernel
theorem dX8_apartOf_91 : decode cX8_apartOf 91 = .ok (.iload_n 2, 1) := by decide +kernel
theorem dX8_apartOf_92 : decode cX8_apartOf 92 = .ok (.istore_n 2, 1) := by decide +kernel
theorem dX8_apartOf_93 : decode cX8_apartOf 93 = .ok (.iinc 4 1, 3) := by decide +kernel
theorem dX8_apartOf_96 : decode cX8_apartOf 96 = .ok (.goto (-86), 3) := by decide +kernel
theorem dX8_apartOf_99 : decode cX8_apartOf 99 = .ok (.iload_n 1, 1) := by decide +kernel
theorem dX8_apartOf_100 : decode cX8_apartOf 100 = .ok (.ifCond .ne 7, 3) := by decide +kernel
theorem dX8_apartOf_103 : decode cX8_apartOf 103 = .ok (.iload_n 2, 1) := by decide +kernel
theorem dX8_apartOf_104 : decode cX8_apartOf 104 = .ok (.goto 4, 3) := by decide +kernel
theorem dX8_apartOf_107 : decode cX8_apartOf 107 = .ok (.iload_n 3, 1) := by decide +kernel
theorem dX8_apartOf_108 : decode cX8_apartOf 108 = .ok (.ireturn, 1) := by decide +kernel
theorem dX8_hourLines_0 : decode cX8_hourLines 0 = .ok (.iconst 0, 1) := by decide +kernel
theorem dX8_hourLines_1 : decode cX8_hourLines 1 = .ok (.istore_n 1, 1) := by decide +kernel
theorem dX8_hourLines_2 : decode cX8_hourLines 2 = .ok (.sipush (-360), 3) := by decide +kernel
theorem dX8_hourLines_5 : decode cX8_hourLines 5 = .ok (.istore_n 2, 1) := by decide +kernel
theorem dX8_hourLines_6 : decode cX8_hourLines 6 = .ok (.iload_n 2, 1) := by decide +kernel
theorem dX8_hourLines_7 : decode cX8_hourLines 7 = .ok (.sipush 360, 3) := by decide +kernel
theorem dX8_hourLines_10 : decode cX8_hourLines 10 = .ok (.if_icmp .gt 25, 3) := by decide +kernel
theorem dX8_hourLines_13 : decode cX8_hourLines 13 = .ok (.iload_n 1, 1) := by decide +kernel
theorem dX8_hourLines_14 : decode cX8_hourLines 14 = .ok (.aload_n 0, 1) := by decide +kernel
theorem dX8_hourLines_15 : decode cX8_hourLines 15 = .ok (.iload_n 2, 1) := by decide +kernel
theorem dX8_hourLines_16 : decode cX8_hourLines 16 = .ok (.invokevirtual 73, 3) := by decide +kernel
theorem dX8_hourLines_19 : decode cX8_hourLines 19 = .ok (.ifCond .eq 7, 3) := by decide +kernel
theorem dX8_hourLines_22 : decode cX8_hourLines 22 = .ok (.iconst 1, 1) := by decide +kernel
theorem dX8_hourLines_23 : decode cX8_hourLines 23 = .ok (.goto 4, 3) := by decide +kernel
theorem dX8_hourLines_26 : decode cX8_hourLines 26 = .ok (.iconst 0, 1) := by decide +kernel
theorem dX8_hourLines_27 : decode cX8_hourLines 27 = .ok (.iadd, 1) := by decide +kernel
theorem dX8_hourLines_28 : decode cX8_hourLines 28 = .ok (.istore_n 1, 1) := by decide +kernel
theorem dX8_hourLines_29 : decode cX8_hourLines 29 = .ok (.iinc 2 60, 3) := by decide +kernel
theorem dX8_hourLines_32 : decode cX8_hourLines 32 = .ok (.goto (-26), 3) := by decide +kernel
theorem dX8_hourLines_35 : decode cX8_hourLines 35 = .ok (.iload_n 1, 1) := by decide +kernel
theorem dX8_hourLines_36 : decode cX8_hourLines 36 = .ok (.ireturn, 1) := by decide +kernel
theorem dX8_of_0 : decode cX8_of 0 = .ok (.aload_n 0, 1) := by decide +kernel
theorem dX8_of_1 : decode cX8_of 1 = .ok (.getfield 7, 3) := by decide +kernel
theorem dX8_of_4 : decode cX8_of 4 = .ok (.bipush 38, 2) := by decide +kernel
theorem dX8_of_6 : decode cX8_of 6 = .ok (.bipush 8, 2) := by decide +kernel
theorem dX8_of_8 : decode cX8_of 8 = .ok (.iload_n 1, 1) := by decide +kernel
theorem dX8_of_9 : decode cX8_of 9 = .ok (.imul, 1) := by decide +kernel
theorem dX8_of_10 : decode cX8_of 10 = .ok (.iadd, 1) := by decide +kernel
theorem dX8_of_11 : decode cX8_of 11 = .ok (.iload_n 2, 1) := by decide +kernel
theorem dX8_of_12 : decode cX8_of 12 = .ok (.iadd, 1) := by decide +kernel
theorem dX8_of_13 : decode cX8_of 13 = .ok (.iaload, 1) := by decide +kernel
theorem dX8_of_14 : decode cX8_of 14 = .ok (.ireturn, 1) := by decide +kernel
theorem dX8_put_0 : decode cX8_put 0 = .ok (.aload_n 0, 1) := by decide +kernel
theorem dX8_put_1 : decode cX8_put 1 = .ok (.getfield 7, 3) := by decide +kernel
theorem dX8_put_4 : decode cX8_put 4 = .ok (.bipush 38, 2) := by decide +kernel
theorem dX8_put_6 : decode cX8_put 6 = .ok (.bipush 8, 2) := by decide +kernel
theorem dX8_put_8 : decode cX8_put 8 = .ok (.iload_n 1, 1) := by decide +kernel
theorem dX8_put_9 : decode cX8_put 9 = .ok (.imul, 1) := by decide +kernel
theorem dX8_put_10 : decode cX8_put 10 = .ok (.iadd, 1) := by decide +kernel
theorem dX8_put_11 : decode cX8_put 11 = .ok (.iload_n 2, 1) := by decide +kernel
theorem dX8_put_12 : decode cX8_put 12 = .ok (.iadd, 1) := by decide +kernel
theorem dX8_put_13 : decode cX8_put 13 = .ok (.iload_n 3, 1) := by decide +kernel
theorem dX8_put_14 : decode cX8_put 14 = .ok (.iastore, 1) := by decide +kernel
theorem dX8_put_15 : decode cX8_put 15 = .ok (.return_, 1) := by decide +kernel
theorem dX8_isWall_0 : decode cX8_isWall 0 = .ok (.iload_n 1, 1) := by decide +kernel
theorem dX8_isWall_1 : decode cX8_isWall 1 = .ok (.iconst 0, 1) := by decide +kernel
theorem dX8_isWall_2 : decode cX8_isWall 2 = .ok (.aload_n 0, 1) := by decide +kernel
theorem dX8_isWall_3 : decode cX8_isWall 3 = .ok (.getfield 7, 3) := by decide +kernel
theorem dX8_isWall_6 : decode cX8_isWall 6 = .ok (.iconst 0, 1) := by decide +kernel
theorem dX8_isWall_7 : decode cX8_isWall 7 = .ok (.iaload, 1) := by decide +kernel
theorem dX8_isWall_8 : decode cX8_isWall 8 = .ok (.iconst 1, 1) := by decide +kernel
theorem dX8_isWall_9 : decode cX8_isWall 9 = .ok (.isub, 1) := by decide +kernel
theorem dX8_isWall_10 : decode cX8_isWall 10 = .ok (.invokestatic 90, 3) := by decide +kernel
theorem dX8_isWall_13 : decode cX8_isWall 13 = .ok (.ireturn, 1) := by decide +kernel
theorem dX8_isCommission_0 : decode cX8_isCommission 0 = .ok (.iload_n 1, 1) := by decide +kernel
theorem dX8_isCommission_1 : decode cX8_isCommission 1 = .ok (.iconst 0, 1) := by decide +kernel
theorem dX8_isCommission_2 : decode cX8_isCommission 2 = .ok (.aload_n 0, 1) := by decide +kernel
theorem dX8_isCommission_3 : decode cX8_isCommission 3 = .ok (.getfield 7, 3) := by decide +kernel
theorem dX8_isCommission_6 : decode cX8_isCommission 6 = .ok (.iconst 1, 1) := by decide +kernel
theorem dX8_isCommission_7 : decode cX8_isCommission 7 = .ok (.iaload, 1) := by decide +kernel
theorem dX8_isCommission_8 : decode cX8_isCommission 8 = .ok (.iconst 1, 1) := by decide +kernel
theorem dX8_isCommission_9 : decode cX8_isCommission 9 = .ok (.isub, 1) := by decide +kernel
theorem dX8_isCommission_10 : decode cX8_isCommission 10 = .ok (.invokestatic 90, 3) := by decide +kernel
theorem dX8_isCommission_13 : decode cX8_isCommission 13 = .ok (.ireturn, 1) := by decide +kernel
theorem dX8_isBit_0 : decode cX8_isBit 0 = .ok (.iload_n 0, 1) := by decide +kernel
theorem dX8_isBit_1 : decode cX8_isBit 1 = .ok (.iconst 0, 1) := by decide +kernel
theorem dX8_isBit_2 : decode cX8_isBit 2 = .ok (.iconst 1, 1) := by decide +kernel
theorem dX8_isBit_3 : decode cX8_isBit 3 = .ok (.invokestatic 90, 3) := by decide +kernel
theorem dX8_isBit_6 : decode cX8_isBit 6 = .ok (.ireturn, 1) := by decide +kernel
theorem dX8_setCorrection_0 : decode cX8_setCorrection 0 = .ok (.aload_n 0, 1) := by decide +kernel
theorem dX8_setCorrection_1 : decode cX8_setCorrection 1 = .ok (.iconst 0, 1) := by decide +kernel
theorem dX8_setCorrection_2 : decode cX8_setCorrection 2 = .ok (.putfield 35, 3) := by decide +kernel
theorem dX8_setCorrection_5 : decode cX8_setCorrection 5 = .ok (.iload_n 1, 1) := by decide +kernel
theorem dX8_setCorrection_6 : decode cX8_setCorrection 6 = .ok (.iconst 0, 1) := by decide +kernel
theorem dX8_setCorrection_7 : decode cX8_setCorrection 7 = .ok (.bipush 11, 2) := by decide +kernel
theorem dX8_setCorrection_9 : decode cX8_setCorrection 9 = .ok (.invokestatic 90, 3) := by decide +kernel
theorem dX8_setCorrection_12 : decode cX8_setCorrection 12 = .ok (.ifCond .eq 14, 3) := by decide +kernel
theorem dX8_setCorrection_15 : decode cX8_setCorrection 15 = .ok (.iload_n 2, 1) := by decide +kernel
theorem dX8_setCorrection_16 : decode cX8_setCorrection 16 = .ok (.bipush (-20), 2) := by decide +kernel
theorem dX8_setCorrection_18 : decode cX8_setCorrection 18 = .ok (.bipush 20, 2) := by decide +kernel
theorem dX8_setCorrection_20 : decode cX8_setCorrection 20 = .ok (.invokestatic 90, 3) := by decide +kernel
theorem dX8_setCorrection_23 : decode cX8_setCorrection 23 = .ok (.ifCond .ne 6, 3) := by decide +kernel
theorem dX8_setCorrection_26 : decode cX8_setCorrection 26 = .ok (.ldc 94, 2) := by decide +kernel
theorem dX8_setCorrection_28 : decode cX8_setCorrection 28 = .ok (.ireturn, 1) := by decide +kernel
theorem dX8_setCorrection_29 : decode cX8_setCorrection 29 = .ok (.aload_n 0, 1) := by decide +kernel
theorem dX8_setCorrection_30 : decode cX8_setCorrection 30 = .ok (.invokevirtual 95, 3) := by decide +kernel
theorem dX8_setCorrection_33 : decode cX8_setCorrection 33 = .ok (.aload_n 0, 1) := by decide +kernel
theorem dX8_setCorrection_34 : decode cX8_setCorrection 34 = .ok (.getfield 7, 3) := by decide +kernel
theorem dX8_setCorrection_37 : decode cX8_setCorrection 37 = .ok (.bipush 8, 2) := by decide +kernel
theorem dX8_setCorrection_39 : decode cX8_setCorrection 39 = .ok (.iload_n 1, 1) := by decide +kernel
theorem dX8_setCorrection_40 : decode cX8_setCorrection 40 = .ok (.iadd, 1) := by decide +kernel
theorem dX8_setCorrection_41 : decode cX8_setCorrection 41 = .ok (.iaload, 1) := by decide +kernel
theorem dX8_setCorrection_42 : decode cX8_setCorrection 42 = .ok (.istore_n 3, 1) := by decide +kernel
theorem dX8_setCorrection_43 : decode cX8_setCorrection 43 = .ok (.aload_n 0, 1) := by decide +kernel
theorem dX8_setCorrection_44 : decode cX8_setCorrection 44 = .ok (.getfield 7, 3) := by decide +kernel
theorem dX8_setCorrection_47 : decode cX8_setCorrection 47 = .ok (.bipush 8, 2) := by decide +kernel
theorem dX8_setCorrection_49 : decode cX8_setCorrection 49 = .ok (.iload_n 1, 1) := by decide +kernel
theorem dX8_setCorrection_50 : decode cX8_setCorrection 50 = .ok (.iadd, 1) := by decide +kernel
theorem dX8_setCorrection_51 : decode cX8_setCorrection 51 = .ok (.iload_n 2, 1) := by decide +kernel
theorem dX8_setCorrection_52 : decode cX8_setCorrection 52 = .ok (.iastore, 1) := by decide +kernel
theorem dX8_setCorrection_53 : decode cX8_setCorrection 53 = .ok (.iload_n 3, 1) := by decide +kernel
theorem dX8_setCorrection_54 : decode cX8_setCorrection 54 = .ok (.ireturn, 1) := by decide +kernel
theorem dX8_leastOf_0 : decode cX8_leastOf 0 = .ok (.iload_n 0, 1) := by decide +kernel
theorem dX8_leastOf_1 : decode cX8_leastOf 1 = .ok (.ifCond .eq 8, 3) := by decide +kernel
theorem dX8_leastOf_4 : decode cX8_leastOf 4 = .ok (.iload_n 0, 1) := by decide +kernel
theorem dX8_leastOf_5 : decode cX8_leastOf 5 = .ok (.iconst 2, 1) := by decide +kernel
theorem dX8_leastOf_6 : decode cX8_leastOf 6 = .ok (.if_icmp .ne 7, 3) := by decide +kernel
theorem dX8_leastOf_9 : decode cX8_leastOf 9 = .ok (.iconst 0, 1) := by decide +kernel
theorem dX8_leastOf_10 : decode cX8_leastOf 10 = .ok (.goto 4, 3) := by decide +kernel
theorem dX8_leastOf_13 : decode cX8_leastOf 13 = .ok (.iconst 1, 1) := by decide +kernel
theorem dX8_leastOf_14 : decode cX8_leastOf 14 = .ok (.ireturn, 1) := by decide +kernel
theorem dX8_mostOf_0 : decode cX8_mostOf 0 = .ok (.iload_n 0, 1) := by decide +kernel
theorem dX8_mostOf_1 : decode cX8_mostOf 1 = .ok (.ifCond .ne 8, 3) := by decide +kernel
theorem dX8_mostOf_4 : decode cX8_mostOf 4 = .ok (.bipush 10, 2) := by decide +kernel
theorem dX8_mostOf_6 : decode cX8_mostOf 6 = .ok (.goto 25, 3) := by decide +kernel
theorem dX8_mostOf_9 : decode cX8_mostOf 9 = .ok (.iload_n 0, 1) := by decide +kernel
theorem dX8_mostOf_10 : decode cX8_mostOf 10 = .ok (.iconst 1, 1) := by decide +kernel
theorem dX8_mostOf_11 : decode cX8_mostOf 11 = .ok (.if_icmp .ne 8, 3) := by decide +kernel
theorem dX8_mostOf_14 : decode cX8_mostOf 14 = .ok (.bipush 13, 2) := by decide +kernel
theorem dX8_mostOf_16 : decode cX8_mostOf 16 = .ok (.goto 15, 3) := by decide +kernel
theorem dX8_mostOf_19 : decode cX8_mostOf 19 = .ok (.iload_n 0, 1) := by decide +kernel
theorem dX8_mostOf_20 : decode cX8_mostOf 20 = .ok (.iconst 2, 1) := by decide +kernel
theorem dX8_mostOf_21 : decode cX8_mostOf 21 = .ok (.if_icmp .ne 8, 3) := by decide +kernel
theorem dX8_mostOf_24 : decode cX8_mostOf 24 = .ok (.bipush 60, 2) := by decide +kernel
theorem dX8_mostOf_26 : decode cX8_mostOf 26 = .ok (.goto 5, 3) := by decide +kernel
theorem dX8_mostOf_29 : decode cX8_mostOf 29 = .ok (.bipush 100, 2) := by decide +kernel
theorem dX8_mostOf_31 : decode cX8_mostOf 31 = .ok (.ireturn, 1) := by decide +kernel
theorem dX8_set_0 : decode cX8_set 0 = .ok (.aload_n 0, 1) := by decide +kernel
theorem dX8_set_1 : decode cX8_set 1 = .ok (.iconst 0, 1) := by decide +kernel
theorem dX8_set_2 : decode cX8_set 2 = .ok (.putfield 35, 3) := by decide +kernel
theorem dX8_set_5 : decode cX8_set 5 = .ok (.iload_n 1, 1) := by decide +kernel
theorem dX8_set_6 : decode cX8_set 6 = .ok (.iconst 0, 1) := by decide +kernel
theorem dX8_set_7 : decode cX8_set 7 = .ok (.iconst 3, 1) := by decide +kernel
theorem dX8_set_8 : decode cX8_set 8 = .ok (.invokestatic 90, 3) := by decide +kernel
theorem dX8_set_11 : decode cX8_set 11 = .ok (.ifCond .eq 18, 3) := by decide +kernel
theorem dX8_set_14 : decode cX8_set 14 = .ok (.iload_n 2, 1) := by decide +kernel
theorem dX8_set_15 : decode cX8_set 15 = .ok (.iload_n 1, 1) := by decide +kernel
theorem dX8_set_16 : decode cX8_set 16 = .ok (.invokestatic 98, 3) := by decide +kernel
theorem dX8_set_19 : decode cX8_set 19 = .ok (.iload_n 1, 1) := by decide +kernel
theorem dX8_set_20 : decode cX8_set 20 = .ok (.invokestatic 101, 3) := by decide +kernel
theorem dX8_set_23 : decode cX8_set 23 = .ok (.invokestatic 90, 3) := by decide +kernel
theorem dX8_set_26 : decode cX8_set 26 = .ok (.ifCond .ne 6, 3) := by decide +kernel
theorem dX8_set_29 : decode cX8_set 29 = .ok (.ldc 94, 2) := by decide +kernel
theorem dX8_set_31 : decode cX8_set 31 = .ok (.ireturn, 1) := by decide +kernel
theorem dX8_set_32 : decode cX8_set 32 = .ok (.aload_n 0, 1) := by decide +kernel
theorem dX8_set_33 : decode cX8_set 33 = .ok (.invokevirtual 95, 3) := by decide +kernel
theorem dX8_set_36 : decode cX8_set 36 = .ok (.aload_n 0, 1) := by decide +kernel
theorem dX8_set_37 : decode cX8_set 37 = .ok (.getfield 7, 3) := by decide +kernel
theorem dX8_set_40 : decode cX8_set 40 = .ok (.iconst 4, 1) := by decide +kernel
theorem dX8_set_41 : decode cX8_set 41 = .ok (.iload_n 1, 1) := by decide +kernel
theorem dX8_set_42 : decode cX8_set 42 = .ok (.iadd, 1) := by decide +kernel
theorem dX8_set_43 : decode cX8_set 43 = .ok (.iaload, 1) := by decide +kernel
theorem dX8_set_44 : decode cX8_set 44 = .ok (.istore_n 3, 1) := by decide +kernel
theorem dX8_set_45 : decode cX8_set 45 = .ok (.aload_n 0, 1) := by decide +kernel
theorem dX8_set_46 : decode cX8_set 46 = .ok (.getfield 7, 3) := by decide +kernel
theorem dX8_set_49 : decode cX8_set 49 = .ok (.iconst 4, 1) := by decide +kernel
theorem dX8_set_50 : decode cX8_set 50 = .ok (.iload_n 1, 1) := by decide +kernel
theorem dX8_set_51 : decode cX8_set 51 = .ok (.iadd, 1) := by decide +kernel
theorem dX8_set_52 : decode cX8_set 52 = .ok (.iload_n 2, 1) := by decide +kernel
theorem dX8_set_53 : decode cX8_set 53 = .ok (.iastore, 1) := by decide +kernel
theorem dX8_set_54 : decode cX8_set 54 = .ok (.iload_n 3, 1) := by decide +kernel
theorem dX8_set_55 : decode cX8_set 55 = .ok (.ireturn, 1) := by decide +kernel
theorem dX8_wallCode_0 : decode cX8_wallCode 0 = .ok (.aload_n 0, 1) := by decide +kernel
theorem dX8_wallCode_1 : decode cX8_wallCode 1 = .ok (.getfield 7, 3) := by decide +kernel
theorem dX8_wallCode_4 : decode cX8_wallCode 4 = .ok (.iconst 0, 1) := by decide +kernel
theorem dX8_wallCode_5 : decode cX8_wallCode 5 = .ok (.iaload, 1) := by decide +kernel
theorem dX8_wallCode_6 : decode cX8_wallCode 6 = .ok (.bipush 6, 2) := by decide +kernel
theorem dX8_wallCode_8 : decode cX8_wallCode 8 = .ok (.if_icmp .ne 8, 3) := by decide +kernel
theorem dX8_wallCode_11 : decode cX8_wallCode 11 = .ok (.ldc 104, 2) := by decide +kernel
theorem dX8_wallCode_13 : decode cX8_wallCode 13 = .ok (.goto 4, 3) := by decide +kernel
theorem dX8_wallCode_16 : decode cX8_wallCode 16 = .ok (.iconst 0, 1) := by decide +kernel
theorem dX8_wallCode_17 : decode cX8_wallCode 17 = .ok (.ireturn, 1) := by decide +kernel
theorem dX8_wallNow_0 : decode cX8_wallNow 0 = .ok (.bipush 20, 2) := by decide +kernel
theorem dX8_wallNow_2 : decode cX8_wallNow 2 = .ok (.iconst 3, 1) := by decide +kernel
theorem dX8_wallNow_3 : decode cX8_wallNow 3 = .ok (.aload_n 0, 1) := by decide +kernel
theorem dX8_wallNow_4 : decode cX8_wallNow 4 = .ok (.getfield 7, 3) := by decide +kernel
theorem dX8_wallNow_7 : decode cX8_wallNow 7 = .ok (.iconst 0, 1) := by decide +kernel
theorem dX8_wallNow_8 : decode cX8_wallNow 8 = .ok (.iaload, 1) := by decide +kernel
theorem dX8_wallNow_9 : decode cX8_wallNow 9 = .ok (.imul, 1) := by decide +kernel
theorem dX8_wallNow_10 : decode cX8_wallNow 10 = .ok (.iadd, 1) := by decide +kernel
theorem dX8_wallNow_11 : decode cX8_wallNow 11 = .ok (.istore_n 1, 1) := by decide +kernel
theorem dX8_wallNow_12 : decode cX8_wallNow 12 = .ok (.aload_n 0, 1) := by decide +kernel
theorem dX8_wallNow_13 : decode cX8_wallNow 13 = .ok (.getfield 7, 3) := by decide +kernel
theorem dX8_wallNow_16 : decode cX8_wallNow 16 = .ok (.iload_n 1, 1) := by decide +kernel
theorem dX8_wallNow_17 : decode cX8_wallNow 17 = .ok (.iconst 0, 1) := by decide +kernel
theorem dX8_wallNow_18 : decode cX8_wallNow 18 = .ok (.iastore, 1) := by decide +kernel
theorem dX8_wallNow_19 : decode cX8_wallNow 19 = .ok (.aload_n 0, 1) := by decide +kernel
theorem dX8_wallNow_20 : decode cX8_wallNow 20 = .ok (.getfield 7, 3) := by decide +kernel
theorem dX8_wallNow_23 : decode cX8_wallNow 23 = .ok (.iload_n 1, 1) := by decide +kernel
theorem dX8_wallNow_24 : decode cX8_wallNow 24 = .ok (.iconst 1, 1) := by decide +kernel
theorem dX8_wallNow_25 : decode cX8_wallNow 25 = .ok (.iadd, 1) := by decide +kernel
theorem dX8_wallNow_26 : decode cX8_wallNow 26 = .ok (.ldc 83, 2) := by decide +kernel
theorem dX8_wallNow_28 : decode cX8_wallNow 28 = .ok (.iastore, 1) := by decide +kernel
theorem dX8_wallNow_29 : decode cX8_wallNow 29 = .ok (.aload_n 0, 1) := by decide +kernel
theorem dX8_wallNow_30 : decode cX8_wallNow 30 = .ok (.getfield 7, 3) := by decide +kernel
theorem dX8_wallNow_33 : decode cX8_wallNow 33 = .ok (.iload_n 1, 1) := by decide +kernel
theorem dX8_wallNow_34 : decode cX8_wallNow 34 = .ok (.iconst 2, 1) := by decide +kernel
theorem dX8_wallNow_35 : decode cX8_wallNow 35 = .ok (.iadd, 1) := by decide +kernel
theorem dX8_wallNow_36 : decode cX8_wallNow 36 = .ok (.ldc 83, 2) := by decide +kernel
theorem dX8_wallNow_38 : decode cX8_wallNow 38 = .ok (.iastore, 1) := by decide +kernel
theorem dX8_wallNow_39 : decode cX8_wallNow 39 = .ok (.aload_n 0, 1) := by decide +kernel
theorem dX8_wallNow_40 : decode cX8_wallNow 40 = .ok (.getfield 7, 3) := by decide +kernel
theorem dX8_wallNow_43 : decode cX8_wallNow 43 = .ok (.iconst 0, 1) := by decide +kernel
theorem dX8_wallNow_44 : decode cX8_wallNow 44 = .ok (.dup2, 1) := by decide +kernel
theorem dX8_wallNow_45 : decode cX8_wallNow 45 = .ok (.iaload, 1) := by decide +kernel
theorem dX8_wallNow_46 : decode cX8_wallNow 46 = .ok (.iconst 1, 1) := by decide +kernel
theorem dX8_wallNow_47 : decode cX8_wallNow 47 = .ok (.iadd, 1) := by decide +kernel
theorem dX8_wallNow_48 : decode cX8_wallNow 48 = .ok (.iastore, 1) := by decide +kernel
theorem dX8_wallNow_49 : decode cX8_wallNow 49 = .ok (.aload_n 0, 1) := by decide +kernel
theorem dX8_wallNow_50 : decode cX8_wallNow 50 = .ok (.getfield 7, 3) := by decide +kernel
theorem dX8_wallNow_53 : decode cX8_wallNow 53 = .ok (.iconst 0, 1) := by decide +kernel
theorem dX8_wallNow_54 : decode cX8_wallNow 54 = .ok (.iaload, 1) := by decide +kernel
theorem dX8_wallNow_55 : decode cX8_wallNow 55 = .ok (.iconst 1, 1) := by decide +kernel
theorem dX8_wallNow_56 : decode cX8_wallNow 56 = .ok (.isub, 1) := by decide +kernel
theorem dX8_wallNow_57 : decode cX8_wallNow 57 = .ok (.ireturn, 1) := by decide +kernel
theorem dX8_addWall_0 : decode cX8_addWall 0 = .ok (.aload_n 0, 1) := by decide +kernel
theorem dX8_addWall_1 : decode cX8_addWall 1 = .ok (.iconst 0, 1) := by decide +kernel
theorem dX8_addWall_2 : decode cX8_addWall 2 = .ok (.putfield 35, 3) := by decide +kernel
theorem dX8_addWall_5 : decode cX8_addWall 5 = .ok (.aload_n 0, 1) := by decide +kernel
theorem dX8_addWall_6 : decode cX8_addWall 6 = .ok (.invokevirtual 105, 3) := by decide +kernel
theorem dX8_addWall_9 : decode cX8_addWall 9 = .ok (.istore_n 1, 1) := by decide +kernel
theorem dX8_addWall_10 : decode cX8_addWall 10 = .ok (.iload_n 1, 1) := by decide +kernel
theorem dX8_addWall_11 : decode cX8_addWall 11 = .ok (.ifCond .ge 5, 3) := by decide +kernel
theorem dX8_addWall_14 : decode cX8_addWall 14 = .ok (.iload_n 1, 1) := by decide +kernel
theorem dX8_addWall_15 : decode cX8_addWall 15 = .ok (.ireturn, 1) := by decide +kernel
theorem dX8_addWall_16 : decode cX8_addWall 16 = .ok (.aload_n 0, 1) := by decide +kernel
theorem dX8_addWall_17 : decode cX8_addWall 17 = .ok (.invokevirtual 95, 3) := by decide +kernel
theorem dX8_addWall_20 : decode cX8_addWall 20 = .ok (.aload_n 0, 1) := by decide +kernel
theorem dX8_addWall_21 : decode cX8_addWall 21 = .ok (.invokevirtual 109, 3) := by decide +kernel
theorem dX8_addWall_24 : decode cX8_addWall 24 = .ok (.ireturn, 1) := by decide +kernel
theorem dX8_declinationOfWall_0 : decode cX8_declinationOfWall 0 = .ok (.bipush 20, 2) := by decide +kernel
theorem dX8_declinationOfWall_2 : decode cX8_declinationOfWall 2 = .ok (.iconst 3, 1) := by decide +kernel
theorem dX8_declinationOfWall_3 : decode cX8_declinationOfWall 3 = .ok (.iload_n 1, 1) := by decide +kernel
theorem dX8_declinationOfWall_4 : decode cX8_declinationOfWall 4 = .ok (.imul, 1) := by decide +kernel
theorem dX8_declinationOfWall_5 : decode cX8_declinationOfWall 5 = .ok (.iadd, 1) := by decide +kernel
theorem dX8_declinationOfWall_6 : decode cX8_declinationOfWall 6 = .ok (.istore_n 2, 1) := by decide +kernel
theorem dX8_declinationOfWall_7 : decode cX8_declinationOfWall 7 = .ok (.aload_n 0, 1) := by decide +kernel
theorem dX8_declinationOfWall_8 : decode cX8_declinationOfWall 8 = .ok (.getfield 7, 3) := by decide +kernel
theorem dX8_declinationOfWall_11 : decode cX8_declinationOfWall 11 = .ok (.iload_n 2, 1) := by decide +kernel
theorem dX8_declinationOfWall_12 : decode cX8_declinationOfWall 12 = .ok (.iaload, 1) := by decide +kernel
theorem dX8_declinationOfWall_13 : decode cX8_declinationOfWall 13 = .ok (.iconst 2, 1) := by decide +kernel
theorem dX8_declinationOfWall_14 : decode cX8_declinationOfWall 14 = .ok (.if_icmp .lt 32, 3) := by decide +kernel
theorem dX8_declinationOfWall_17 : decode cX8_declinationOfWall 17 = .ok (.aload_n 0, 1) := by decide +kernel
theorem dX8_declinationOfWall_18 : decode cX8_declinationOfWall 18 = .ok (.getfield 7, 3) := by decide +kernel
theorem dX8_declinationOfWall_21 : decode cX8_declinationOfWall 21 = .ok (.iload_n 2, 1) := by decide +kernel
theorem dX8_declinationOfWall_22 : decode cX8_declinationOfWall 22 = .ok (.iconst 1, 1) := by decide +kernel
theorem dX8_declinationOfWall_23 : decode cX8_declinationOfWall 23 = .ok (.iadd, 1) := by decide +kernel
theorem dX8_declinationOfWall_24 : decode cX8_declinationOfWall 24 = .ok (.iaload, 1) := by decide +kernel
theorem dX8_declinationOfWall_25 : decode cX8_declinationOfWall 25 = .ok (.aload_n 0, 1) := by decide +kernel
theorem dX8_declinationOfWall_26 : decode cX8_declinationOfWall 26 = .ok (.getfield 7, 3) := by decide +kernel
theorem dX8_declinationOfWall_29 : decode cX8_declinationOfWall 29 = .ok (.iload_n 2, 1) := by decide +kernel
theorem dX8_declinationOfWall_30 : decode cX8_declinationOfWall 30 = .ok (.iconst 2, 1) := by decide +kernel
theorem dX8_declinationOfWall_31 : decode cX8_declinationOfWall 31 = .ok (.iadd, 1) := by decide +kernel
theorem dX8_declinationOfWall_32 : decode cX8_declinationOfWall 32 = .ok (.iaload, 1) := by decide +kernel
theorem dX8_declinationOfWall_33 : decode cX8_declinationOfWall 33 = .ok (.isub, 1) := by decide +kernel
theorem dX8_declinationOfWall_34 : decode cX8_declinationOfWall 34 = .ok (.invokestatic 84, 3) := by decide +kernel
theorem dX8_declinationOfWall_37 : decode cX8_declinationOfWall 37 = .ok (.aload_n 0, 1) := by decide +kernel
theorem dX8_declinationOfWall_38 : decode cX8_declinationOfWall 38 = .ok (.getfield 7, 3) := by decide +kernel
theorem dX8_declinationOfWall_41 : decode cX8_declinationOfWall 41 = .ok (.iconst 4, 1) := by decide +kernel
theorem dX8_declinationOfWall_42 : decode cX8_declinationOfWall 42 = .ok (.iaload, 1) := by decide +kernel
theorem dX8_declinationOfWall_43 : decode cX8_declinationOfWall 43 = .ok (.if_icmp .le 6, 3) := by decide +kernel
theorem dX8_declinationOfWall_46 : decode cX8_declinationOfWall 46 = .ok (.ldc 83, 2) := by decide +kernel
theorem dX8_declinationOfWall_48 : decode cX8_declinationOfWall 48 = .ok (.ireturn, 1) := by decide +kernel
theorem dX8_declinationOfWall_49 : decode cX8_declinationOfWall 49 = .ok (.aload_n 0, 1) := by decide +kernel
theorem dX8_declinationOfWall_50 : decode cX8_declinationOfWall 50 = .ok (.getfield 7, 3) := by decide +kernel
theorem dX8_declinationOfWall_53 : decode cX8_declinationOfWall 53 = .ok (.iload_n 2, 1) := by decide +kernel
theorem dX8_declinationOfWall_54 : decode cX8_declinationOfWall 54 = .ok (.iconst 1, 1) := by decide +kernel
theorem dX8_declinationOfWall_55 : decode cX8_declinationOfWall 55 = .ok (.iadd, 1) := by decide +kernel
theorem dX8_declinationOfWall_56 : decode cX8_declinationOfWall 56 = .ok (.iaload, 1) := by decide +kernel
theorem dX8_declinationOfWall_57 : decode cX8_declinationOfWall 57 = .ok (.aload_n 0, 1) := by decide +kernel
theorem dX8_declinationOfWall_58 : decode cX8_declinationOfWall 58 = .ok (.getfield 7, 3) := by decide +kernel
theorem dX8_declinationOfWall_61 : decode cX8_declinationOfWall 61 = .ok (.iload_n 2, 1) := by decide +kernel
theorem dX8_declinationOfWall_62 : decode cX8_declinationOfWall 62 = .ok (.iconst 2, 1) := by decide +kernel
theorem dX8_declinationOfWall_63 : decode cX8_declinationOfWall 63 = .ok (.iadd, 1) := by decide +kernel
theorem dX8_declinationOfWall_64 : decode cX8_declinationOfWall 64 = .ok (.iaload, 1) := by decide +kernel
theorem dX8_declinationOfWall_65 : decode cX8_declinationOfWall 65 = .ok (.iadd, 1) := by decide +kernel
theorem dX8_declinationOfWall_66 : decode cX8_declinationOfWall 66 = .ok (.i2l, 1) := by decide +kernel
theorem dX8_declinationOfWall_67 : decode cX8_declinationOfWall 67 = .ok (.ldc2_w 112, 3) := by decide +kernel
theorem dX8_declinationOfWall_70 : decode cX8_declinationOfWall 70 = .ok (.invokestatic 46, 3) := by decide +kernel
theorem dX8_declinationOfWall_73 : decode cX8_declinationOfWall 73 = .ok (.l2i, 1) := by decide +kernel
theorem dX8_declinationOfWall_74 : decode cX8_declinationOfWall 74 = .ok (.ireturn, 1) := by decide +kernel
theorem dX8_measureCode_0 : decode cX8_measureCode 0 = .ok (.aload_n 0, 1) := by decide +kernel
theorem dX8_measureCode_1 : decode cX8_measureCode 1 = .ok (.iload_n 1, 1) := by decide +kernel
theorem dX8_measureCode_2 : decode cX8_measureCode 2 = .ok (.invokevirtual 114, 3) := by decide +kernel
theorem dX8_measureCode_5 : decode cX8_measureCode 5 = .ok (.ifCond .eq 18, 3) := by decide +kernel
theorem dX8_measureCode_8 : decode cX8_measureCode 8 = .ok (.iload_n 2, 1) := by decide +kernel
theorem dX8_measureCode_9 : decode cX8_measureCode 9 = .ok (.bipush (-60), 2) := by decide +kernel
theorem dX8_measureCode_11 : decode cX8_measureCode 11 = .ok (.bipush 60, 2) := by decide +kernel
theorem dX8_measureCode_13 : decode cX8_measureCode 13 = .ok (.invokestatic 90, 3) := by decide +kernel
theorem dX8_measureCode_16 : decode cX8_measureCode 16 = .ok (.ifCond .eq 7, 3) := by decide +kernel
theorem dX8_measureCode_19 : decode cX8_measureCode 19 = .ok (.iconst 0, 1) := by decide +kernel
theorem dX8_measureCode_20 : decode cX8_measureCode 20 = .ok (.goto 5, 3) := by decide +kernel
theorem dX8_measureCode_23 : decode cX8_measureCode 23 = .ok (.ldc 94, 2) := by decide +kernel
theorem dX8_measureCode_25 : decode cX8_measureCode 25 = .ok (.ireturn, 1) := by decide +kernel
theorem dX8_measureNow_0 : decode cX8_measureNow 0 = .ok (.bipush 20, 2) := by decide +kernel
theorem dX8_measureNow_2 : decode cX8_measureNow 2 = .ok (.iconst 3, 1) := by decide +kernel
theorem dX8_measureNow_3 : decode cX8_measureNow 3 = .ok (.iload_n 1, 1) := by decide +kernel
theorem dX8_measureNow_4 : decode cX8_measureNow 4 = .ok (.imul, 1) := by decide +kernel
theorem dX8_measureNow_5 : decode cX8_measureNow 5 = .ok (.iadd, 1) := by decide +kernel
theorem dX8_measureNow_6 : decode cX8_measureNow 6 = .ok (.istore_n 3, 1) := by decide +kernel
theorem dX8_measureNow_7 : decode cX8_measureNow 7 = .ok (.aload_n 0, 1) := by decide +kernel
theorem dX8_measureNow_8 : decode cX8_measureNow 8 = .ok (.getfield 7, 3) := by decide +kernel
theorem dX8_measureNow_11 : decode cX8_measureNow 11 = .ok (.iload_n 3, 1) := by decide +kernel
theorem dX8_measureNow_12 : decode cX8_measureNow 12 = .ok (.aload_n 0, 1) := by decide +kernel
theorem dX8_measureNow_13 : decode cX8_measureNow 13 = .ok (.getfield 7, 3) := by decide +kernel
theorem dX8_measureNow_16 : decode cX8_measureNow 16 = .ok (.iload_n 3, 1) := by decide +kernel
theorem dX8_measureNow_17 : decode cX8_measureNow 17 = .ok (.iaload, 1) := by decide +kernel
theorem dX8_measureNow_18 : decode cX8_measureNow 18 = .ok (.iconst 2, 1) := by decide +kernel
theorem dX8_measureNow_19 : decode cX8_measureNow 19 = .ok (.if_icmp .ne 7, 3) := by decide +kernel
theorem dX8_measureNow_22 : decode cX8_measureNow 22 = .ok (.iconst 2, 1) := by decide +kernel
theorem dX8_measureNow_23 : decode cX8_measureNow 23 = .ok (.goto 11, 3) := by decide +kernel
theorem dX8_measureNow_26 : decode cX8_measureNow 26 = .ok (.aload_n 0, 1) := by decide +kernel
theorem dX8_measureNow_27 : decode cX8_measureNow 27 = .ok (.getfield 7, 3) := by decide +kernel
theorem dX8_measureNow_30 : decode cX8_measureNow 30 = .ok (.iload_n 3, 1) := by decide +kernel
theorem dX8_measureNow_31 : decode cX8_measureNow 31 = .ok (.iaload, 1) := by decide +kernel
theorem dX8_measureNow_32 : decode cX8_measureNow 32 = .ok (.iconst 1, 1) := by decide +kernel
theorem dX8_measureNow_33 : decode cX8_measureNow 33 = .ok (.iadd, 1) := by decide +kernel
theorem dX8_measureNow_34 : decode cX8_measureNow 34 = .ok (.iastore, 1) := by decide +kernel
theorem dX8_measureNow_35 : decode cX8_measureNow 35 = .ok (.aload_n 0, 1) := by decide +kernel
theorem dX8_measureNow_36 : decode cX8_measureNow 36 = .ok (.getfield 7, 3) := by decide +kernel
theorem dX8_measureNow_39 : decode cX8_measureNow 39 = .ok (.iload_n 3, 1) := by decide +kernel
theorem dX8_measureNow_40 : decode cX8_measureNow 40 = .ok (.iconst 2, 1) := by decide +kernel
theorem dX8_measureNow_41 : decode cX8_measureNow 41 = .ok (.iadd, 1) := by decide +kernel
theorem dX8_measureNow_42 : decode cX8_measureNow 42 = .ok (.aload_n 0, 1) := by decide +kernel
theorem dX8_measureNow_43 : decode cX8_measureNow 43 = .ok (.getfield 7, 3) := by decide +kernel
theorem dX8_measureNow_46 : decode cX8_measureNow 46 = .ok (.iload_n 3, 1) := by decide +kernel
theorem dX8_measureNow_47 : decode cX8_measureNow 47 = .ok (.iconst 1, 1) := by decide +kernel
theorem dX8_measureNow_48 : decode cX8_measureNow 48 = .ok (.iadd, 1) := by decide +kernel
theorem dX8_measureNow_49 : decode cX8_measureNow 49 = .ok (.iaload, 1) := by decide +kernel
theorem dX8_measureNow_50 : decode cX8_measureNow 50 = .ok (.iastore, 1) := by decide +kernel
theorem dX8_measureNow_51 : decode cX8_measureNow 51 = .ok (.aload_n 0, 1) := by decide +kernel
theorem dX8_measureNow_52 : decode cX8_measureNow 52 = .ok (.getfield 7, 3) := by decide +kernel
theorem dX8_measureNow_55 : decode cX8_measureNow 55 = .ok (.iload_n 3, 1) := by decide +kernel
theorem dX8_measureNow_56 : decode cX8_measureNow 56 = .ok (.iconst 1, 1) := by decide +kernel
theorem dX8_measureNow_57 : decode cX8_measureNow 57 = .ok (.iadd, 1) := by decide +kernel
theorem dX8_measureNow_58 : decode cX8_measureNow 58 = .ok (.iload_n 2, 1) := by decide +kernel
theorem dX8_measureNow_59 : decode cX8_measureNow 59 = .ok (.iastore, 1) := by decide +kernel
theorem dX8_measureNow_60 : decode cX8_measureNow 60 = .ok (.aload_n 0, 1) := by decide +kernel
theorem dX8_measureNow_61 : decode cX8_measureNow 61 = .ok (.iload_n 1, 1) := by decide +kernel
theorem dX8_measureNow_62 : decode cX8_measureNow 62 = .ok (.invokevirtual 117, 3) := by decide +kernel
theorem dX8_measureNow_65 : decode cX8_measureNow 65 = .ok (.ldc 83, 2) := by decide +kernel
theorem dX8_measureNow_67 : decode cX8_measureNow 67 = .ok (.if_icmp .ne 7, 3) := by decide +kernel
theorem dX8_measureNow_70 : decode cX8_measureNow 70 = .ok (.iconst 0, 1) := by decide +kernel
theorem dX8_measureNow_71 : decode cX8_measureNow 71 = .ok (.goto 4, 3) := by decide +kernel
theorem dX8_measureNow_74 : decode cX8_measureNow 74 = .ok (.iconst 1, 1) := by decide +kernel
theorem dX8_measureNow_75 : decode cX8_measureNow 75 = .ok (.ireturn, 1) := by decide +kernel
theorem dX8_measure_0 : decode cX8_measure 0 = .ok (.aload_n 0, 1) := by decide +kernel
theorem dX8_measure_1 : decode cX8_measure 1 = .ok (.iconst 0, 1) := by decide +kernel
theorem dX8_measure_2 : decode cX8_measure 2 = .ok (.putfield 35, 3) := by decide +kernel
theorem dX8_measure_5 : decode cX8_measure 5 = .ok (.aload_n 0, 1) := by decide +kernel
theorem dX8_measure_6 : decode cX8_measure 6 = .ok (.iload_n 1, 1) := by decide +kernel
theorem dX8_measure_7 : decode cX8_measure 7 = .ok (.iload_n 2, 1) := by decide +kernel
theorem dX8_measure_8 : decode cX8_measure 8 = .ok (.invokevirtual 120, 3) := by decide +kernel
theorem dX8_measure_11 : decode cX8_measure 11 = .ok (.istore_n 3, 1) := by decide +kernel
theorem dX8_measure_12 : decode cX8_measure 12 = .ok (.iload_n 3, 1) := by decide +kernel
theorem dX8_measure_13 : decode cX8_measure 13 = .ok (.ifCond .ge 5, 3) := by decide +kernel
theorem dX8_measure_16 : decode cX8_measure 16 = .ok (.iload_n 3, 1) := by decide +kernel
theorem dX8_measure_17 : decode cX8_measure 17 = .ok (.ireturn, 1) := by decide +kernel
theorem dX8_measure_18 : decode cX8_measure 18 = .ok (.aload_n 0, 1) := by decide +kernel
theorem dX8_measure_19 : decode cX8_measure 19 = .ok (.invokevirtual 95, 3) := by decide +kernel
theorem dX8_measure_22 : decode cX8_measure 22 = .ok (.aload_n 0, 1) := by decide +kernel
theorem dX8_measure_23 : decode cX8_measure 23 = .ok (.iload_n 1, 1) := by decide +kernel
theorem dX8_measure_24 : decode cX8_measure 24 = .ok (.iload_n 2, 1) := by decide +kernel
theorem dX8_measure_25 : decode cX8_measure 25 = .ok (.invokevirtual 124, 3) := by decide +kernel
theorem dX8_measure_28 : decode cX8_measure 28 = .ok (.ireturn, 1) := by decide +kernel
theorem dX8_declinationOf_0 : decode cX8_declinationOf 0 = .ok (.aload_n 0, 1) := by decide +kernel
theorem dX8_declinationOf_1 : decode cX8_declinationOf 1 = .ok (.iload_n 1, 1) := by decide +kernel
theorem dX8_declinationOf_2 : decode cX8_declinationOf 2 = .ok (.iconst 1, 1) := by decide +kernel
theorem dX8_declinationOf_3 : decode cX8_declinationOf 3 = .ok (.invokevirtual 127, 3) := by decide +kernel
theorem dX8_declinationOf_6 : decode cX8_declinationOf 6 = .ok (.iconst (-1), 1) := by decide +kernel
theorem dX8_declinationOf_7 : decode cX8_declinationOf 7 = .ok (.if_icmp .ne 5, 3) := by decide +kernel
theorem dX8_declinationOf_10 : decode cX8_declinationOf 10 = .ok (.iconst 0, 1) := by decide +kernel
theorem dX8_declinationOf_11 : decode cX8_declinationOf 11 = .ok (.ireturn, 1) := by decide +kernel
theorem dX8_declinationOf_12 : decode cX8_declinationOf 12 = .ok (.aload_n 0, 1) := by decide +kernel
theorem dX8_declinationOf_13 : decode cX8_declinationOf 13 = .ok (.iload_n 1, 1) := by decide +kernel
theorem dX8_declinationOf_14 : decode cX8_declinationOf 14 = .ok (.iconst 4, 1) := by decide +kernel
theorem dX8_declinationOf_15 : decode cX8_declinationOf 15 = .ok (.invokevirtual 127, 3) := by decide +kernel
theorem dX8_declinationOf_18 : decode cX8_declinationOf 18 = .ok (.iconst 1, 1) := by decide +kernel
theorem dX8_declinationOf_19 : decode cX8_declinationOf 19 = .ok (.iconst 3, 1) := by decide +kernel
theorem dX8_declinationOf_20 : decode cX8_declinationOf 20 = .ok (.invokestatic 90, 3) := by decide +kernel
theorem dX8_declinationOf_23 : decode cX8_declinationOf 23 = .ok (.istore_n 2, 1) := by decide +kernel
theorem dX8_declinationOf_24 : decode cX8_declinationOf 24 = .ok (.iload_n 2, 1) := by decide +kernel
theorem dX8_declinationOf_25 : decode cX8_declinationOf 25 = .ok (.ifCond .eq 12, 3) := by decide +kernel
theorem dX8_declinationOf_28 : decode cX8_declinationOf 28 = .ok (.aload_n 0, 1) := by decide +kernel
theorem dX8_declinationOf_29 : decode cX8_declinationOf 29 = .ok (.iload_n 1, 1) := by decide +kernel
theorem dX8_declinationOf_30 : decode cX8_declinationOf 30 = .ok (.iconst 5, 1) := by decide +kernel
theorem dX8_declinationOf_31 : decode cX8_declinationOf 31 = .ok (.invokevirtual 127, 3) := by decide +kernel
theorem dX8_declinationOf_34 : decode cX8_declinationOf 34 = .ok (.goto 13, 3) := by decide +kernel
theorem dX8_declinationOf_37 : decode cX8_declinationOf 37 = .ok (.aload_n 0, 1) := by decide +kernel
theorem dX8_declinationOf_38 : decode cX8_declinationOf 38 = .ok (.aload_n 0, 1) := by decide +kernel
theorem dX8_declinationOf_39 : decode cX8_declinationOf 39 = .ok (.iload_n 1, 1) := by decide +kernel
theorem dX8_declinationOf_40 : decode cX8_declinationOf 40 = .ok (.iconst 1, 1) := by decide +kernel
theorem dX8_declinationOf_41 : decode cX8_declinationOf 41 = .ok (.invokevirtual 127, 3) := by decide +kernel
theorem dX8_declinationOf_44 : decode cX8_declinationOf 44 = .ok (.invokevirtual 117, 3) := by decide +kernel
theorem dX8_declinationOf_47 : decode cX8_declinationOf 47 = .ok (.ireturn, 1) := by decide +kernel
theorem dX8_takeDial_0 : decode cX8_takeDial 0 = .ok (.aload_n 0, 1) := by decide +kernel
theorem dX8_takeDial_1 : decode cX8_takeDial 1 = .ok (.iload_n 1, 1) := by decide +kernel
theorem dX8_takeDial_2 : decode cX8_takeDial 2 = .ok (.invokevirtual 130, 3) := by decide +kernel
theorem dX8_takeDial_5 : decode cX8_takeDial 5 = .ok (.istore_n 2, 1) := by decide +kernel
theorem dX8_takeDial_6 : decode cX8_takeDial 6 = .ok (.iload_n 2, 1) := by decide +kernel
theorem dX8_takeDial_7 : decode cX8_takeDial 7 = .ok (.ldc 83, 2) := by decide +kernel
theorem dX8_takeDial_9 : decode cX8_takeDial 9 = .ok (.if_icmp .ne 5, 3) := by decide +kernel
theorem dX8_takeDial_12 : decode cX8_takeDial 12 = .ok (.iconst 0, 1) := by decide +kernel
theorem dX8_takeDial_13 : decode cX8_takeDial 13 = .ok (.ireturn, 1) := by decide +kernel
theorem dX8_takeDial_14 : decode cX8_takeDial 14 = .ok (.aload_n 0, 1) := by decide +kernel
theorem dX8_takeDial_15 : decode cX8_takeDial 15 = .ok (.aload_n 0, 1) := by decide +kernel
theorem dX8_takeDial_16 : decode cX8_takeDial 16 = .ok (.iload_n 1, 1) := by decide +kernel
theorem dX8_takeDial_17 : decode cX8_takeDial 17 = .ok (.iconst 0, 1) := by decide +kernel
theorem dX8_takeDial_18 : decode cX8_takeDial 18 = .ok (.invokevirtual 127, 3) := by decide +kernel
theorem dX8_takeDial_21 : decode cX8_takeDial 21 = .ok (.aload_n 0, 1) := by decide +kernel
theorem dX8_takeDial_22 : decode cX8_takeDial 22 = .ok (.iload_n 1, 1) := by decide +kernel
theorem dX8_takeDial_23 : decode cX8_takeDial 23 = .ok (.iconst 1, 1) := by decide +kernel
theorem dX8_takeDial_24 : decode cX8_takeDial 24 = .ok (.invokevirtual 127, 3) := by decide +kernel
theorem dX8_takeDial_27 : decode cX8_takeDial 27 = .ok (.iconst (-1), 1) := by decide +kernel
theorem dX8_takeDial_28 : decode cX8_takeDial 28 = .ok (.if_icmp .eq 7, 3) := by decide +kernel
theorem dX8_takeDial_31 : decode cX8_takeDial 31 = .ok (.iconst 1, 1) := by decide +kernel
theorem dX8_takeDial_32 : decode cX8_takeDial 32 = .ok (.goto 4, 3) := by decide +kernel
theorem dX8_takeDial_35 : decode cX8_takeDial 35 = .ok (.iconst 0, 1) := by decide +kernel
theorem dX8_takeDial_36 : decode cX8_takeDial 36 = .ok (.iload_n 2, 1) := by decide +kernel
theorem dX8_takeDial_37 : decode cX8_takeDial 37 = .ok (.invokevirtual 133, 3) := by decide +kernel
theorem dX8_takeDial_40 : decode cX8_takeDial 40 = .ok (.iconst 1, 1) := by decide +kernel
theorem dX8_takeDial_41 : decode cX8_takeDial 41 = .ok (.ireturn, 1) := by decide +kernel
theorem dX8_weightOf_0 : decode cX8_weightOf 0 = .ok (.aload_n 0, 1) := by decide +kernel
theorem dX8_weightOf_1 : decode cX8_weightOf 1 = .ok (.iload_n 1, 1) := by decide +kernel
theorem dX8_weightOf_2 : decode cX8_weightOf 2 = .ok (.iconst 2, 1) := by decide +kernel
theorem dX8_weightOf_3 : decode cX8_weightOf 3 = .ok (.invokevirtual 127, 3) := by decide +kernel
theorem dX8_weightOf_6 : decode cX8_weightOf 6 = .ok (.aload_n 0, 1) := by decide +kernel
theorem dX8_weightOf_7 : decode cX8_weightOf 7 = .ok (.iload_n 1, 1) := by decide +kernel
theorem dX8_weightOf_8 : decode cX8_weightOf 8 = .ok (.iconst 2, 1) := by decide +kernel
theorem dX8_weightOf_9 : decode cX8_weightOf 9 = .ok (.invokevirtual 127, 3) := by decide +kernel
theorem dX8_weightOf_12 : decode cX8_weightOf 12 = .ok (.imul, 1) := by decide +kernel
theorem dX8_weightOf_13 : decode cX8_weightOf 13 = .ok (.i2l, 1) := by decide +kernel
theorem dX8_weightOf_14 : decode cX8_weightOf 14 = .ok (.ldc2_w 137, 3) := by decide +kernel
theorem dX8_weightOf_17 : decode cX8_weightOf 17 = .ok (.invokestatic 46, 3) := by decide +kernel
theorem dX8_weightOf_20 : decode cX8_weightOf 20 = .ok (.l2i, 1) := by decide +kernel
theorem dX8_weightOf_21 : decode cX8_weightOf 21 = .ok (.ireturn, 1) := by decide +kernel
theorem dX8_reasonFor_0 : decode cX8_reasonFor 0 = .ok (.aload_n 0, 1) := by decide +kernel
theorem dX8_reasonFor_1 : decode cX8_reasonFor 1 = .ok (.iload_n 1, 1) := by decide +kernel
theorem dX8_reasonFor_2 : decode cX8_reasonFor 2 = .ok (.invokevirtual 139, 3) := by decide +kernel
theorem dX8_reasonFor_5 : decode cX8_reasonFor 5 = .ok (.ifCond .ne 5, 3) := by decide +kernel
theorem dX8_reasonFor_8 : decode cX8_reasonFor 8 = .ok (.iconst 1, 1) := by decide +kernel
theorem dX8_reasonFor_9 : decode cX8_reasonFor 9 = .ok (.ireturn, 1) := by decide +kernel
theorem dX8_reasonFor_10 : decode cX8_reasonFor 10 = .ok (.aload_n 0, 1) := by decide +kernel
theorem dX8_reasonFor_11 : decode cX8_reasonFor 11 = .ok (.invokevirtual 142, 3) := by decide +kernel
theorem dX8_reasonFor_14 : decode cX8_reasonFor 14 = .ok (.aload_n 0, 1) := by decide +kernel
theorem dX8_reasonFor_15 : decode cX8_reasonFor 15 = .ok (.getfield 7, 3) := by decide +kernel
theorem dX8_reasonFor_18 : decode cX8_reasonFor 18 = .ok (.iconst 5, 1) := by decide +kernel
theorem dX8_reasonFor_19 : decode cX8_reasonFor 19 = .ok (.iaload, 1) := by decide +kernel
theorem dX8_reasonFor_20 : decode cX8_reasonFor 20 = .ok (.if_icmp .ge 5, 3) := by decide +kernel
theorem dX8_reasonFor_23 : decode cX8_reasonFor 23 = .ok (.iconst 2, 1) := by decide +kernel
theorem dX8_reasonFor_24 : decode cX8_reasonFor 24 = .ok (.ireturn, 1) := by decide +kernel
theorem dX8_reasonFor_25 : decode cX8_reasonFor 25 = .ok (.aload_n 0, 1) := by decide +kernel
theorem dX8_reasonFor_26 : decode cX8_reasonFor 26 = .ok (.iconst 0, 1) := by decide +kernel
theorem dX8_reasonFor_27 : decode cX8_reasonFor 27 = .ok (.invokevirtual 145, 3) := by decide +kernel
theorem dX8_reasonFor_30 : decode cX8_reasonFor 30 = .ok (.aload_n 0, 1) := by decide +kernel
theorem dX8_reasonFor_31 : decode cX8_reasonFor 31 = .ok (.getfield 7, 3) := by decide +kernel
theorem dX8_reasonFor_34 : decode cX8_reasonFor 34 = .ok (.bipush 6, 2) := by decide +kernel
theorem dX8_reasonFor_36 : decode cX8_reasonFor 36 = .ok (.iaload, 1) := by decide +kernel
theorem dX8_reasonFor_37 : decode cX8_reasonFor 37 = .ok (.if_icmp .le 5, 3) := by decide +kernel
theorem dX8_reasonFor_40 : decode cX8_reasonFor 40 = .ok (.iconst 3, 1) := by decide +kernel
theorem dX8_reasonFor_41 : decode cX8_reasonFor 41 = .ok (.ireturn, 1) := by decide +kernel
theorem dX8_reasonFor_42 : decode cX8_reasonFor 42 = .ok (.aload_n 0, 1) := by decide +kernel
theorem dX8_reasonFor_43 : decode cX8_reasonFor 43 = .ok (.iload_n 1, 1) := by decide +kernel
theorem dX8_reasonFor_44 : decode cX8_reasonFor 44 = .ok (.invokevirtual 148, 3) := by decide +kernel
theorem dX8_reasonFor_47 : decode cX8_reasonFor 47 = .ok (.aload_n 0, 1) := by decide +kernel
theorem dX8_reasonFor_48 : decode cX8_reasonFor 48 = .ok (.getfield 7, 3) := by decide +kernel
theorem dX8_reasonFor_51 : decode cX8_reasonFor 51 = .ok (.bipush 7, 2) := by decide +kernel
theorem dX8_reasonFor_53 : decode cX8_reasonFor 53 = .ok (.iaload, 1) := by decide +kernel
theorem dX8_reasonFor_54 : decode cX8_reasonFor 54 = .ok (.if_icmp .le 7, 3) := by decide +kernel
theorem dX8_reasonFor_57 : decode cX8_reasonFor 57 = .ok (.iconst 4, 1) := by decide +kernel
theorem dX8_reasonFor_58 : decode cX8_reasonFor 58 = .ok (.goto 4, 3) := by decide +kernel
theorem dX8_reasonFor_61 : decode cX8_reasonFor 61 = .ok (.iconst 0, 1) := by decide +kernel
theorem dX8_reasonFor_62 : decode cX8_reasonFor 62 = .ok (.ireturn, 1) := by decide +kernel
theorem dX8_askCode_0 : decode cX8_askCode 0 = .ok (.iload_n 1, 1) := by decide +kernel
theorem dX8_askCode_1 : decode cX8_askCode 1 = .ok (.bipush 10, 2) := by decide +kernel
theorem dX8_askCode_3 : decode cX8_askCode 3 = .ok (.bipush 70, 2) := by decide +kernel
theorem dX8_askCode_5 : decode cX8_askCode 5 = .ok (.invokestatic 90, 3) := by decide +kernel
theorem dX8_askCode_8 : decode cX8_askCode 8 = .ok (.ifCond .eq 39, 3) := by decide +kernel
theorem dX8_askCode_11 : decode cX8_askCode 11 = .ok (.iload_n 2, 1) := by decide +kernel
theorem dX8_askCode_12 : decode cX8_askCode 12 = .ok (.iconst (-1), 1) := by decide +kernel
theorem dX8_askCode_13 : decode cX8_askCode 13 = .ok (.if_icmp .eq 11, 3) := by decide +kernel
theorem dX8_askCode_16 : decode cX8_askCode 16 = .ok (.aload_n 0, 1) := by decide +kernel
theorem dX8_askCode_17 : decode cX8_askCode 17 = .ok (.iload_n 2, 1) := by decide +kernel
theorem dX8_askCode_18 : decode cX8_askCode 18 = .ok (.invokevirtual 114, 3) := by decide +kernel
theorem dX8_askCode_21 : decode cX8_askCode 21 = .ok (.ifCond .eq 26, 3) := by decide +kernel
theorem dX8_askCode_24 : decode cX8_askCode 24 = .ok (.iload_n 3, 1) := by decide +kernel
theorem dX8_askCode_25 : decode cX8_askCode 25 = .ok (.bipush 10, 2) := by decide +kernel
theorem dX8_askCode_27 : decode cX8_askCode 27 = .ok (.bipush 60, 2) := by decide +kernel
theorem dX8_askCode_29 : decode cX8_askCode 29 = .ok (.invokestatic 90, 3) := by decide +kernel
theorem dX8_askCode_32 : decode cX8_askCode 32 = .ok (.ifCond .eq 15, 3) := by decide +kernel
theorem dX8_askCode_35 : decode cX8_askCode 35 = .ok (.iload 4, 2) := by decide +kernel
theorem dX8_askCode_37 : decode cX8_askCode 37 = .ok (.bipush (-60), 2) := by decide +kernel
theorem dX8_askCode_39 : decode cX8_askCode 39 = .ok (.bipush 60, 2) := by decide +kernel
theorem dX8_askCode_41 : decode cX8_askCode 41 = .ok (.invokestatic 90, 3) := by decide +kernel
theorem dX8_askCode_44 : decode cX8_askCode 44 = .ok (.ifCond .ne 6, 3) := by decide +kernel
theorem dX8_askCode_47 : decode cX8_askCode 47 = .ok (.ldc 94, 2) := by decide +kernel
theorem dX8_askCode_49 : decode cX8_askCode 49 = .ok (.ireturn, 1) := by decide +kernel
theorem dX8_askCode_50 : decode cX8_askCode 50 = .ok (.aload_n 0, 1) := by decide +kernel
theorem dX8_askCode_51 : decode cX8_askCode 51 = .ok (.getfield 7, 3) := by decide +kernel
theorem dX8_askCode_54 : decode cX8_askCode 54 = .ok (.iconst 1, 1) := by decide +kernel
theorem dX8_askCode_55 : decode cX8_askCode 55 = .ok (.iaload, 1) := by decide +kernel
theorem dX8_askCode_56 : decode cX8_askCode 56 = .ok (.bipush 10, 2) := by decide +kernel
theorem dX8_askCode_58 : decode cX8_askCode 58 = .ok (.if_icmp .ne 8, 3) := by decide +kernel
theorem dX8_askCode_61 : decode cX8_askCode 61 = .ok (.ldc 104, 2) := by decide +kernel
theorem dX8_askCode_63 : decode cX8_askCode 63 = .ok (.goto 4, 3) := by decide +kernel
theorem dX8_askCode_66 : decode cX8_askCode 66 = .ok (.iconst 0, 1) := by decide +kernel
theorem dX8_askCode_67 : decode cX8_askCode 67 = .ok (.ireturn, 1) := by decide +kernel
theorem dX8_askNow_0 : decode cX8_askNow 0 = .ok (.aload_n 0, 1) := by decide +kernel
theorem dX8_askNow_1 : decode cX8_askNow 1 = .ok (.getfield 7, 3) := by decide +kernel
theorem dX8_askNow_4 : decode cX8_askNow 4 = .ok (.iconst 1, 1) := by decide +kernel
theorem dX8_askNow_5 : decode cX8_askNow 5 = .ok (.iaload, 1) := by decide +kernel
theorem dX8_askNow_6 : decode cX8_askNow 6 = .ok (.istore 5, 2) := by decide +kernel
theorem dX8_askNow_8 : decode cX8_askNow 8 = .ok (.aload_n 0, 1) := by decide +kernel
theorem dX8_askNow_9 : decode cX8_askNow 9 = .ok (.getfield 7, 3) := by decide +kernel
theorem dX8_askNow_12 : decode cX8_askNow 12 = .ok (.iconst 1, 1) := by decide +kernel
theorem dX8_askNow_13 : decode cX8_askNow 13 = .ok (.dup2, 1) := by decide +kernel
theorem dX8_askNow_14 : decode cX8_askNow 14 = .ok (.iaload, 1) := by decide +kernel
theorem dX8_askNow_15 : decode cX8_askNow 15 = .ok (.iconst 1, 1) := by decide +kernel
theorem dX8_askNow_16 : decode cX8_askNow 16 = .ok (.iadd, 1) := by decide +kernel
theorem dX8_askNow_17 : decode cX8_askNow 17 = .ok (.iastore, 1) := by decide +kernel
theorem dX8_askNow_18 : decode cX8_askNow 18 = .ok (.aload_n 0, 1) := by decide +kernel
theorem dX8_askNow_19 : decode cX8_askNow 19 = .ok (.iload 5, 2) := by decide +kernel
theorem dX8_askNow_21 : decode cX8_askNow 21 = .ok (.iconst 0, 1) := by decide +kernel
theorem dX8_askNow_22 : decode cX8_askNow 22 = .ok (.iload_n 1, 1) := by decide +kernel
theorem dX8_askNow_23 : decode cX8_askNow 23 = .ok (.invokevirtual 151, 3) := by decide +kernel
theorem dX8_askNow_26 : decode cX8_askNow 26 = .ok (.aload_n 0, 1) := by decide +kernel
theorem dX8_askNow_27 : decode cX8_askNow 27 = .ok (.iload 5, 2) := by decide +kernel
theorem dX8_askNow_29 : decode cX8_askNow 29 = .ok (.iconst 1, 1) := by decide +kernel
theorem dX8_askNow_30 : decode cX8_askNow 30 = .ok (.iload_n 2, 1) := by decide +kernel
theorem dX8_askNow_31 : decode cX8_askNow 31 = .ok (.invokevirtual 151, 3) := by decide +kernel
theorem dX8_askNow_34 : decode cX8_askNow 34 = .ok (.aload_n 0, 1) := by decide +kernel
theorem dX8_askNow_35 : decode cX8_askNow 35 = .ok (.iload 5, 2) := by decide +kernel
theorem dX8_askNow_37 : decode cX8_askNow 37 = .ok (.iconst 2, 1) := by decide +kernel
theorem dX8_askNow_38 : decode cX8_askNow 38 = .ok (.iload_n 3, 1) := by decide +kernel
theorem dX8_askNow_39 : decode cX8_askNow 39 = .ok (.invokevirtual 151, 3) := by decide +kernel
theorem dX8_askNow_42 : decode cX8_askNow 42 = .ok (.aload_n 0, 1) := by decide +kernel
theorem dX8_askNow_43 : decode cX8_askNow 43 = .ok (.iload 5, 2) := by decide +kernel
theorem dX8_askNow_45 : decode cX8_askNow 45 = .ok (.iconst 3, 1) := by decide +kernel
theorem dX8_askNow_46 : decode cX8_askNow 46 = .ok (.iload 4, 2) := by decide +kernel
theorem dX8_askNow_48 : decode cX8_askNow 48 = .ok (.invokevirtual 151, 3) := by decide +kernel
theorem dX8_askNow_51 : decode cX8_askNow 51 = .ok (.aload_n 0, 1) := by decide +kernel
theorem dX8_askNow_52 : decode cX8_askNow 52 = .ok (.iload 5, 2) := by decide +kernel
theorem dX8_askNow_54 : decode cX8_askNow 54 = .ok (.iconst 4, 1) := by decide +kernel
theorem dX8_askNow_55 : decode cX8_askNow 55 = .ok (.iconst 0, 1) := by decide +kernel
theorem dX8_askNow_56 : decode cX8_askNow 56 = .ok (.invokevirtual 151, 3) := by decide +kernel
theorem dX8_askNow_59 : decode cX8_askNow 59 = .ok (.aload_n 0, 1) := by decide +kernel
theorem dX8_askNow_60 : decode cX8_askNow 60 = .ok (.iload 5, 2) := by decide +kernel
theorem dX8_askNow_62 : decode cX8_askNow 62 = .ok (.iconst 5, 1) := by decide +kernel
theorem dX8_askNow_63 : decode cX8_askNow 63 = .ok (.iconst 0, 1) := by decide +kernel
theorem dX8_askNow_64 : decode cX8_askNow 64 = .ok (.invokevirtual 151, 3) := by decide +kernel
theorem dX8_askNow_67 : decode cX8_askNow 67 = .ok (.aload_n 0, 1) := by decide +kernel
theorem dX8_askNow_68 : decode cX8_askNow 68 = .ok (.iload 5, 2) := by decide +kernel
theorem dX8_askNow_70 : decode cX8_askNow 70 = .ok (.bipush 6, 2) := by decide +kernel
theorem dX8_askNow_72 : decode cX8_askNow 72 = .ok (.ldc 83, 2) := by decide +kernel
theorem dX8_askNow_74 : decode cX8_askNow 74 = .ok (.invokevirtual 151, 3) := by decide +kernel
theorem dX8_askNow_77 : decode cX8_askNow 77 = .ok (.aload_n 0, 1) := by decide +kernel
theorem dX8_askNow_78 : decode cX8_askNow 78 = .ok (.iload 5, 2) := by decide +kernel
theorem dX8_askNow_80 : decode cX8_askNow 80 = .ok (.bipush 7, 2) := by decide +kernel
theorem dX8_askNow_82 : decode cX8_askNow 82 = .ok (.iconst 0, 1) := by decide +kernel
theorem dX8_askNow_83 : decode cX8_askNow 83 = .ok (.invokevirtual 151, 3) := by decide +kernel
theorem dX8_askNow_86 : decode cX8_askNow 86 = .ok (.iload 5, 2) := by decide +kernel
theorem dX8_askNow_88 : decode cX8_askNow 88 = .ok (.ireturn, 1) := by decide +kernel
theorem dX8_ask_0 : decode cX8_ask 0 = .ok (.aload_n 0, 1) := by decide +kernel
theorem dX8_ask_1 : decode cX8_ask 1 = .ok (.iconst 0, 1) := by decide +kernel
theorem dX8_ask_2 : decode cX8_ask 2 = .ok (.putfield 35, 3) := by decide +kernel
theorem dX8_ask_5 : decode cX8_ask 5 = .ok (.aload_n 0, 1) := by decide +kernel
theorem dX8_ask_6 : decode cX8_ask 6 = .ok (.iload_n 1, 1) := by decide +kernel
theorem dX8_ask_7 : decode cX8_ask 7 = .ok (.iload_n 2, 1) := by decide +kernel
theorem dX8_ask_8 : decode cX8_ask 8 = .ok (.iload_n 3, 1) := by decide +kernel
theorem dX8_ask_9 : decode cX8_ask 9 = .ok (.iload 4, 2) := by decide +kernel
theorem dX8_ask_11 : decode cX8_ask 11 = .ok (.invokevirtual 155, 3) := by decide +kernel
theorem dX8_ask_14 : decode cX8_ask 14 = .ok (.istore 5, 2) := by decide +kernel
theorem dX8_ask_16 : decode cX8_ask 16 = .ok (.iload 5, 2) := by decide +kernel
theorem dX8_ask_18 : decode cX8_ask 18 = .ok (.ifCond .ge 6, 3) := by decide +kernel
theorem dX8_ask_21 : decode cX8_ask 21 = .ok (.iload 5, 2) := by decide +kernel
theorem dX8_ask_23 : decode cX8_ask 23 = .ok (.ireturn, 1) := by decide +kernel
theorem dX8_ask_24 : decode cX8_ask 24 = .ok (.aload_n 0, 1) := by decide +kernel
theorem dX8_ask_25 : decode cX8_ask 25 = .ok (.invokevirtual 95, 3) := by decide +kernel
theorem dX8_ask_28 : decode cX8_ask 28 = .ok (.aload_n 0, 1) := by decide +kernel
theorem dX8_ask_29 : decode cX8_ask 29 = .ok (.iload_n 1, 1) := by decide +kernel
theorem dX8_ask_30 : decode cX8_ask 30 = .ok (.iload_n 2, 1) := by decide +kernel
theorem dX8_ask_31 : decode cX8_ask 31 = .ok (.iload_n 3, 1) := by decide +kernel
theorem dX8_ask_32 : decode cX8_ask 32 = .ok (.iload 4, 2) := by decide +kernel
theorem dX8_ask_34 : decode cX8_ask 34 = .ok (.invokevirtual 159, 3) := by decide +kernel
theorem dX8_ask_37 : decode cX8_ask 37 = .ok (.ireturn, 1) := by decide +kernel
theorem dX8_stateCode_0 : decode cX8_stateCode 0 = .ok (.aload_n 0, 1) := by decide +kernel
theorem dX8_stateCode_1 : decode cX8_stateCode 1 = .ok (.iload_n 1, 1) := by decide +kernel
theorem dX8_stateCode_2 : decode cX8_stateCode 2 = .ok (.invokevirtual 162, 3) := by decide +kernel
theorem dX8_stateCode_5 : decode cX8_stateCode 5 = .ok (.ifCond .ne 8, 3) := by decide +kernel
theorem dX8_stateCode_8 : decode cX8_stateCode 8 = .ok (.ldc 94, 2) := by decide +kernel
theorem dX8_stateCode_10 : decode cX8_stateCode 10 = .ok (.goto 19, 3) := by decide +kernel
theorem dX8_stateCode_13 : decode cX8_stateCode 13 = .ok (.aload_n 0, 1) := by decide +kernel
theorem dX8_stateCode_14 : decode cX8_stateCode 14 = .ok (.iload_n 1, 1) := by decide +kernel
theorem dX8_stateCode_15 : decode cX8_stateCode 15 = .ok (.iconst 4, 1) := by decide +kernel
theorem dX8_stateCode_16 : decode cX8_stateCode 16 = .ok (.invokevirtual 127, 3) := by decide +kernel
theorem dX8_stateCode_19 : decode cX8_stateCode 19 = .ok (.iload_n 2, 1) := by decide +kernel
theorem dX8_stateCode_20 : decode cX8_stateCode 20 = .ok (.if_icmp .eq 8, 3) := by decide +kernel
theorem dX8_stateCode_23 : decode cX8_stateCode 23 = .ok (.ldc 165, 2) := by decide +kernel
theorem dX8_stateCode_25 : decode cX8_stateCode 25 = .ok (.goto 4, 3) := by decide +kernel
theorem dX8_stateCode_28 : decode cX8_stateCode 28 = .ok (.iconst 0, 1) := by decide +kernel
theorem dX8_stateCode_29 : decode cX8_stateCode 29 = .ok (.ireturn, 1) := by decide +kernel
theorem dX8_decideNow_0 : decode cX8_decideNow 0 = .ok (.aload_n 0, 1) := by decide +kernel
theorem dX8_decideNow_1 : decode cX8_decideNow 1 = .ok (.iload_n 1, 1) := by decide +kernel
theorem dX8_decideNow_2 : decode cX8_decideNow 2 = .ok (.invokevirtual 166, 3) := by decide +kernel
theorem dX8_decideNow_5 : decode cX8_decideNow 5 = .ok (.istore_n 2, 1) := by decide +kernel
theorem dX8_decideNow_6 : decode cX8_decideNow 6 = .ok (.iload_n 2, 1) := by decide +kernel
theorem dX8_decideNow_7 : decode cX8_decideNow 7 = .ok (.ifCond .ne 24, 3) := by decide +kernel
theorem dX8_decideNow_10 : decode cX8_decideNow 10 = .ok (.aload_n 0, 1) := by decide +kernel
theorem dX8_decideNow_11 : decode cX8_decideNow 11 = .ok (.iload_n 1, 1) := by decide +kernel
theorem dX8_decideNow_12 : decode cX8_decideNow 12 = .ok (.iconst 5, 1) := by decide +kernel
theorem dX8_decideNow_13 : decode cX8_decideNow 13 = .ok (.aload_n 0, 1) := by decide +kernel
theorem dX8_decideNow_14 : decode cX8_decideNow 14 = .ok (.iload_n 1, 1) := by decide +kernel
theorem dX8_decideNow_15 : decode cX8_decideNow 15 = .ok (.invokevirtual 130, 3) := by decide +kernel
theorem dX8_decideNow_18 : decode cX8_decideNow 18 = .ok (.invokevirtual 151, 3) := by decide +kernel
theorem dX8_decideNow_21 : decode cX8_decideNow 21 = .ok (.aload_n 0, 1) := by decide +kernel
theorem dX8_decideNow_22 : decode cX8_decideNow 22 = .ok (.iload_n 1, 1) := by decide +kernel
theorem dX8_decideNow_23 : decode cX8_decideNow 23 = .ok (.iconst 4, 1) := by decide +kernel
theorem dX8_decideNow_24 : decode cX8_decideNow 24 = .ok (.iconst 1, 1) := by decide +kernel
theorem dX8_decideNow_25 : decode cX8_decideNow 25 = .ok (.invokevirtual 151, 3) := by decide +kernel
theorem dX8_decideNow_28 : decode cX8_decideNow 28 = .ok (.goto 18, 3) := by decide +kernel
theorem dX8_decideNow_31 : decode cX8_decideNow 31 = .ok (.aload_n 0, 1) := by decide +kernel
theorem dX8_decideNow_32 : decode cX8_decideNow 32 = .ok (.iload_n 1, 1) := by decide +kernel
theorem dX8_decideNow_33 : decode cX8_decideNow 33 = .ok (.bipush 7, 2) := by decide +kernel
theorem dX8_decideNow_35 : decode cX8_decideNow 35 = .ok (.iload_n 2, 1) := by decide +kernel
theorem dX8_decideNow_36 : decode cX8_decideNow 36 = .ok (.invokevirtual 151, 3) := by decide +kernel
theorem dX8_decideNow_39 : decode cX8_decideNow 39 = .ok (.aload_n 0, 1) := by decide +kernel
theorem dX8_decideNow_40 : decode cX8_decideNow 40 = .ok (.iload_n 1, 1) := by decide +kernel
theorem dX8_decideNow_41 : decode cX8_decideNow 41 = .ok (.iconst 4, 1) := by decide +kernel
theorem dX8_decideNow_42 : decode cX8_decideNow 42 = .ok (.iconst 4, 1) := by decide +kernel
theorem dX8_decideNow_43 : decode cX8_decideNow 43 = .ok (.invokevirtual 151, 3) := by decide +kernel
theorem dX8_decideNow_46 : decode cX8_decideNow 46 = .ok (.iload_n 2, 1) := by decide +kernel
theorem dX8_decideNow_47 : decode cX8_decideNow 47 = .ok (.ireturn, 1) := by decide +kernel
theorem dX8_decide_0 : decode cX8_decide 0 = .ok (.aload_n 0, 1) := by decide +kernel
theorem dX8_decide_1 : decode cX8_decide 1 = .ok (.iconst 0, 1) := by decide +kernel
theorem dX8_decide_2 : decode cX8_decide 2 = .ok (.putfield 35, 3) := by decide +kernel
theorem dX8_decide_5 : decode cX8_decide 5 = .ok (.aload_n 0, 1) := by decide +kernel
theorem dX8_decide_6 : decode cX8_decide 6 = .ok (.iload_n 1, 1) := by decide +kernel
theorem dX8_decide_7 : decode cX8_decide 7 = .ok (.iconst 0, 1) := by decide +kernel
theorem dX8_decide_8 : decode cX8_decide 8 = .ok (.invokevirtual 169, 3) := by decide +kernel
theorem dX8_decide_11 : decode cX8_decide 11 = .ok (.istore_n 2, 1) := by decide +kernel
theorem dX8_decide_12 : decode cX8_decide 12 = .ok (.iload_n 2, 1) := by decide +kernel
theorem dX8_decide_13 : decode cX8_decide 13 = .ok (.ifCond .ge 5, 3) := by decide +kernel
theorem dX8_decide_16 : decode cX8_decide 16 = .ok (.iload_n 2, 1) := by decide +kernel
theorem dX8_decide_17 : decode cX8_decide 17 = .ok (.ireturn, 1) := by decide +kernel
theorem dX8_decide_18 : decode cX8_decide 18 = .ok (.aload_n 0, 1) := by decide +kernel
theorem dX8_decide_19 : decode cX8_decide 19 = .ok (.invokevirtual 95, 3) := by decide +kernel
theorem dX8_decide_22 : decode cX8_decide 22 = .ok (.aload_n 0, 1) := by decide +kernel
theorem dX8_decide_23 : decode cX8_decide 23 = .ok (.iload_n 1, 1) := by decide +kernel
theorem dX8_decide_24 : decode cX8_decide 24 = .ok (.invokevirtual 172, 3) := by decide +kernel
theorem dX8_decide_27 : decode cX8_decide 27 = .ok (.ireturn, 1) := by decide +kernel
theorem dX8_askAgain_0 : decode cX8_askAgain 0 = .ok (.aload_n 0, 1) := by decide +kernel
theorem dX8_askAgain_1 : decode cX8_askAgain 1 = .ok (.iconst 0, 1) := by decide +kernel
theorem dX8_askAgain_2 : decode cX8_askAgain 2 = .ok (.putfield 35, 3) := by decide +kernel
theorem dX8_askAgain_5 : decode cX8_askAgain 5 = .ok (.aload_n 0, 1) := by decide +kernel
theorem dX8_askAgain_6 : decode cX8_askAgain 6 = .ok (.iload_n 1, 1) := by decide +kernel
theorem dX8_askAgain_7 : decode cX8_askAgain 7 = .ok (.iconst 4, 1) := by decide +kernel
theorem dX8_askAgain_8 : decode cX8_askAgain 8 = .ok (.invokevirtual 169, 3) := by decide +kernel
theorem dX8_askAgain_11 : decode cX8_askAgain 11 = .ok (.istore_n 2, 1) := by decide +kernel
theorem dX8_askAgain_12 : decode cX8_askAgain 12 = .ok (.iload_n 2, 1) := by decide +kernel
theorem dX8_askAgain_13 : decode cX8_askAgain 13 = .ok (.ifCond .ge 5, 3) := by decide +kernel
theorem dX8_askAgain_16 : decode cX8_askAgain 16 = .ok (.iload_n 2, 1) := by decide +kernel
theorem dX8_askAgain_17 : decode cX8_askAgain 17 = .ok (.ireturn, 1) := by decide +kernel
theorem dX8_askAgain_18 : decode cX8_askAgain 18 = .ok (.aload_n 0, 1) := by decide +kernel
theorem dX8_askAgain_19 : decode cX8_askAgain 19 = .ok (.invokevirtual 95, 3) := by decide +kernel
theorem dX8_askAgain_22 : decode cX8_askAgain 22 = .ok (.aload_n 0, 1) := by decide +kernel
theorem dX8_askAgain_23 : decode cX8_askAgain 23 = .ok (.iload_n 1, 1) := by decide +kernel
theorem dX8_askAgain_24 : decode cX8_askAgain 24 = .ok (.iconst 4, 1) := by decide +kernel
theorem dX8_askAgain_25 : decode cX8_askAgain 25 = .ok (.iconst 0, 1) := by decide +kernel
theorem dX8_askAgain_26 : decode cX8_askAgain 26 = .ok (.invokevirtual 151, 3) := by decide +kernel
theorem dX8_askAgain_29 : decode cX8_askAgain 29 = .ok (.aload_n 0, 1) := by decide +kernel
theorem dX8_askAgain_30 : decode cX8_askAgain 30 = .ok (.iload_n 1, 1) := by decide +kernel
theorem dX8_askAgain_31 : decode cX8_askAgain 31 = .ok (.invokevirtual 166, 3) := by decide +kernel
theorem dX8_askAgain_34 : decode cX8_askAgain 34 = .ok (.ireturn, 1) := by decide +kernel
theorem dX8_melt_0 : decode cX8_melt 0 = .ok (.iconst 0, 1) := by decide +kernel
theorem dX8_melt_1 : decode cX8_melt 1 = .ok (.istore_n 1, 1) := by decide +kernel
theorem dX8_melt_2 : decode cX8_melt 2 = .ok (.iconst 0, 1) := by decide +kernel
theorem dX8_melt_3 : decode cX8_melt 3 = .ok (.istore_n 2, 1) := by decide +kernel
theorem dX8_melt_4 : decode cX8_melt 4 = .ok (.iconst 0, 1) := by decide +kernel
theorem dX8_melt_5 : decode cX8_melt 5 = .ok (.istore_n 3, 1) := by decide +kernel
theorem dX8_melt_6 : decode cX8_melt 6 = .ok (.iload_n 3, 1) := by decide +kernel
theorem dX8_melt_7 : decode cX8_melt 7 = .ok (.aload_n 0, 1) := by decide +kernel
theorem dX8_melt_8 : decode cX8_melt 8 = .ok (.getfield 7, 3) := by decide +kernel
theorem dX8_melt_11 : decode cX8_melt 11 = .ok (.iconst 1, 1) := by decide +kernel
theorem dX8_melt_12 : decode cX8_melt 12 = .ok (.iaload, 1) := by decide +kernel
theorem dX8_melt_13 : decode cX8_melt 13 = .ok (.if_icmp .ge 54, 3) := by decide +kernel
theorem dX8_melt_16 : decode cX8_melt 16 = .ok (.aload_n 0, 1) := by decide +kernel
theorem dX8_melt_17 : decode cX8_melt 17 = .ok (.getfield 32, 3) := by decide +kernel
theorem dX8_melt_20 : decode cX8_melt 20 = .ok (.iload_n 3, 1) := by decide +kernel
theorem dX8_melt_21 : decode cX8_melt 21 = .ok (.iaload, 1) := by decide +kernel
theorem dX8_melt_22 : decode cX8_melt 22 = .ok (.iconst 1, 1) := by decide +kernel
theorem dX8_melt_23 : decode cX8_melt 23 = .ok (.if_icmp .ne 38, 3) := by decide +kernel
theorem dX8_melt_26 : decode cX8_melt 26 = .ok (.iload_n 1, 1) := by decide +kernel
theorem dX8_melt_27 : decode cX8_melt 27 = .ok (.aload_n 0, 1) := by decide +kernel
theorem dX8_melt_28 : decode cX8_melt 28 = .ok (.iload_n 3, 1) := by decide +kernel
theorem dX8_melt_29 : decode cX8_melt 29 = .ok (.invokevirtual 148, 3) := by decide +kernel
theorem dX8_melt_32 : decode cX8_melt 32 = .ok (.iadd, 1) := by decide +kernel
theorem dX8_melt_33 : decode cX8_melt 33 = .ok (.aload_n 0, 1) := by decide +kernel
theorem dX8_melt_34 : decode cX8_melt 34 = .ok (.getfield 7, 3) := by decide +kernel
theorem dX8_melt_37 : decode cX8_melt 37 = .ok (.bipush 7, 2) := by decide +kernel
theorem dX8_melt_39 : decode cX8_melt 39 = .ok (.iaload, 1) := by decide +kernel
theorem dX8_melt_40 : decode cX8_melt 40 = .ok (.if_icmp .gt 21, 3) := by decide +kernel
theorem dX8_melt_43 : decode cX8_melt 43 = .ok (.iload_n 1, 1) := by decide +kernel
theorem dX8_melt_44 : decode cX8_melt 44 = .ok (.aload_n 0, 1) := by decide +kernel
theorem dX8_melt_45 : decode cX8_melt 45 = .ok (.iload_n 3, 1) := by decide +kernel
theorem dX8_melt_46 : decode cX8_melt 46 = .ok (.invokevirtual 148, 3) := by decide +kernel
theorem dX8_melt_49 : decode cX8_melt 49 = .ok (.iadd, 1) := by decide +kernel
theorem dX8_melt_50 : decode cX8_melt 50 = .ok (.istore_n 1, 1) := by decide +kernel
theorem dX8_melt_51 : decode cX8_melt 51 = .ok (.aload_n 0, 1) := by decide +kernel
theorem dX8_melt_52 : decode cX8_melt 52 = .ok (.getfield 32, 3) := by decide +kernel
theorem dX8_melt_55 : decode cX8_melt 55 = .ok (.iload_n 3, 1) := by decide +kernel
theorem dX8_melt_56 : decode cX8_melt 56 = .ok (.iconst 2, 1) := by decide +kernel
theorem dX8_melt_57 : decode cX8_melt 57 = .ok (.iastore, 1) := by decide +kernel
theorem dX8_melt_58 : decode cX8_melt 58 = .ok (.iinc 2 1, 3) := by decide +kernel
theorem dX8_melt_61 : decode cX8_melt 61 = .ok (.iinc 3 1, 3) := by decide +kernel
theorem dX8_melt_64 : decode cX8_melt 64 = .ok (.goto (-58), 3) := by decide +kernel
theorem dX8_melt_67 : decode cX8_melt 67 = .ok (.iload_n 2, 1) := by decide +kernel
theorem dX8_melt_68 : decode cX8_melt 68 = .ok (.ireturn, 1) := by decide +kernel
theorem dX8_takeStates_0 : decode cX8_takeStates 0 = .ok (.iconst 0, 1) := by decide +kernel
theorem dX8_takeStates_1 : decode cX8_takeStates 1 = .ok (.istore_n 1, 1) := by decide +kernel
theorem dX8_takeStates_2 : decode cX8_takeStates 2 = .ok (.iload_n 1, 1) := by decide +kernel
theorem dX8_takeStates_3 : decode cX8_takeStates 3 = .ok (.aload_n 0, 1) := by decide +kernel
theorem dX8_takeStates_4 : decode cX8_takeStates 4 = .ok (.getfield 7, 3) := by decide +kernel
theorem dX8_takeStates_7 : decode cX8_takeStates 7 = .ok (.iconst 1, 1) := by decide +kernel
theorem dX8_takeStates_8 : decode cX8_takeStates 8 = .ok (.iaload, 1) := by decide +kernel
theorem dX8_takeStates_9 : decode cX8_takeStates 9 = .ok (.if_icmp .ge 21, 3) := by decide +kernel
theorem dX8_takeStates_12 : decode cX8_takeStates 12 = .ok (.aload_n 0, 1) := by decide +kernel
theorem dX8_takeStates_13 : decode cX8_takeStates 13 = .ok (.getfield 32, 3) := by decide +kernel
theorem dX8_takeStates_16 : decode cX8_takeStates 16 = .ok (.iload_n 1, 1) := by decide +kernel
theorem dX8_takeStates_17 : decode cX8_takeStates 17 = .ok (.aload_n 0, 1) := by decide +kernel
theorem dX8_takeStates_18 : decode cX8_takeStates 18 = .ok (.iload_n 1, 1) := by decide +kernel
theorem dX8_takeStates_19 : decode cX8_takeStates 19 = .ok (.iconst 4, 1) := by decide +kernel
theorem dX8_takeStates_20 : decode cX8_takeStates 20 = .ok (.invokevirtual 127, 3) := by decide +kernel
theorem dX8_takeStates_23 : decode cX8_takeStates 23 = .ok (.iastore, 1) := by decide +kernel
theorem dX8_takeStates_24 : decode cX8_takeStates 24 = .ok (.iinc 1 1, 3) := by decide +kernel
theorem dX8_takeStates_27 : decode cX8_takeStates 27 = .ok (.goto (-25), 3) := by decide +kernel
theorem dX8_takeStates_30 : decode cX8_takeStates 30 = .ok (.return_, 1) := by decide +kernel
theorem dX8_castCode_0 : decode cX8_castCode 0 = .ok (.aload_n 0, 1) := by decide +kernel
theorem dX8_castCode_1 : decode cX8_castCode 1 = .ok (.invokevirtual 175, 3) := by decide +kernel
theorem dX8_castCode_4 : decode cX8_castCode 4 = .ok (.aload_n 0, 1) := by decide +kernel
theorem dX8_castCode_5 : decode cX8_castCode 5 = .ok (.invokevirtual 178, 3) := by decide +kernel
theorem dX8_castCode_8 : decode cX8_castCode 8 = .ok (.ifCond .ne 8, 3) := by decide +kernel
theorem dX8_castCode_11 : decode cX8_castCode 11 = .ok (.ldc 165, 2) := by decide +kernel
theorem dX8_castCode_13 : decode cX8_castCode 13 = .ok (.goto 4, 3) := by decide +kernel
theorem dX8_castCode_16 : decode cX8_castCode 16 = .ok (.iconst 0, 1) := by decide +kernel
theorem dX8_castCode_17 : decode cX8_castCode 17 = .ok (.ireturn, 1) := by decide +kernel
theorem dX8_castNow_0 : decode cX8_castNow 0 = .ok (.aload_n 0, 1) := by decide +kernel
theorem dX8_castNow_1 : decode cX8_castNow 1 = .ok (.invokevirtual 175, 3) := by decide +kernel
theorem dX8_castNow_4 : decode cX8_castNow 4 = .ok (.aload_n 0, 1) := by decide +kernel
theorem dX8_castNow_5 : decode cX8_castNow 5 = .ok (.invokevirtual 178, 3) := by decide +kernel
theorem dX8_castNow_8 : decode cX8_castNow 8 = .ok (.istore_n 1, 1) := by decide +kernel
theorem dX8_castNow_9 : decode cX8_castNow 9 = .ok (.iconst 0, 1) := by decide +kernel
theorem dX8_castNow_10 : decode cX8_castNow 10 = .ok (.istore_n 2, 1) := by decide +kernel
theorem dX8_castNow_11 : decode cX8_castNow 11 = .ok (.iload_n 2, 1) := by decide +kernel
theorem dX8_castNow_12 : decode cX8_castNow 12 = .ok (.aload_n 0, 1) := by decide +kernel
theorem dX8_castNow_13 : decode cX8_castNow 13 = .ok (.getfield 7, 3) := by decide +kernel
theorem dX8_castNow_16 : decode cX8_castNow 16 = .ok (.iconst 1, 1) := by decide +kernel
theorem dX8_castNow_17 : decode cX8_castNow 17 = .ok (.iaload, 1) := by decide +kernel
theorem dX8_castNow_18 : decode cX8_castNow 18 = .ok (.if_icmp .ge 58, 3) := by decide +kernel
theorem dX8_castNow_21 : decode cX8_castNow 21 = .ok (.aload_n 0, 1) := by decide +kernel
theorem dX8_castNow_22 : decode cX8_castNow 22 = .ok (.getfield 32, 3) := by decide +kernel
theorem dX8_castNow_25 : decode cX8_castNow 25 = .ok (.iload_n 2, 1) := by decide +kernel
theorem dX8_castNow_26 : decode cX8_castNow 26 = .ok (.iaload, 1) := by decide +kernel
theorem dX8_castNow_27 : decode cX8_castNow 27 = .ok (.aload_n 0, 1) := by decide +kernel
theorem dX8_castNow_28 : decode cX8_castNow 28 = .ok (.iload_n 2, 1) := by decide +kernel
theorem dX8_castNow_29 : decode cX8_castNow 29 = .ok (.iconst 4, 1) := by decide +kernel
theorem dX8_castNow_30 : decode cX8_castNow 30 = .ok (.invokevirtual 127, 3) := by decide +kernel
theorem dX8_castNow_33 : decode cX8_castNow 33 = .ok (.if_icmp .eq 37, 3) := by decide +kernel
theorem dX8_castNow_36 : decode cX8_castNow 36 = .ok (.aload_n 0, 1) := by decide +kernel
theorem dX8_castNow_37 : decode cX8_castNow 37 = .ok (.iload_n 2, 1) := by decide +kernel
theorem dX8_castNow_38 : decode cX8_castNow 38 = .ok (.iconst 4, 1) := by decide +kernel
theorem dX8_castNow_39 : decode cX8_castNow 39 = .ok (.iconst 2, 1) := by decide +kernel
theorem dX8_castNow_40 : decode cX8_castNow 40 = .ok (.invokevirtual 151, 3) := by decide +kernel
theorem dX8_castNow_43 : decode cX8_castNow 43 = .ok (.aload_n 0, 1) := by decide +kernel
theorem dX8_castNow_44 : decode cX8_castNow 44 = .ok (.iload_n 2, 1) := by decide +kernel
theorem dX8_castNow_45 : decode cX8_castNow 45 = .ok (.bipush 6, 2) := by decide +kernel
theorem dX8_castNow_47 : decode cX8_castNow 47 = .ok (.aload_n 0, 1) := by decide +kernel
theorem dX8_castNow_48 : decode cX8_castNow 48 = .ok (.getfield 7, 3) := by decide +kernel
theorem dX8_castNow_51 : decode cX8_castNow 51 = .ok (.iconst 2, 1) := by decide +kernel
theorem dX8_castNow_52 : decode cX8_castNow 52 = .ok (.iaload, 1) := by decide +kernel
theorem dX8_castNow_53 : decode cX8_castNow 53 = .ok (.invokevirtual 151, 3) := by decide +kernel
theorem dX8_castNow_56 : decode cX8_castNow 56 = .ok (.aload_n 0, 1) := by decide +kernel
theorem dX8_castNow_57 : decode cX8_castNow 57 = .ok (.getfield 7, 3) := by decide +kernel
theorem dX8_castNow_60 : decode cX8_castNow 60 = .ok (.iconst 3, 1) := by decide +kernel
theorem dX8_castNow_61 : decode cX8_castNow 61 = .ok (.dup2, 1) := by decide +kernel
theorem dX8_castNow_62 : decode cX8_castNow 62 = .ok (.iaload, 1) := by decide +kernel
theorem dX8_castNow_63 : decode cX8_castNow 63 = .ok (.aload_n 0, 1) := by decide +kernel
theorem dX8_castNow_64 : decode cX8_castNow 64 = .ok (.iload_n 2, 1) := by decide +kernel
theorem dX8_castNow_65 : decode cX8_castNow 65 = .ok (.invokevirtual 148, 3) := by decide +kernel
theorem dX8_castNow_68 : decode cX8_castNow 68 = .ok (.iadd, 1) := by decide +kernel
theorem dX8_castNow_69 : decode cX8_castNow 69 = .ok (.iastore, 1) := by decide +kernel
theorem dX8_castNow_70 : decode cX8_castNow 70 = .ok (.iinc 2 1, 3) := by decide +kernel
theorem dX8_castNow_73 : decode cX8_castNow 73 = .ok (.goto (-62), 3) := by decide +kernel
theorem dX8_castNow_76 : decode cX8_castNow 76 = .ok (.aload_n 0, 1) := by decide +kernel
theorem dX8_castNow_77 : decode cX8_castNow 77 = .ok (.getfield 7, 3) := by decide +kernel
theorem dX8_castNow_80 : decode cX8_castNow 80 = .ok (.iconst 2, 1) := by decide +kernel
theorem dX8_castNow_81 : decode cX8_castNow 81 = .ok (.dup2, 1) := by decide +kernel
theorem dX8_castNow_82 : decode cX8_castNow 82 = .ok (.iaload, 1) := by decide +kernel
theorem dX8_castNow_83 : decode cX8_castNow 83 = .ok (.iconst 1, 1) := by decide +kernel
theorem dX8_castNow_84 : decode cX8_castNow 84 = .ok (.iadd, 1) := by decide +kernel
theorem dX8_castNow_85 : decode cX8_castNow 85 = .ok (.iastore, 1) := by decide +kernel
theorem dX8_castNow_86 : decode cX8_castNow 86 = .ok (.iload_n 1, 1) := by decide +kernel
theorem dX8_castNow_87 : decode cX8_castNow 87 = .ok (.ireturn, 1) := by decide +kernel
theorem dX8_cast_0 : decode cX8_cast 0 = .ok (.aload_n 0, 1) := by decide +kernel
theorem dX8_cast_1 : decode cX8_cast 1 = .ok (.iconst 0, 1) := by decide +kernel
theorem dX8_cast_2 : decode cX8_cast 2 = .ok (.putfield 35, 3) := by decide +kernel
theorem dX8_cast_5 : decode cX8_cast 5 = .ok (.aload_n 0, 1) := by decide +kernel
theorem dX8_cast_6 : decode cX8_cast 6 = .ok (.invokevirtual 181, 3) := by decide +kernel
theorem dX8_cast_9 : decode cX8_cast 9 = .ok (.istore_n 1, 1) := by decide +kernel
theorem dX8_cast_10 : decode cX8_cast 10 = .ok (.iload_n 1, 1) := by decide +kernel
theorem dX8_cast_11 : decode cX8_cast 11 = .ok (.ifCond .ge 5, 3) := by decide +kernel
theorem dX8_cast_14 : decode cX8_cast 14 = .ok (.iload_n 1, 1) := by decide +kernel
theorem dX8_cast_15 : decode cX8_cast 15 = .ok (.ireturn, 1) := by decide +kernel
theorem dX8_cast_16 : decode cX8_cast 16 = .ok (.aload_n 0, 1) := by decide +kernel
theorem dX8_cast_17 : decode cX8_cast 17 = .ok (.invokevirtual 95, 3) := by decide +kernel
theorem dX8_cast_20 : decode cX8_cast 20 = .ok (.aload_n 0, 1) := by decide +kernel
theorem dX8_cast_21 : decode cX8_cast 21 = .ok (.invokevirtual 184, 3) := by decide +kernel
theorem dX8_cast_24 : decode cX8_cast 24 = .ok (.ireturn, 1) := by decide +kernel
theorem dX8_inState_0 : decode cX8_inState 0 = .ok (.iconst 0, 1) := by decide +kernel
theorem dX8_inState_1 : decode cX8_inState 1 = .ok (.istore_n 2, 1) := by decide +kernel
theorem dX8_inState_2 : decode cX8_inState 2 = .ok (.iconst 0, 1) := by decide +kernel
theorem dX8_inState_3 : decode cX8_inState 3 = .ok (.istore_n 3, 1) := by decide +kernel
theorem dX8_inState_4 : decode cX8_inState 4 = .ok (.iload_n 3, 1) := by decide +kernel
theorem dX8_inState_5 : decode cX8_inState 5 = .ok (.aload_n 0, 1) := by decide +kernel
theorem dX8_inState_6 : decode cX8_inState 6 = .ok (.getfield 7, 3) := by decide +kernel
theorem dX8_inState_9 : decode cX8_inState 9 = .ok (.iconst 1, 1) := by decide +kernel
theorem dX8_inState_10 : decode cX8_inState 10 = .ok (.iaload, 1) := by decide +kernel
theorem dX8_inState_11 : decode cX8_inState 11 = .ok (.if_icmp .ge 27, 3) := by decide +kernel
theorem dX8_inState_14 : decode cX8_inState 14 = .ok (.iload_n 2, 1) := by decide +kernel
theorem dX8_inState_15 : decode cX8_inState 15 = .ok (.aload_n 0, 1) := by decide +kernel
theorem dX8_inState_16 : decode cX8_inState 16 = .ok (.iload_n 3, 1) := by decide +kernel
theorem dX8_inState_17 : decode cX8_inState 17 = .ok (.iconst 4, 1) := by decide +kernel
theorem dX8_inState_18 : decode cX8_inState 18 = .ok (.invokevirtual 127, 3) := by decide +kernel
theorem dX8_inState_21 : decode cX8_inState 21 = .ok (.iload_n 1, 1) := by decide +kernel
theorem dX8_inState_22 : decode cX8_inState 22 = .ok (.if_icmp .ne 7, 3) := by decide +kernel
theorem dX8_inState_25 : decode cX8_inState 25 = .ok (.iconst 1, 1) := by decide +kernel
theorem dX8_inState_26 : decode cX8_inState 26 = .ok (.goto 4, 3) := by decide +kernel
theorem dX8_inState_29 : decode cX8_inState 29 = .ok (.iconst 0, 1) := by decide +kernel
theorem dX8_inState_30 : decode cX8_inState 30 = .ok (.iadd, 1) := by decide +kernel
theorem dX8_inState_31 : decode cX8_inState 31 = .ok (.istore_n 2, 1) := by decide +kernel
theorem dX8_inState_32 : decode cX8_inState 32 = .ok (.iinc 3 1, 3) := by decide +kernel
theorem dX8_inState_35 : decode cX8_inState 35 = .ok (.goto (-31), 3) := by decide +kernel
theorem dX8_inState_38 : decode cX8_inState 38 = .ok (.iload_n 2, 1) := by decide +kernel
theorem dX8_inState_39 : decode cX8_inState 39 = .ok (.ireturn, 1) := by decide +kernel
theorem dX8_deliverNow_0 : decode cX8_deliverNow 0 = .ok (.aload_n 0, 1) := by decide +kernel
theorem dX8_deliverNow_1 : decode cX8_deliverNow 1 = .ok (.iload_n 1, 1) := by decide +kernel
theorem dX8_deliverNow_2 : decode cX8_deliverNow 2 = .ok (.iconst 4, 1) := by decide +kernel
theorem dX8_deliverNow_3 : decode cX8_deliverNow 3 = .ok (.iconst 3, 1) := by decide +kernel
theorem dX8_deliverNow_4 : decode cX8_deliverNow 4 = .ok (.invokevirtual 151, 3) := by decide +kernel
theorem dX8_deliverNow_7 : decode cX8_deliverNow 7 = .ok (.aload_n 0, 1) := by decide +kernel
theorem dX8_deliverNow_8 : decode cX8_deliverNow 8 = .ok (.iconst 3, 1) := by decide +kernel
theorem dX8_deliverNow_9 : decode cX8_deliverNow 9 = .ok (.invokevirtual 187, 3) := by decide +kernel
theorem dX8_deliverNow_12 : decode cX8_deliverNow 12 = .ok (.ireturn, 1) := by decide +kernel
theorem dX8_deliver_0 : decode cX8_deliver 0 = .ok (.aload_n 0, 1) := by decide +kernel
theorem dX8_deliver_1 : decode cX8_deliver 1 = .ok (.iconst 0, 1) := by decide +kernel
theorem dX8_deliver_2 : decode cX8_deliver 2 = .ok (.putfield 35, 3) := by decide +kernel
theorem dX8_deliver_5 : decode cX8_deliver 5 = .ok (.aload_n 0, 1) := by decide +kernel
theorem dX8_deliver_6 : decode cX8_deliver 6 = .ok (.iload_n 1, 1) := by decide +kernel
theorem dX8_deliver_7 : decode cX8_deliver 7 = .ok (.iconst 2, 1) := by decide +kernel
theorem dX8_deliver_8 : decode cX8_deliver 8 = .ok (.invokevirtual 169, 3) := by decide +kernel
theorem dX8_deliver_11 : decode cX8_deliver 11 = .ok (.istore_n 2, 1) := by decide +kernel
theorem dX8_deliver_12 : decode cX8_deliver 12 = .ok (.iload_n 2, 1) := by decide +kernel
theorem dX8_deliver_13 : decode cX8_deliver 13 = .ok (.ifCond .ge 5, 3) := by decide +kernel
theorem dX8_deliver_16 : decode cX8_deliver 16 = .ok (.iload_n 2, 1) := by decide +kernel
theorem dX8_deliver_17 : decode cX8_deliver 17 = .ok (.ireturn, 1) := by decide +kernel
theorem dX8_deliver_18 : decode cX8_deliver 18 = .ok (.aload_n 0, 1) := by decide +kernel
theorem dX8_deliver_19 : decode cX8_deliver 19 = .ok (.invokevirtual 95, 3) := by decide +kernel
theorem dX8_deliver_22 : decode cX8_deliver 22 = .ok (.aload_n 0, 1) := by decide +kernel
theorem dX8_deliver_23 : decode cX8_deliver 23 = .ok (.iload_n 1, 1) := by decide +kernel
theorem dX8_deliver_24 : decode cX8_deliver 24 = .ok (.invokevirtual 190, 3) := by decide +kernel
theorem dX8_deliver_27 : decode cX8_deliver 27 = .ok (.ireturn, 1) := by decide +kernel
theorem dX8_slotAt_0 : decode cX8_slotAt 0 = .ok (.bipush 118, 2) := by decide +kernel
theorem dX8_slotAt_2 : decode cX8_slotAt 2 = .ok (.bipush 119, 2) := by decide +kernel
theorem dX8_slotAt_4 : decode cX8_slotAt 4 = .ok (.iload_n 0, 1) := by decide +kernel
theorem dX8_slotAt_5 : decode cX8_slotAt 5 = .ok (.imul, 1) := by decide +kernel
theorem dX8_slotAt_6 : decode cX8_slotAt 6 = .ok (.iadd, 1) := by decide +kernel
theorem dX8_slotAt_7 : decode cX8_slotAt 7 = .ok (.ireturn, 1) := by decide +kernel
theorem dX8_take_0 : decode cX8_take 0 = .ok (.aload_n 0, 1) := by decide +kernel
theorem dX8_take_1 : decode cX8_take 1 = .ok (.iconst 0, 1) := by decide +kernel
theorem dX8_take_2 : decode cX8_take 2 = .ok (.putfield 35, 3) := by decide +kernel
theorem dX8_take_5 : decode cX8_take 5 = .ok (.iload_n 1, 1) := by decide +kernel
theorem dX8_take_6 : decode cX8_take 6 = .ok (.invokestatic 193, 3) := by decide +kernel
theorem dX8_take_9 : decode cX8_take 9 = .ok (.ifCond .ne 6, 3) := by decide +kernel
theorem dX8_take_12 : decode cX8_take 12 = .ok (.ldc 94, 2) := by decide +kernel
theorem dX8_take_14 : decode cX8_take 14 = .ok (.ireturn, 1) := by decide +kernel
theorem dX8_take_15 : decode cX8_take 15 = .ok (.aload_n 0, 1) := by decide +kernel
theorem dX8_take_16 : decode cX8_take 16 = .ok (.invokevirtual 95, 3) := by decide +kernel
theorem dX8_take_19 : decode cX8_take 19 = .ok (.aload_n 0, 1) := by decide +kernel
theorem dX8_take_20 : decode cX8_take 20 = .ok (.getfield 7, 3) := by decide +kernel
theorem dX8_take_23 : decode cX8_take 23 = .ok (.iload_n 1, 1) := by decide +kernel
theorem dX8_take_24 : decode cX8_take 24 = .ok (.invokestatic 196, 3) := by decide +kernel
theorem dX8_take_27 : decode cX8_take 27 = .ok (.iconst 1, 1) := by decide +kernel
theorem dX8_take_28 : decode cX8_take 28 = .ok (.iastore, 1) := by decide +kernel
theorem dX8_take_29 : decode cX8_take 29 = .ok (.iconst 0, 1) := by decide +kernel
theorem dX8_take_30 : decode cX8_take 30 = .ok (.istore_n 2, 1) := by decide +kernel
theorem dX8_take_31 : decode cX8_take 31 = .ok (.iload_n 2, 1) := by decide +kernel
theorem dX8_take_32 : decode cX8_take 32 = .ok (.bipush 118, 2) := by decide +kernel
theorem dX8_take_34 : decode cX8_take 34 = .ok (.if_icmp .ge 28, 3) := by decide +kernel
theorem dX8_take_37 : decode cX8_take 37 = .ok (.aload_n 0, 1) := by decide +kernel
theorem dX8_take_38 : decode cX8_take 38 = .ok (.getfield 7, 3) := by decide +kernel
theorem dX8_take_41 : decode cX8_take 41 = .ok (.iload_n 1, 1) := by decide +kernel
theorem dX8_take_42 : decode cX8_take 42 = .ok (.invokestatic 196, 3) := by decide +kernel
theorem dX8_take_45 : decode cX8_take 45 = .ok (.iconst 1, 1) := by decide +kernel
theorem dX8_take_46 : decode cX8_take 46 = .ok (.iadd, 1) := by decide +kernel
theorem dX8_take_47 : decode cX8_take 47 = .ok (.iload_n 2, 1) := by decide +kernel
theorem dX8_take_48 : decode cX8_take 48 = .ok (.iadd, 1) := by decide +kernel
theorem dX8_take_49 : decode cX8_take 49 = .ok (.aload_n 0, 1) := by decide +kernel
theorem dX8_take_50 : decode cX8_take 50 = .ok (.getfield 7, 3) := by decide +kernel
theorem dX8_take_53 : decode cX8_take 53 = .ok (.iload_n 2, 1) := by decide +kernel
theorem dX8_take_54 : decode cX8_take 54 = .ok (.iaload, 1) := by decide +kernel
theorem dX8_take_55 : decode cX8_take 55 = .ok (.iastore, 1) := by decide +kernel
theorem dX8_take_56 : decode cX8_take 56 = .ok (.iinc 2 1, 3) := by decide +kernel
theorem dX8_take_59 : decode cX8_take 59 = .ok (.goto (-28), 3) := by decide +kernel
theorem dX8_take_62 : decode cX8_take 62 = .ok (.aload_n 0, 1) := by decide +kernel
theorem dX8_take_63 : decode cX8_take 63 = .ok (.getfield 7, 3) := by decide +kernel
theorem dX8_take_66 : decode cX8_take 66 = .ok (.iconst 1, 1) := by decide +kernel
theorem dX8_take_67 : decode cX8_take 67 = .ok (.iaload, 1) := by decide +kernel
theorem dX8_take_68 : decode cX8_take 68 = .ok (.ireturn, 1) := by decide +kernel
theorem dX8_restore_0 : decode cX8_restore 0 = .ok (.aload_n 0, 1) := by decide +kernel
theorem dX8_restore_1 : decode cX8_restore 1 = .ok (.iconst 0, 1) := by decide +kernel
theorem dX8_restore_2 : decode cX8_restore 2 = .ok (.putfield 35, 3) := by decide +kernel
theorem dX8_restore_5 : decode cX8_restore 5 = .ok (.iload_n 1, 1) := by decide +kernel
theorem dX8_restore_6 : decode cX8_restore 6 = .ok (.invokestatic 193, 3) := by decide +kernel
theorem dX8_restore_9 : decode cX8_restore 9 = .ok (.ifCond .ne 6, 3) := by decide +kernel
theorem dX8_restore_12 : decode cX8_restore 12 = .ok (.ldc 94, 2) := by decide +kernel
theorem dX8_restore_14 : decode cX8_restore 14 = .ok (.ireturn, 1) := by decide +kernel
theorem dX8_restore_15 : decode cX8_restore 15 = .ok (.aload_n 0, 1) := by decide +kernel
theorem dX8_restore_16 : decode cX8_restore 16 = .ok (.getfield 7, 3) := by decide +kernel
theorem dX8_restore_19 : decode cX8_restore 19 = .ok (.iload_n 1, 1) := by decide +kernel
theorem dX8_restore_20 : decode cX8_restore 20 = .ok (.invokestatic 196, 3) := by decide +kernel
theorem dX8_restore_23 : decode cX8_restore 23 = .ok (.iaload, 1) := by decide +kernel
theorem dX8_restore_24 : decode cX8_restore 24 = .ok (.ifCond .ne 6, 3) := by decide +kernel
theorem dX8_restore_27 : decode cX8_restore 27 = .ok (.ldc 165, 2) := by decide +kernel
theorem dX8_restore_29 : decode cX8_restore 29 = .ok (.ireturn, 1) := by decide +kernel
theorem dX8_restore_30 : decode cX8_restore 30 = .ok (.aload_n 0, 1) := by decide +kernel
theorem dX8_restore_31 : decode cX8_restore 31 = .ok (.invokevirtual 95, 3) := by decide +kernel
theorem dX8_restore_34 : decode cX8_restore 34 = .ok (.iconst 0, 1) := by decide +kernel
theorem dX8_restore_35 : decode cX8_restore 35 = .ok (.istore_n 2, 1) := by decide +kernel
theorem dX8_restore_36 : decode cX8_restore 36 = .ok (.iload_n 2, 1) := by decide +kernel
theorem dX8_restore_37 : decode cX8_restore 37 = .ok (.bipush 118, 2) := by decide +kernel
theorem dX8_restore_39 : decode cX8_restore 39 = .ok (.if_icmp .ge 28, 3) := by decide +kernel
theorem dX8_restore_42 : decode cX8_restore 42 = .ok (.aload_n 0, 1) := by decide +kernel
theorem dX8_restore_43 : decode cX8_restore 43 = .ok (.getfield 7, 3) := by decide +kernel
theorem dX8_restore_46 : decode cX8_restore 46 = .ok (.iload_n 2, 1) := by decide +kernel
theorem dX8_restore_47 : decode cX8_restore 47 = .ok (.aload_n 0, 1) := by decide +kernel
theorem dX8_restore_48 : decode cX8_restore 48 = .ok (.getfield 7, 3) := by decide +kernel
theorem dX8_restore_51 : decode cX8_restore 51 = .ok (.iload_n 1, 1) := by decide +kernel
theorem dX8_restore_52 : decode cX8_restore 52 = .ok (.invokestatic 196, 3) := by decide +kernel
theorem dX8_restore_55 : decode cX8_restore 55 = .ok (.iconst 1, 1) := by decide +kernel
theorem dX8_restore_56 : decode cX8_restore 56 = .ok (.iadd, 1) := by decide +kernel
theorem dX8_restore_57 : decode cX8_restore 57 = .ok (.iload_n 2, 1) := by decide +kernel
theorem dX8_restore_58 : decode cX8_restore 58 = .ok (.iadd, 1) := by decide +kernel
theorem dX8_restore_59 : decode cX8_restore 59 = .ok (.iaload, 1) := by decide +kernel
theorem dX8_restore_60 : decode cX8_restore 60 = .ok (.iastore, 1) := by decide +kernel
theorem dX8_restore_61 : decode cX8_restore 61 = .ok (.iinc 2 1, 3) := by decide +kernel
theorem dX8_restore_64 : decode cX8_restore 64 = .ok (.goto (-28), 3) := by decide +kernel
theorem dX8_restore_67 : decode cX8_restore 67 = .ok (.aload_n 0, 1) := by decide +kernel
theorem dX8_restore_68 : decode cX8_restore 68 = .ok (.getfield 7, 3) := by decide +kernel
theorem dX8_restore_71 : decode cX8_restore 71 = .ok (.iconst 1, 1) := by decide +kernel
theorem dX8_restore_72 : decode cX8_restore 72 = .ok (.iaload, 1) := by decide +kernel
theorem dX8_restore_73 : decode cX8_restore 73 = .ok (.ireturn, 1) := by decide +kernel
theorem dX8_undo_0 : decode cX8_undo 0 = .ok (.aload_n 0, 1) := by decide +kernel
theorem dX8_undo_1 : decode cX8_undo 1 = .ok (.iconst 0, 1) := by decide +kernel
theorem dX8_undo_2 : decode cX8_undo 2 = .ok (.putfield 35, 3) := by decide +kernel
theorem dX8_undo_5 : decode cX8_undo 5 = .ok (.aload_n 0, 1) := by decide +kernel
theorem dX8_undo_6 : decode cX8_undo 6 = .ok (.getfield 39, 3) := by decide +kernel
theorem dX8_undo_9 : decode cX8_undo 9 = .ok (.ifCond .ne 6, 3) := by decide +kernel
theorem dX8_undo_12 : decode cX8_undo 12 = .ok (.ldc 165, 2) := by decide +kernel
theorem dX8_undo_14 : decode cX8_undo 14 = .ok (.ireturn, 1) := by decide +kernel
theorem dX8_undo_15 : decode cX8_undo 15 = .ok (.aload_n 0, 1) := by decide +kernel
theorem dX8_undo_16 : decode cX8_undo 16 = .ok (.dup, 1) := by decide +kernel
theorem dX8_undo_17 : decode cX8_undo 17 = .ok (.getfield 39, 3) := by decide +kernel
theorem dX8_undo_20 : decode cX8_undo 20 = .ok (.iconst 1, 1) := by decide +kernel
theorem dX8_undo_21 : decode cX8_undo 21 = .ok (.isub, 1) := by decide +kernel
theorem dX8_undo_22 : decode cX8_undo 22 = .ok (.putfield 39, 3) := by decide +kernel
theorem dX8_undo_25 : decode cX8_undo 25 = .ok (.iconst 0, 1) := by decide +kernel
theorem dX8_undo_26 : decode cX8_undo 26 = .ok (.istore_n 1, 1) := by decide +kernel
theorem dX8_undo_27 : decode cX8_undo 27 = .ok (.iload_n 1, 1) := by decide +kernel
theorem dX8_undo_28 : decode cX8_undo 28 = .ok (.sipush 356, 3) := by decide +kernel
theorem dX8_undo_31 : decode cX8_undo 31 = .ok (.if_icmp .ge 30, 3) := by decide +kernel
theorem dX8_undo_34 : decode cX8_undo 34 = .ok (.aload_n 0, 1) := by decide +kernel
theorem dX8_undo_35 : decode cX8_undo 35 = .ok (.getfield 7, 3) := by decide +kernel
theorem dX8_undo_38 : decode cX8_undo 38 = .ok (.iload_n 1, 1) := by decide +kernel
theorem dX8_undo_39 : decode cX8_undo 39 = .ok (.aload_n 0, 1) := by decide +kernel
theorem dX8_undo_40 : decode cX8_undo 40 = .ok (.getfield 16, 3) := by decide +kernel
theorem dX8_undo_43 : decode cX8_undo 43 = .ok (.sipush 356, 3) := by decide +kernel
theorem dX8_undo_46 : decode cX8_undo 46 = .ok (.aload_n 0, 1) := by decide +kernel
theorem dX8_undo_47 : decode cX8_undo 47 = .ok (.getfield 39, 3) := by decide +kernel
theorem dX8_undo_50 : decode cX8_undo 50 = .ok (.imul, 1) := by decide +kernel
theorem dX8_undo_51 : decode cX8_undo 51 = .ok (.iload_n 1, 1) := by decide +kernel
theorem dX8_undo_52 : decode cX8_undo 52 = .ok (.iadd, 1) := by decide +kernel
theorem dX8_undo_53 : decode cX8_undo 53 = .ok (.iaload, 1) := by decide +kernel
theorem dX8_undo_54 : decode cX8_undo 54 = .ok (.iastore, 1) := by decide +kernel
theorem dX8_undo_55 : decode cX8_undo 55 = .ok (.iinc 1 1, 3) := by decide +kernel
theorem dX8_undo_58 : decode cX8_undo 58 = .ok (.goto (-31), 3) := by decide +kernel
theorem dX8_undo_61 : decode cX8_undo 61 = .ok (.aload_n 0, 1) := by decide +kernel
theorem dX8_undo_62 : decode cX8_undo 62 = .ok (.getfield 39, 3) := by decide +kernel
theorem dX8_undo_65 : decode cX8_undo 65 = .ok (.ireturn, 1) := by decide +kernel
theorem dX8_append_0 : decode cX8_append 0 = .ok (.aload_n 0, 1) := by decide +kernel
theorem dX8_append_1 : decode cX8_append 1 = .ok (.iconst 0, 1) := by decide +kernel
theorem dX8_append_2 : decode cX8_append 2 = .ok (.putfield 35, 3) := by decide +kernel
theorem dX8_append_5 : decode cX8_append 5 = .ok (.iload_n 1, 1) := by decide +kernel
theorem dX8_append_6 : decode cX8_append 6 = .ok (.iconst 1, 1) := by decide +kernel
theorem dX8_append_7 : decode cX8_append 7 = .ok (.sipush 255, 3) := by decide +kernel
theorem dX8_append_10 : decode cX8_append 10 = .ok (.invokestatic 90, 3) := by decide +kernel
theorem dX8_append_13 : decode cX8_append 13 = .ok (.ifCond .ne 6, 3) := by decide +kernel
theorem dX8_append_16 : decode cX8_append 16 = .ok (.ldc 94, 2) := by decide +kernel
theorem dX8_append_18 : decode cX8_append 18 = .ok (.ireturn, 1) := by decide +kernel
theorem dX8_append_19 : decode cX8_append 19 = .ok (.aload_n 0, 1) := by decide +kernel
theorem dX8_append_20 : decode cX8_append 20 = .ok (.getfield 199, 3) := by decide +kernel
theorem dX8_append_23 : decode cX8_append 23 = .ok (.sipush 140, 3) := by decide +kernel
theorem dX8_append_26 : decode cX8_append 26 = .ok (.if_icmp .ne 6, 3) := by decide +kernel
theorem dX8_append_29 : decode cX8_append 29 = .ok (.ldc 104, 2) := by decide +kernel
theorem dX8_append_31 : decode cX8_append 31 = .ok (.ireturn, 1) := by decide +kernel
theorem dX8_append_32 : decode cX8_append 32 = .ok (.aload_n 0, 1) := by decide +kernel
theorem dX8_append_33 : decode cX8_append 33 = .ok (.getfield 19, 3) := by decide +kernel
theorem dX8_append_36 : decode cX8_append 36 = .ok (.aload_n 0, 1) := by decide +kernel
theorem dX8_append_37 : decode cX8_append 37 = .ok (.getfield 199, 3) := by decide +kernel
theorem dX8_append_40 : decode cX8_append 40 = .ok (.iload_n 1, 1) := by decide +kernel
theorem dX8_append_41 : decode cX8_append 41 = .ok (.iastore, 1) := by decide +kernel
theorem dX8_append_42 : decode cX8_append 42 = .ok (.aload_n 0, 1) := by decide +kernel
theorem dX8_append_43 : decode cX8_append 43 = .ok (.dup, 1) := by decide +kernel
theorem dX8_append_44 : decode cX8_append 44 = .ok (.getfield 199, 3) := by decide +kernel
theorem dX8_append_47 : decode cX8_append 47 = .ok (.iconst 1, 1) := by decide +kernel
theorem dX8_append_48 : decode cX8_append 48 = .ok (.iadd, 1) := by decide +kernel
theorem dX8_append_49 : decode cX8_append 49 = .ok (.putfield 199, 3) := by decide +kernel
theorem dX8_append_52 : decode cX8_append 52 = .ok (.aload_n 0, 1) := by decide +kernel
theorem dX8_append_53 : decode cX8_append 53 = .ok (.getfield 199, 3) := by decide +kernel
theorem dX8_append_56 : decode cX8_append 56 = .ok (.ireturn, 1) := by decide +kernel
theorem dX8_clearText_0 : decode cX8_clearText 0 = .ok (.aload_n 0, 1) := by decide +kernel
theorem dX8_clearText_1 : decode cX8_clearText 1 = .ok (.iconst 0, 1) := by decide +kernel
theorem dX8_clearText_2 : decode cX8_clearText 2 = .ok (.putfield 35, 3) := by decide +kernel
theorem dX8_clearText_5 : decode cX8_clearText 5 = .ok (.aload_n 0, 1) := by decide +kernel
theorem dX8_clearText_6 : decode cX8_clearText 6 = .ok (.getfield 199, 3) := by decide +kernel
theorem dX8_clearText_9 : decode cX8_clearText 9 = .ok (.istore_n 1, 1) := by decide +kernel
theorem dX8_clearText_10 : decode cX8_clearText 10 = .ok (.aload_n 0, 1) := by decide +kernel
theorem dX8_clearText_11 : decode cX8_clearText 11 = .ok (.iconst 0, 1) := by decide +kernel
theorem dX8_clearText_12 : decode cX8_clearText 12 = .ok (.putfield 199, 3) := by decide +kernel
theorem dX8_clearText_15 : decode cX8_clearText 15 = .ok (.iload_n 1, 1) := by decide +kernel
theorem dX8_clearText_16 : decode cX8_clearText 16 = .ok (.ireturn, 1) := by decide +kernel
theorem dX8_at_0 : decode cX8_at 0 = .ok (.iload_n 1, 1) := by decide +kernel
theorem dX8_at_1 : decode cX8_at 1 = .ok (.aload_n 0, 1) := by decide +kernel
theorem dX8_at_2 : decode cX8_at 2 = .ok (.getfield 199, 3) := by decide +kernel
theorem dX8_at_5 : decode cX8_at 5 = .ok (.if_icmp .ge 12, 3) := by decide +kernel
theorem dX8_at_8 : decode cX8_at 8 = .ok (.aload_n 0, 1) := by decide +kernel
theorem dX8_at_9 : decode cX8_at 9 = .ok (.getfield 19, 3) := by decide +kernel
theorem dX8_at_12 : decode cX8_at 12 = .ok (.iload_n 1, 1) := by decide +kernel
theorem dX8_at_13 : decode cX8_at 13 = .ok (.iaload, 1) := by decide +kernel
theorem dX8_at_14 : decode cX8_at 14 = .ok (.goto 4, 3) := by decide +kernel
theorem dX8_at_17 : decode cX8_at 17 = .ok (.iconst (-1), 1) := by decide +kernel
theorem dX8_at_18 : decode cX8_at 18 = .ok (.ireturn, 1) := by decide +kernel
theorem dX8_next_0 : decode cX8_next 0 = .ok (.aload_n 0, 1) := by decide +kernel
theorem dX8_next_1 : decode cX8_next 1 = .ok (.aload_n 0, 1) := by decide +kernel
theorem dX8_next_2 : decode cX8_next 2 = .ok (.getfield 202, 3) := by decide +kernel
theorem dX8_next_5 : decode cX8_next 5 = .ok (.putfield 205, 3) := by decide +kernel
theorem dX8_next_8 : decode cX8_next 8 = .ok (.aload_n 0, 1) := by decide +kernel
theorem dX8_next_9 : decode cX8_next 9 = .ok (.aload_n 0, 1) := by decide +kernel
theorem dX8_next_10 : decode cX8_next 10 = .ok (.getfield 205, 3) := by decide +kernel
theorem dX8_next_13 : decode cX8_next 13 = .ok (.invokevirtual 208, 3) := by decide +kernel
theorem dX8_next_16 : decode cX8_next 16 = .ok (.bipush 32, 2) := by decide +kernel
theorem dX8_next_18 : decode cX8_next 18 = .ok (.if_icmp .ne 16, 3) := by decide +kernel
theorem dX8_next_21 : decode cX8_next 21 = .ok (.aload_n 0, 1) := by decide +kernel
theorem dX8_next_22 : decode cX8_next 22 = .ok (.dup, 1) := by decide +kernel
theorem dX8_next_23 : decode cX8_next 23 = .ok (.getfield 205, 3) := by decide +kernel
theorem dX8_next_26 : decode cX8_next 26 = .ok (.iconst 1, 1) := by decide +kernel
theorem dX8_next_27 : decode cX8_next 27 = .ok (.iadd, 1) := by decide +kernel
theorem dX8_next_28 : decode cX8_next 28 = .ok (.putfield 205, 3) := by decide +kernel
theorem dX8_next_31 : decode cX8_next 31 = .ok (.goto (-23), 3) := by decide +kernel
theorem dX8_next_34 : decode cX8_next 34 = .ok (.aload_n 0, 1) := by decide +kernel
theorem dX8_next_35 : decode cX8_next 35 = .ok (.aload_n 0, 1) := by decide +kernel
theorem dX8_next_36 : decode cX8_next 36 = .ok (.getfield 205, 3) := by decide +kernel
theorem dX8_next_39 : decode cX8_next 39 = .ok (.putfield 202, 3) := by decide +kernel
theorem dX8_next_42 : decode cX8_next 42 = .ok (.aload_n 0, 1) := by decide +kernel
theorem dX8_next_43 : decode cX8_next 43 = .ok (.aload_n 0, 1) := by decide +kernel
theorem dX8_next_44 : decode cX8_next 44 = .ok (.getfield 205, 3) := by decide +kernel
theorem dX8_next_47 : decode cX8_next 47 = .ok (.invokevirtual 208, 3) := by decide +kernel
theorem dX8_next_50 : decode cX8_next 50 = .ok (.bipush 97, 2) := by decide +kernel
theorem dX8_next_52 : decode cX8_next 52 = .ok (.bipush 122, 2) := by decide +kernel
theorem dX8_next_54 : decode cX8_next 54 = .ok (.invokestatic 90, 3) := by decide +kernel
theorem dX8_next_57 : decode cX8_next 57 = .ok (.ifCond .eq 39, 3) := by decide +kernel
theorem dX8_next_60 : decode cX8_next 60 = .ok (.aload_n 0, 1) := by decide +kernel
theorem dX8_next_61 : decode cX8_next 61 = .ok (.iconst 1, 1) := by decide +kernel
theorem dX8_next_62 : decode cX8_next 62 = .ok (.putfield 211, 3) := by decide +kernel
theorem dX8_next_65 : decode cX8_next 65 = .ok (.aload_n 0, 1) := by decide +kernel
theorem dX8_next_66 : decode cX8_next 66 = .ok (.aload_n 0, 1) := by decide +kernel
theorem dX8_next_67 : decode cX8_next 67 = .ok (.getfield 202, 3) := by decide +kernel
theorem dX8_next_70 : decode cX8_next 70 = .ok (.invokevirtual 208, 3) := by decide +kernel
theorem dX8_next_73 : decode cX8_next 73 = .ok (.bipush 97, 2) := by decide +kernel
theorem dX8_next_75 : decode cX8_next 75 = .ok (.bipush 122, 2) := by decide +kernel
theorem dX8_next_77 : decode cX8_next 77 = .ok (.invokestatic 90, 3) := by decide +kernel
theorem dX8_next_80 : decode cX8_next 80 = .ok (.ifCond .eq 115, 3) := by decide +kernel
theorem dX8_next_83 : decode cX8_next 83 = .ok (.aload_n 0, 1) := by decide +kernel
theorem dX8_next_84 : decode cX8_next 84 = .ok (.dup, 1) := by decide +kernel
theorem dX8_next_85 : decode cX8_next 85 = .ok (.getfield 202, 3) := by decide +kernel
theorem dX8_next_88 : decode cX8_next 88 = .ok (.iconst 1, 1) := by decide +kernel
theorem dX8_next_89 : decode cX8_next 89 = .ok (.iadd, 1) := by decide +kernel
theorem dX8_next_90 : decode cX8_next 90 = .ok (.putfield 202, 3) := by decide +kernel
theorem dX8_next_93 : decode cX8_next 93 = .ok (.goto (-28), 3) := by decide +kernel
theorem dX8_next_96 : decode cX8_next 96 = .ok (.aload_n 0, 1) := by decide +kernel
theorem dX8_next_97 : decode cX8_next 97 = .ok (.aload_n 0, 1) := by decide +kernel
theorem dX8_next_98 : decode cX8_next 98 = .ok (.getfield 205, 3) := by decide +kernel
theorem dX8_next_101 : decode cX8_next 101 = .ok (.invokevirtual 208, 3) := by decide +kernel
theorem dX8_next_104 : decode cX8_next 104 = .ok (.bipush 48, 2) := by decide +kernel
theorem dX8_next_106 : decode cX8_next 106 = .ok (.bipush 57, 2) := by decide +kernel
theorem dX8_next_108 : decode cX8_next 108 = .ok (.invokestatic 90, 3) := by decide +kernel
theorem dX8_next_111 : decode cX8_next 111 = .ok (.ifCond .eq 39, 3) := by decide +kernel
theorem dX8_next_114 : decode cX8_next 114 = .ok (.aload_n 0, 1) := by decide +kernel
theorem dX8_next_115 : decode cX8_next 115 = .ok (.iconst 2, 1) := by decide +kernel
theorem dX8_next_116 : decode cX8_next 116 = .ok (.putfield 211, 3) := by decide +kernel
theorem dX8_next_119 : decode cX8_next 119 = .ok (.aload_n 0, 1) := by decide +kernel
theorem dX8_next_120 : decode cX8_next 120 = .ok (.aload_n 0, 1) := by decide +kernel
theorem dX8_next_121 : decode cX8_next 121 = .ok (.getfield 202, 3) := by decide +kernel
theorem dX8_next_124 : decode cX8_next 124 = .ok (.invokevirtual 208, 3) := by decide +kernel
theorem dX8_next_127 : decode cX8_next 127 = .ok (.bipush 48, 2) := by decide +kernel
theorem dX8_next_129 : decode cX8_next 129 = .ok (.bipush 57, 2) := by decide +kernel
theorem dX8_next_131 : decode cX8_next 131 = .ok (.invokestatic 90, 3) := by decide +kernel
theorem dX8_next_134 : decode cX8_next 134 = .ok (.ifCond .eq 61, 3) := by decide +kernel
theorem dX8_next_137 : decode cX8_next 137 = .ok (.aload_n 0, 1) := by decide +kernel
theorem dX8_next_138 : decode cX8_next 138 = .ok (.dup, 1) := by decide +kernel
theorem dX8_next_139 : decode cX8_next 139 = .ok (.getfield 202, 3) := by decide +kernel
theorem dX8_next_142 : decode cX8_next 142 = .ok (.iconst 1, 1) := by decide +kernel
theorem dX8_next_143 : decode cX8_next 143 = .ok (.iadd, 1) := by decide +kernel
theorem dX8_next_144 : decode cX8_next 144 = .ok (.putfield 202, 3) := by decide +kernel
theorem dX8_next_147 : decode cX8_next 147 = .ok (.goto (-28), 3) := by decide +kernel
theorem dX8_next_150 : decode cX8_next 150 = .ok (.aload_n 0, 1) := by decide +kernel
theorem dX8_next_151 : decode cX8_next 151 = .ok (.aload_n 0, 1) := by decide +kernel
theorem dX8_next_152 : decode cX8_next 152 = .ok (.getfield 205, 3) := by decide +kernel
theorem dX8_next_155 : decode cX8_next 155 = .ok (.aload_n 0, 1) := by decide +kernel
theorem dX8_next_156 : decode cX8_next 156 = .ok (.getfield 199, 3) := by decide +kernel
theorem dX8_next_159 : decode cX8_next 159 = .ok (.if_icmp .ge 7, 3) := by decide +kernel
theorem dX8_next_162 : decode cX8_next 162 = .ok (.iconst 3, 1) := by decide +kernel
theorem dX8_next_163 : decode cX8_next 163 = .ok (.goto 4, 3) := by decide +kernel
theorem dX8_next_166 : decode cX8_next 166 = .ok (.iconst 0, 1) := by decide +kernel
theorem dX8_next_167 : decode cX8_next 167 = .ok (.putfield 211, 3) := by decide +kernel
theorem dX8_next_170 : decode cX8_next 170 = .ok (.aload_n 0, 1) := by decide +kernel
theorem dX8_next_171 : decode cX8_next 171 = .ok (.dup, 1) := by decide +kernel
theorem dX8_next_172 : decode cX8_next 172 = .ok (.getfield 202, 3) := by decide +kernel
theorem dX8_next_175 : decode cX8_next 175 = .ok (.aload_n 0, 1) := by decide +kernel
theorem dX8_next_176 : decode cX8_next 176 = .ok (.getfield 205, 3) := by decide +kernel
theorem dX8_next_179 : decode cX8_next 179 = .ok (.aload_n 0, 1) := by decide +kernel
theorem dX8_next_180 : decode cX8_next 180 = .ok (.getfield 199, 3) := by decide +kernel
theorem dX8_next_183 : decode cX8_next 183 = .ok (.if_icmp .ge 7, 3) := by decide +kernel
theorem dX8_next_186 : decode cX8_next 186 = .ok (.iconst 1, 1) := by decide +kernel
theorem dX8_next_187 : decode cX8_next 187 = .ok (.goto 4, 3) := by decide +kernel
theorem dX8_next_190 : decode cX8_next 190 = .ok (.iconst 0, 1) := by decide +kernel
theorem dX8_next_191 : decode cX8_next 191 = .ok (.iadd, 1) := by decide +kernel
theorem dX8_next_192 : decode cX8_next 192 = .ok (.putfield 202, 3) := by decide +kernel
theorem dX8_next_195 : decode cX8_next 195 = .ok (.return_, 1) := by decide +kernel
theorem dX8_fail_0 : decode cX8_fail 0 = .ok (.aload_n 0, 1) := by decide +kernel
theorem dX8_fail_1 : decode cX8_fail 1 = .ok (.aload_n 0, 1) := by decide +kernel
theorem dX8_fail_2 : decode cX8_fail 2 = .ok (.getfield 214, 3) := by decide +kernel
theorem dX8_fail_5 : decode cX8_fail 5 = .ok (.ifCond .ge 7, 3) := by decide +kernel
theorem dX8_fail_8 : decode cX8_fail 8 = .ok (.iload_n 1, 1) := by decide +kernel
theorem dX8_fail_9 : decode cX8_fail 9 = .ok (.goto 7, 3) := by decide +kernel
theorem dX8_fail_12 : decode cX8_fail 12 = .ok (.aload_n 0, 1) := by decide +kernel
theorem dX8_fail_13 : decode cX8_fail 13 = .ok (.getfield 214, 3) := by decide +kernel
theorem dX8_fail_16 : decode cX8_fail 16 = .ok (.putfield 214, 3) := by decide +kernel
theorem dX8_fail_19 : decode cX8_fail 19 = .ok (.return_, 1) := by decide +kernel
theorem dX8_spelled_0 : decode cX8_spelled 0 = .ok (.iload_n 0, 1) := by decide +kernel
theorem dX8_spelled_1 : decode cX8_spelled 1 = .ok (.ifCond .ne 7, 3) := by decide +kernel
theorem dX8_spelled_4 : decode cX8_spelled 4 = .ok (.iload_n 1, 1) := by decide +kernel
theorem dX8_spelled_5 : decode cX8_spelled 5 = .ok (.goto 52, 3) := by decide +kernel
theorem dX8_spelled_8 : decode cX8_spelled 8 = .ok (.iload_n 0, 1) := by decide +kernel
theorem dX8_spelled_9 : decode cX8_spelled 9 = .ok (.iconst 1, 1) := by decide +kernel
theorem dX8_spelled_10 : decode cX8_spelled 10 = .ok (.if_icmp .ne 7, 3) := by decide +kernel
theorem dX8_spelled_13 : decode cX8_spelled 13 = .ok (.iload_n 2, 1) := by decide +kernel
theorem dX8_spelled_14 : decode cX8_spelled 14 = .ok (.goto 43, 3) := by decide +kernel
theorem dX8_spelled_17 : decode cX8_spelled 17 = .ok (.iload_n 0, 1) := by decide +kernel
theorem dX8_spelled_18 : decode cX8_spelled 18 = .ok (.iconst 2, 1) := by decide +kernel
theorem dX8_spelled_19 : decode cX8_spelled 19 = .ok (.if_icmp .ne 7, 3) := by decide +kernel
theorem dX8_spelled_22 : decode cX8_spelled 22 = .ok (.iload_n 3, 1) := by decide +kernel
theorem dX8_spelled_23 : decode cX8_spelled 23 = .ok (.goto 34, 3) := by decide +kernel
theorem dX8_spelled_26 : decode cX8_spelled 26 = .ok (.iload_n 0, 1) := by decide +kernel
theorem dX8_spelled_27 : decode cX8_spelled 27 = .ok (.iconst 3, 1) := by decide +kernel
theorem dX8_spelled_28 : decode cX8_spelled 28 = .ok (.if_icmp .ne 8, 3) := by decide +kernel
theorem dX8_spelled_31 : decode cX8_spelled 31 = .ok (.iload 4, 2) := by decide +kernel
theorem dX8_spelled_33 : decode cX8_spelled 33 = .ok (.goto 24, 3) := by decide +kernel
theorem dX8_spelled_36 : decode cX8_spelled 36 = .ok (.iload_n 0, 1) := by decide +kernel
theorem dX8_spelled_37 : decode cX8_spelled 37 = .ok (.iconst 4, 1) := by decide +kernel
theorem dX8_spelled_38 : decode cX8_spelled 38 = .ok (.if_icmp .ne 8, 3) := by decide +kernel
theorem dX8_spelled_41 : decode cX8_spelled 41 = .ok (.iload 5, 2) := by decide +kernel
theorem dX8_spelled_43 : decode cX8_spelled 43 = .ok (.goto 14, 3) := by decide +kernel
theorem dX8_spelled_46 : decode cX8_spelled 46 = .ok (.iload_n 0, 1) := by decide +kernel
theorem dX8_spelled_47 : decode cX8_spelled 47 = .ok (.iconst 5, 1) := by decide +kernel
theorem dX8_spelled_48 : decode cX8_spelled 48 = .ok (.if_icmp .ne 8, 3) := by decide +kernel
theorem dX8_spelled_51 : decode cX8_spelled 51 = .ok (.iload 6, 2) := by decide +kernel
theorem dX8_spelled_53 : decode cX8_spelled 53 = .ok (.goto 4, 3) := by decide +kernel
theorem dX8_spelled_56 : decode cX8_spelled 56 = .ok (.iconst 0, 1) := by decide +kernel
theorem dX8_spelled_57 : decode cX8_spelled 57 = .ok (.ireturn, 1) := by decide +kernel
theorem dX8_letterOf_0 : decode cX8_letterOf 0 = .ok (.iload_n 0, 1) := by decide +kernel
theorem dX8_letterOf_1 : decode cX8_letterOf 1 = .ok (.tableswitch 157 0 5 #[39, 54, 82, 97, 125, 142], 39) := by decide +kernel
theorem dX8_letterOf_40 : decode cX8_letterOf 40 = .ok (.iload_n 1, 1) := by decide +kernel
theorem dX8_letterOf_41 : decode cX8_letterOf 41 = .ok (.bipush 119, 2) := by decide +kernel
theorem dX8_letterOf_43 : decode cX8_letterOf 43 = .ok (.bipush 97, 2) := by decide +kernel
theorem dX8_letterOf_45 : decode cX8_letterOf 45 = .ok (.bipush 108, 2) := by decide +kernel
theorem dX8_letterOf_47 : decode cX8_letterOf 47 = .ok (.bipush 108, 2) := by decide +kernel
theorem dX8_letterOf_49 : decode cX8_letterOf 49 = .ok (.iconst 0, 1) := by decide +kernel
theorem dX8_letterOf_50 : decode cX8_letterOf 50 = .ok (.iconst 0, 1) := by decide +kernel
theorem dX8_letterOf_51 : decode cX8_letterOf 51 = .ok (.invokestatic 217, 3) := by decide +kernel
theorem dX8_letterOf_54 : decode cX8_letterOf 54 = .ok (.ireturn, 1) := by decide +kernel
theorem dX8_letterOf_55 : decode cX8_letterOf 55 = .ok (.iload_n 1, 1) := by decide +kernel
theorem dX8_letterOf_56 : decode cX8_letterOf 56 = .ok (.bipush 6, 2) := by decide +kernel
theorem dX8_letterOf_58 : decode cX8_letterOf 58 = .ok (.if_icmp .ne 8, 3) := by decide +kernel
theorem dX8_letterOf_61 : decode cX8_letterOf 61 = .ok (.bipush 101, 2) := by decide +kernel
theorem dX8_letterOf_63 : decode cX8_letterOf 63 = .ok (.goto 19, 3) := by decide +kernel
theorem dX8_letterOf_66 : decode cX8_letterOf 66 = .ok (.iload_n 1, 1) := by decide +kernel
theorem dX8_letterOf_67 : decode cX8_letterOf 67 = .ok (.bipush 109, 2) := by decide +kernel
theorem dX8_letterOf_69 : decode cX8_letterOf 69 = .ok (.bipush 101, 2) := by decide +kernel
theorem dX8_letterOf_71 : decode cX8_letterOf 71 = .ok (.bipush 97, 2) := by decide +kernel
theorem dX8_letterOf_73 : decode cX8_letterOf 73 = .ok (.bipush 115, 2) := by decide +kernel
theorem dX8_letterOf_75 : decode cX8_letterOf 75 = .ok (.bipush 117, 2) := by decide +kernel
theorem dX8_letterOf_77 : decode cX8_letterOf 77 = .ok (.bipush 114, 2) := by decide +kernel
theorem dX8_letterOf_79 : decode cX8_letterOf 79 = .ok (.invokestatic 217, 3) := by decide +kernel
theorem dX8_letterOf_82 : decode cX8_letterOf 82 = .ok (.ireturn, 1) := by decide +kernel
theorem dX8_letterOf_83 : decode cX8_letterOf 83 = .ok (.iload_n 1, 1) := by decide +kernel
theorem dX8_letterOf_84 : decode cX8_letterOf 84 = .ok (.bipush 102, 2) := by decide +kernel
theorem dX8_letterOf_86 : decode cX8_letterOf 86 = .ok (.bipush 108, 2) := by decide +kernel
theorem dX8_letterOf_88 : decode cX8_letterOf 88 = .ok (.bipush 97, 2) := by decide +kernel
theorem dX8_letterOf_90 : decode cX8_letterOf 90 = .ok (.bipush 116, 2) := by decide +kernel
theorem dX8_letterOf_92 : decode cX8_letterOf 92 = .ok (.iconst 0, 1) := by decide +kernel
theorem dX8_letterOf_93 : decode cX8_letterOf 93 = .ok (.iconst 0, 1) := by decide +kernel
theorem dX8_letterOf_94 : decode cX8_letterOf 94 = .ok (.invokestatic 217, 3) := by decide +kernel
theorem dX8_letterOf_97 : decode cX8_letterOf 97 = .ok (.ireturn, 1) := by decide +kernel
theorem dX8_letterOf_98 : decode cX8_letterOf 98 = .ok (.iload_n 1, 1) := by decide +kernel
theorem dX8_letterOf_99 : decode cX8_letterOf 99 = .ok (.bipush 6, 2) := by decide +kernel
theorem dX8_letterOf_101 : decode cX8_letterOf 101 = .ok (.if_icmp .ne 8, 3) := by decide +kernel
theorem dX8_letterOf_104 : decode cX8_letterOf 104 = .ok (.bipush 116, 2) := by decide +kernel
theorem dX8_letterOf_106 : decode cX8_letterOf 106 = .ok (.goto 19, 3) := by decide +kernel
theorem dX8_letterOf_109 : decode cX8_letterOf 109 = .ok (.iload_n 1, 1) := by decide +kernel
theorem dX8_letterOf_110 : decode cX8_letterOf 110 = .ok (.bipush 117, 2) := by decide +kernel
theorem dX8_letterOf_112 : decode cX8_letterOf 112 = .ok (.bipush 112, 2) := by decide +kernel
theorem dX8_letterOf_114 : decode cX8_letterOf 114 = .ok (.bipush 114, 2) := by decide +kernel
theorem dX8_letterOf_116 : decode cX8_letterOf 116 = .ok (.bipush 105, 2) := by decide +kernel
theorem dX8_letterOf_118 : decode cX8_letterOf 118 = .ok (.bipush 103, 2) := by decide +kernel
theorem dX8_letterOf_120 : decode cX8_letterOf 120 = .ok (.bipush 104, 2) := by decide +kernel
theorem dX8_letterOf_122 : decode cX8_letterOf 122 = .ok (.invokestatic 217, 3) := by decide +kernel
theorem dX8_letterOf_125 : decode cX8_letterOf 125 = .ok (.ireturn, 1) := by decide +kernel
theorem dX8_letterOf_126 : decode cX8_letterOf 126 = .ok (.iload_n 1, 1) := by decide +kernel
theorem dX8_letterOf_127 : decode cX8_letterOf 127 = .ok (.bipush 100, 2) := by decide +kernel
theorem dX8_letterOf_129 : decode cX8_letterOf 129 = .ok (.bipush 101, 2) := by decide +kernel
theorem dX8_letterOf_131 : decode cX8_letterOf 131 = .ok (.bipush 99, 2) := by decide +kernel
theorem dX8_letterOf_133 : decode cX8_letterOf 133 = .ok (.bipush 105, 2) := by decide +kernel
theorem dX8_letterOf_135 : decode cX8_letterOf 135 = .ok (.bipush 100, 2) := by decide +kernel
theorem dX8_letterOf_137 : decode cX8_letterOf 137 = .ok (.bipush 101, 2) := by decide +kernel
theorem dX8_letterOf_139 : decode cX8_letterOf 139 = .ok (.invokestatic 217, 3) := by decide +kernel
theorem dX8_letterOf_142 : decode cX8_letterOf 142 = .ok (.ireturn, 1) := by decide +kernel
theorem dX8_letterOf_143 : decode cX8_letterOf 143 = .ok (.iload_n 1, 1) := by decide +kernel
theorem dX8_letterOf_144 : decode cX8_letterOf 144 = .ok (.bipush 99, 2) := by decide +kernel
theorem dX8_letterOf_146 : decode cX8_letterOf 146 = .ok (.bipush 97, 2) := by decide +kernel
theorem dX8_letterOf_148 : decode cX8_letterOf 148 = .ok (.bipush 115, 2) := by decide +kernel
theorem dX8_letterOf_150 : decode cX8_letterOf 150 = .ok (.bipush 116, 2) := by decide +kernel
theorem dX8_letterOf_152 : decode cX8_letterOf 152 = .ok (.iconst 0, 1) := by decide +kernel
theorem dX8_letterOf_153 : decode cX8_letterOf 153 = .ok (.iconst 0, 1) := by decide +kernel
theorem dX8_letterOf_154 : decode cX8_letterOf 154 = .ok (.invokestatic 217, 3) := by decide +kernel
theorem dX8_letterOf_157 : decode cX8_letterOf 157 = .ok (.ireturn, 1) := by decide +kernel
theorem dX8_letterOf_158 : decode cX8_letterOf 158 = .ok (.iload_n 1, 1) := by decide +kernel
theorem dX8_letterOf_159 : decode cX8_letterOf 159 = .ok (.bipush 6, 2) := by decide +kernel
theorem dX8_letterOf_161 : decode cX8_letterOf 161 = .ok (.if_icmp .ne 8, 3) := by decide +kernel
theorem dX8_letterOf_164 : decode cX8_letterOf 164 = .ok (.bipush 114, 2) := by decide +kernel
theorem dX8_letterOf_166 : decode cX8_letterOf 166 = .ok (.goto 19, 3) := by decide +kernel
theorem dX8_letterOf_169 : decode cX8_letterOf 169 = .ok (.iload_n 1, 1) := by decide +kernel
theorem dX8_letterOf_170 : decode cX8_letterOf 170 = .ok (.bipush 100, 2) := by decide +kernel
theorem dX8_letterOf_172 : decode cX8_letterOf 172 = .ok (.bipush 101, 2) := by decide +kernel
theorem dX8_letterOf_174 : decode cX8_letterOf 174 = .ok (.bipush 108, 2) := by decide +kernel
theorem dX8_letterOf_176 : decode cX8_letterOf 176 = .ok (.bipush 105, 2) := by decide +kernel
theorem dX8_letterOf_178 : decode cX8_letterOf 178 = .ok (.bipush 118, 2) := by decide +kernel
theorem dX8_letterOf_180 : decode cX8_letterOf 180 = .ok (.bipush 101, 2) := by decide +kernel
theorem dX8_letterOf_182 : decode cX8_letterOf 182 = .ok (.invokestatic 217, 3) := by decide +kernel
theorem dX8_letterOf_185 : decode cX8_letterOf 185 = .ok (.ireturn, 1) := by decide +kernel
theorem dX8_isWord_0 : decode cX8_isWord 0 = .ok (.iconst 1, 1) := by decide +kernel
theorem dX8_isWord_1 : decode cX8_isWord 1 = .ok (.istore_n 2, 1) := by decide +kernel
theorem dX8_isWord_2 : decode cX8_isWord 2 = .ok (.iconst 0, 1) := by decide +kernel
theorem dX8_isWord_3 : decode cX8_isWord 3 = .ok (.istore_n 3, 1) := by decide +kernel
theorem dX8_isWord_4 : decode cX8_isWord 4 = .ok (.iload_n 3, 1) := by decide +kernel
theorem dX8_isWord_5 : decode cX8_isWord 5 = .ok (.aload_n 0, 1) := by decide +kernel
theorem dX8_isWord_6 : decode cX8_isWord 6 = .ok (.getfield 202, 3) := by decide +kernel
theorem dX8_isWord_9 : decode cX8_isWord 9 = .ok (.aload_n 0, 1) := by decide +kernel
theorem dX8_isWord_10 : decode cX8_isWord 10 = .ok (.getfield 205, 3) := by decide +kernel
theorem dX8_isWord_13 : decode cX8_isWord 13 = .ok (.isub, 1) := by decide +kernel
theorem dX8_isWord_14 : decode cX8_isWord 14 = .ok (.if_icmp .gt 54, 3) := by decide +kernel
theorem dX8_isWord_17 : decode cX8_isWord 17 = .ok (.iload_n 2, 1) := by decide +kernel
theorem dX8_isWord_18 : decode cX8_isWord 18 = .ok (.ifCond .eq 50, 3) := by decide +kernel
theorem dX8_isWord_21 : decode cX8_isWord 21 = .ok (.iload_n 1, 1) := by decide +kernel
theorem dX8_isWord_22 : decode cX8_isWord 22 = .ok (.iload_n 3, 1) := by decide +kernel
theorem dX8_isWord_23 : decode cX8_isWord 23 = .ok (.invokestatic 221, 3) := by decide +kernel
theorem dX8_isWord_26 : decode cX8_isWord 26 = .ok (.iload_n 3, 1) := by decide +kernel
theorem dX8_isWord_27 : decode cX8_isWord 27 = .ok (.aload_n 0, 1) := by decide +kernel
theorem dX8_isWord_28 : decode cX8_isWord 28 = .ok (.getfield 202, 3) := by decide +kernel
theorem dX8_isWord_31 : decode cX8_isWord 31 = .ok (.aload_n 0, 1) := by decide +kernel
theorem dX8_isWord_32 : decode cX8_isWord 32 = .ok (.getfield 205, 3) := by decide +kernel
theorem dX8_isWord_35 : decode cX8_isWord 35 = .ok (.isub, 1) := by decide +kernel
theorem dX8_isWord_36 : decode cX8_isWord 36 = .ok (.if_icmp .ge 16, 3) := by decide +kernel
theorem dX8_isWord_39 : decode cX8_isWord 39 = .ok (.aload_n 0, 1) := by decide +kernel
theorem dX8_isWord_40 : decode cX8_isWord 40 = .ok (.aload_n 0, 1) := by decide +kernel
theorem dX8_isWord_41 : decode cX8_isWord 41 = .ok (.getfield 205, 3) := by decide +kernel
theorem dX8_isWord_44 : decode cX8_isWord 44 = .ok (.iload_n 3, 1) := by decide +kernel
theorem dX8_isWord_45 : decode cX8_isWord 45 = .ok (.iadd, 1) := by decide +kernel
theorem dX8_isWord_46 : decode cX8_isWord 46 = .ok (.invokevirtual 208, 3) := by decide +kernel
theorem dX8_isWord_49 : decode cX8_isWord 49 = .ok (.goto 4, 3) := by decide +kernel
theorem dX8_isWord_52 : decode cX8_isWord 52 = .ok (.iconst 0, 1) := by decide +kernel
theorem dX8_isWord_53 : decode cX8_isWord 53 = .ok (.if_icmp .ne 7, 3) := by decide +kernel
theorem dX8_isWord_56 : decode cX8_isWord 56 = .ok (.iconst 1, 1) := by decide +kernel
theorem dX8_isWord_57 : decode cX8_isWord 57 = .ok (.goto 4, 3) := by decide +kernel
theorem dX8_isWord_60 : decode cX8_isWord 60 = .ok (.iconst 0, 1) := by decide +kernel
theorem dX8_isWord_61 : decode cX8_isWord 61 = .ok (.istore_n 2, 1) := by decide +kernel
theorem dX8_isWord_62 : decode cX8_isWord 62 = .ok (.iinc 3 1, 3) := by decide +kernel
theorem dX8_isWord_65 : decode cX8_isWord 65 = .ok (.goto (-61), 3) := by decide +kernel
theorem dX8_isWord_68 : decode cX8_isWord 68 = .ok (.iload_n 2, 1) := by decide +kernel
theorem dX8_isWord_69 : decode cX8_isWord 69 = .ok (.ireturn, 1) := by decide +kernel
theorem dX8_wordHere_0 : decode cX8_wordHere 0 = .ok (.iconst 0, 1) := by decide +kernel
theorem dX8_wordHere_1 : decode cX8_wordHere 1 = .ok (.istore_n 1, 1) := by decide +kernel
theorem dX8_wordHere_2 : decode cX8_wordHere 2 = .ok (.iload_n 1, 1) := by decide +kernel
theorem dX8_wordHere_3 : decode cX8_wordHere 3 = .ok (.bipush 7, 2) := by decide +kernel
theorem dX8_wordHere_5 : decode cX8_wordHere 5 = .ok (.if_icmp .ge 17, 3) := by decide +kernel
theorem dX8_wordHere_8 : decode cX8_wordHere 8 = .ok (.aload_n 0, 1) := by decide +kernel
theorem dX8_wordHere_9 : decode cX8_wordHere 9 = .ok (.iload_n 1, 1) := by decide +kernel
theorem dX8_wordHere_10 : decode cX8_wordHere 10 = .ok (.invokevirtual 224, 3) := by decide +kernel
theorem dX8_wordHere_13 : decode cX8_wordHere 13 = .ok (.ifCond .ne 9, 3) := by decide +kernel
theorem dX8_wordHere_16 : decode cX8_wordHere 16 = .ok (.iinc 1 1, 3) := by decide +kernel
theorem dX8_wordHere_19 : decode cX8_wordHere 19 = .ok (.goto (-17), 3) := by decide +kernel
theorem dX8_wordHere_22 : decode cX8_wordHere 22 = .ok (.aload_n 0, 1) := by decide +kernel
theorem dX8_wordHere_23 : decode cX8_wordHere 23 = .ok (.getfield 211, 3) := by decide +kernel
theorem dX8_wordHere_26 : decode cX8_wordHere 26 = .ok (.iconst 1, 1) := by decide +kernel
theorem dX8_wordHere_27 : decode cX8_wordHere 27 = .ok (.if_icmp .ne 7, 3) := by decide +kernel
theorem dX8_wordHere_30 : decode cX8_wordHere 30 = .ok (.iload_n 1, 1) := by decide +kernel
theorem dX8_wordHere_31 : decode cX8_wordHere 31 = .ok (.goto 5, 3) := by decide +kernel
theorem dX8_wordHere_34 : decode cX8_wordHere 34 = .ok (.bipush 7, 2) := by decide +kernel
theorem dX8_wordHere_36 : decode cX8_wordHere 36 = .ok (.ireturn, 1) := by decide +kernel
theorem dX8_numbersOf_0 : decode cX8_numbersOf 0 = .ok (.iload_n 0, 1) := by decide +kernel
theorem dX8_numbersOf_1 : decode cX8_numbersOf 1 = .ok (.iconst 3, 1) := by decide +kernel
theorem dX8_numbersOf_2 : decode cX8_numbersOf 2 = .ok (.if_icmp .ne 7, 3) := by decide +kernel
theorem dX8_numbersOf_5 : decode cX8_numbersOf 5 = .ok (.iconst 3, 1) := by decide +kernel
theorem dX8_numbersOf_6 : decode cX8_numbersOf 6 = .ok (.goto 33, 3) := by decide +kernel
theorem dX8_numbersOf_9 : decode cX8_numbersOf 9 = .ok (.iload_n 0, 1) := by decide +kernel
theorem dX8_numbersOf_10 : decode cX8_numbersOf 10 = .ok (.iconst 1, 1) := by decide +kernel
theorem dX8_numbersOf_11 : decode cX8_numbersOf 11 = .ok (.if_icmp .eq 8, 3) := by decide +kernel
theorem dX8_numbersOf_14 : decode cX8_numbersOf 14 = .ok (.iload_n 0, 1) := by decide +kernel
theorem dX8_numbersOf_15 : decode cX8_numbersOf 15 = .ok (.iconst 2, 1) := by decide +kernel
theorem dX8_numbersOf_16 : decode cX8_numbersOf 16 = .ok (.if_icmp .ne 7, 3) := by decide +kernel
theorem dX8_numbersOf_19 : decode cX8_numbersOf 19 = .ok (.iconst 2, 1) := by decide +kernel
theorem dX8_numbersOf_20 : decode cX8_numbersOf 20 = .ok (.goto 19, 3) := by decide +kernel
theorem dX8_numbersOf_23 : decode cX8_numbersOf 23 = .ok (.iload_n 0, 1) := by decide +kernel
theorem dX8_numbersOf_24 : decode cX8_numbersOf 24 = .ok (.iconst 4, 1) := by decide +kernel
theorem dX8_numbersOf_25 : decode cX8_numbersOf 25 = .ok (.if_icmp .eq 9, 3) := by decide +kernel
theorem dX8_numbersOf_28 : decode cX8_numbersOf 28 = .ok (.iload_n 0, 1) := by decide +kernel
theorem dX8_numbersOf_29 : decode cX8_numbersOf 29 = .ok (.bipush 6, 2) := by decide +kernel
theorem dX8_numbersOf_31 : decode cX8_numbersOf 31 = .ok (.if_icmp .ne 7, 3) := by decide +kernel
theorem dX8_numbersOf_34 : decode cX8_numbersOf 34 = .ok (.iconst 1, 1) := by decide +kernel
theorem dX8_numbersOf_35 : decode cX8_numbersOf 35 = .ok (.goto 4, 3) := by decide +kernel
theorem dX8_numbersOf_38 : decode cX8_numbersOf 38 = .ok (.iconst 0, 1) := by decide +kernel
theorem dX8_numbersOf_39 : decode cX8_numbersOf 39 = .ok (.ireturn, 1) := by decide +kernel
theorem dX8_readNumber_0 : decode cX8_readNumber 0 = .ok (.iconst 1, 1) := by decide +kernel
theorem dX8_readNumber_1 : decode cX8_readNumber 1 = .ok (.istore_n 3, 1) := by decide +kernel
theorem dX8_readNumber_2 : decode cX8_readNumber 2 = .ok (.iload_n 1, 1) := by decide +kernel
theorem dX8_readNumber_3 : decode cX8_readNumber 3 = .ok (.iconst 1, 1) := by decide +kernel
theorem dX8_readNumber_4 : decode cX8_readNumber 4 = .ok (.if_icmp .ne 35, 3) := by decide +kernel
theorem dX8_readNumber_7 : decode cX8_readNumber 7 = .ok (.iload_n 2, 1) := by decide +kernel
theorem dX8_readNumber_8 : decode cX8_readNumber 8 = .ok (.iconst 1, 1) := by decide +kernel
theorem dX8_readNumber_9 : decode cX8_readNumber 9 = .ok (.if_icmp .ne 30, 3) := by decide +kernel
theorem dX8_readNumber_12 : decode cX8_readNumber 12 = .ok (.aload_n 0, 1) := by decide +kernel
theorem dX8_readNumber_13 : decode cX8_readNumber 13 = .ok (.getfield 211, 3) := by decide +kernel
theorem dX8_readNumber_16 : decode cX8_readNumber 16 = .ok (.iconst 3, 1) := by decide +kernel
theorem dX8_readNumber_17 : decode cX8_readNumber 17 = .ok (.if_icmp .ne 22, 3) := by decide +kernel
theorem dX8_readNumber_20 : decode cX8_readNumber 20 = .ok (.aload_n 0, 1) := by decide +kernel
theorem dX8_readNumber_21 : decode cX8_readNumber 21 = .ok (.aload_n 0, 1) := by decide +kernel
theorem dX8_readNumber_22 : decode cX8_readNumber 22 = .ok (.getfield 205, 3) := by decide +kernel
theorem dX8_readNumber_25 : decode cX8_readNumber 25 = .ok (.invokevirtual 208, 3) := by decide +kernel
theorem dX8_readNumber_28 : decode cX8_readNumber 28 = .ok (.bipush 45, 2) := by decide +kernel
theorem dX8_readNumber_30 : decode cX8_readNumber 30 = .ok (.if_icmp .ne 9, 3) := by decide +kernel
theorem dX8_readNumber_33 : decode cX8_readNumber 33 = .ok (.iconst (-1), 1) := by decide +kernel
theorem dX8_readNumber_34 : decode cX8_readNumber 34 = .ok (.istore_n 3, 1) := by decide +kernel
theorem dX8_readNumber_35 : decode cX8_readNumber 35 = .ok (.aload_n 0, 1) := by decide +kernel
theorem dX8_readNumber_36 : decode cX8_readNumber 36 = .ok (.invokevirtual 227, 3) := by decide +kernel
theorem dX8_readNumber_39 : decode cX8_readNumber 39 = .ok (.aload_n 0, 1) := by decide +kernel
theorem dX8_readNumber_40 : decode cX8_readNumber 40 = .ok (.getfield 211, 3) := by decide +kernel
theorem dX8_readNumber_43 : decode cX8_readNumber 43 = .ok (.iconst 2, 1) := by decide +kernel
theorem dX8_readNumber_44 : decode cX8_readNumber 44 = .ok (.if_icmp .ne 42, 3) := by decide +kernel
theorem dX8_readNumber_47 : decode cX8_readNumber 47 = .ok (.aload_n 0, 1) := by decide +kernel
theorem dX8_readNumber_48 : decode cX8_readNumber 48 = .ok (.getfield 202, 3) := by decide +kernel
theorem dX8_readNumber_51 : decode cX8_readNumber 51 = .ok (.aload_n 0, 1) := by decide +kernel
theorem dX8_readNumber_52 : decode cX8_readNumber 52 = .ok (.getfield 205, 3) := by decide +kernel
theorem dX8_readNumber_55 : decode cX8_readNumber 55 = .ok (.isub, 1) := by decide +kernel
theorem dX8_readNumber_56 : decode cX8_readNumber 56 = .ok (.iconst 4, 1) := by decide +kernel
theorem dX8_readNumber_57 : decode cX8_readNumber 57 = .ok (.if_icmp .gt 29, 3) := by decide +kernel
theorem dX8_readNumber_60 : decode cX8_readNumber 60 = .ok (.aload_n 0, 1) := by decide +kernel
theorem dX8_readNumber_61 : decode cX8_readNumber 61 = .ok (.getfield 202, 3) := by decide +kernel
theorem dX8_readNumber_64 : decode cX8_readNumber 64 = .ok (.aload_n 0, 1) := by decide +kernel
theorem dX8_readNumber_65 : decode cX8_readNumber 65 = .ok (.getfield 205, 3) := by decide +kernel
theorem dX8_readNumber_68 : decode cX8_readNumber 68 = .ok (.isub, 1) := by decide +kernel
theorem dX8_readNumber_69 : decode cX8_readNumber 69 = .ok (.iconst 1, 1) := by decide +kernel
theorem dX8_readNumber_70 : decode cX8_readNumber 70 = .ok (.if_icmp .le 25, 3) := by decide +kernel
theorem dX8_readNumber_73 : decode cX8_readNumber 73 = .ok (.aload_n 0, 1) := by decide +kernel
theorem dX8_readNumber_74 : decode cX8_readNumber 74 = .ok (.aload_n 0, 1) := by decide +kernel
theorem dX8_readNumber_75 : decode cX8_readNumber 75 = .ok (.getfield 205, 3) := by decide +kernel
theorem dX8_readNumber_78 : decode cX8_readNumber 78 = .ok (.invokevirtual 208, 3) := by decide +kernel
theorem dX8_readNumber_81 : decode cX8_readNumber 81 = .ok (.bipush 48, 2) := by decide +kernel
theorem dX8_readNumber_83 : decode cX8_readNumber 83 = .ok (.if_icmp .ne 12, 3) := by decide +kernel
theorem dX8_readNumber_86 : decode cX8_readNumber 86 = .ok (.aload_n 0, 1) := by decide +kernel
theorem dX8_readNumber_87 : decode cX8_readNumber 87 = .ok (.aload_n 0, 1) := by decide +kernel
theorem dX8_readNumber_88 : decode cX8_readNumber 88 = .ok (.getfield 205, 3) := by decide +kernel
theorem dX8_readNumber_91 : decode cX8_readNumber 91 = .ok (.invokevirtual 230, 3) := by decide +kernel
theorem dX8_readNumber_94 : decode cX8_readNumber 94 = .ok (.return_, 1) := by decide +kernel
theorem dX8_readNumber_95 : decode cX8_readNumber 95 = .ok (.iconst 0, 1) := by decide +kernel
theorem dX8_readNumber_96 : decode cX8_readNumber 96 = .ok (.istore 4, 2) := by decide +kernel
theorem dX8_readNumber_98 : decode cX8_readNumber 98 = .ok (.aload_n 0, 1) := by decide +kernel
theorem dX8_readNumber_99 : decode cX8_readNumber 99 = .ok (.getfield 205, 3) := by decide +kernel
theorem dX8_readNumber_102 : decode cX8_readNumber 102 = .ok (.istore 5, 2) := by decide +kernel
theorem dX8_readNumber_104 : decode cX8_readNumber 104 = .ok (.iload 5, 2) := by decide +kernel
theorem dX8_readNumber_106 : decode cX8_readNumber 106 = .ok (.aload_n 0, 1) := by decide +kernel
theorem dX8_readNumber_107 : decode cX8_readNumber 107 = .ok (.getfield 202, 3) := by decide +kernel
theorem dX8_readNumber_110 : decode cX8_readNumber 110 = .ok (.if_icmp .ge 26, 3) := by decide +kernel
theorem dX8_readNumber_113 : decode cX8_readNumber 113 = .ok (.bipush 10, 2) := by decide +kernel
theorem dX8_readNumber_115 : decode cX8_readNumber 115 = .ok (.iload 4, 2) := by decide +kernel
theorem dX8_readNumber_117 : decode cX8_readNumber 117 = .ok (.imul, 1) := by decide +kernel
theorem dX8_readNumber_118 : decode cX8_readNumber 118 = .ok (.aload_n 0, 1) := by decide +kernel
theorem dX8_readNumber_119 : decode cX8_readNumber 119 = .ok (.iload 5, 2) := by decide +kernel
theorem dX8_readNumber_121 : decode cX8_readNumber 121 = .ok (.invokevirtual 208, 3) := by decide +kernel
theorem dX8_readNumber_124 : decode cX8_readNumber 124 = .ok (.iadd, 1) := by decide +kernel
theorem dX8_readNumber_125 : decode cX8_readNumber 125 = .ok (.bipush 48, 2) := by decide +kernel
theorem dX8_readNumber_127 : decode cX8_readNumber 127 = .ok (.isub, 1) := by decide +kernel
theorem dX8_readNumber_128 : decode cX8_readNumber 128 = .ok (.istore 4, 2) := by decide +kernel
theorem dX8_readNumber_130 : decode cX8_readNumber 130 = .ok (.iinc 5 1, 3) := by decide +kernel
theorem dX8_readNumber_133 : decode cX8_readNumber 133 = .ok (.goto (-29), 3) := by decide +kernel
theorem dX8_readNumber_136 : decode cX8_readNumber 136 = .ok (.aload_n 0, 1) := by decide +kernel
theorem dX8_readNumber_137 : decode cX8_readNumber 137 = .ok (.getfield 22, 3) := by decide +kernel
theorem dX8_readNumber_140 : decode cX8_readNumber 140 = .ok (.iload_n 2, 1) := by decide +kernel
theorem dX8_readNumber_141 : decode cX8_readNumber 141 = .ok (.iload_n 3, 1) := by decide +kernel
theorem dX8_readNumber_142 : decode cX8_readNumber 142 = .ok (.iload 4, 2) := by decide +kernel
theorem dX8_readNumber_144 : decode cX8_readNumber 144 = .ok (.imul, 1) := by decide +kernel
theorem dX8_readNumber_145 : decode cX8_readNumber 145 = .ok (.iastore, 1) := by decide +kernel
theorem dX8_readNumber_146 : decode cX8_readNumber 146 = .ok (.aload_n 0, 1) := by decide +kernel
theorem dX8_readNumber_147 : decode cX8_readNumber 147 = .ok (.invokevirtual 227, 3) := by decide +kernel
theorem dX8_readNumber_150 : decode cX8_readNumber 150 = .ok (.return_, 1) := by decide +kernel
theorem dX8_codeOf_0 : decode cX8_codeOf 0 = .ok (.iload_n 1, 1) := by decide +kernel
theorem dX8_codeOf_1 : decode cX8_codeOf 1 = .ok (.tableswitch 82 0 5 #[39, 44, 51, 60, 70, 77], 39) := by decide +kernel
theorem dX8_codeOf_40 : decode cX8_codeOf 40 = .ok (.aload_n 0, 1) := by decide +kernel
theorem dX8_codeOf_41 : decode cX8_codeOf 41 = .ok (.invokevirtual 105, 3) := by decide +kernel
theorem dX8_codeOf_44 : decode cX8_codeOf 44 = .ok (.ireturn, 1) := by decide +kernel
theorem dX8_codeOf_45 : decode cX8_codeOf 45 = .ok (.aload_n 0, 1) := by decide +kernel
theorem dX8_codeOf_46 : decode cX8_codeOf 46 = .ok (.iload_n 2, 1) := by decide +kernel
theorem dX8_codeOf_47 : decode cX8_codeOf 47 = .ok (.iload_n 3, 1) := by decide +kernel
theorem dX8_codeOf_48 : decode cX8_codeOf 48 = .ok (.invokevirtual 120, 3) := by decide +kernel
theorem dX8_codeOf_51 : decode cX8_codeOf 51 = .ok (.ireturn, 1) := by decide +kernel
theorem dX8_codeOf_52 : decode cX8_codeOf 52 = .ok (.aload_n 0, 1) := by decide +kernel
theorem dX8_codeOf_53 : decode cX8_codeOf 53 = .ok (.iload_n 2, 1) := by decide +kernel
theorem dX8_codeOf_54 : decode cX8_codeOf 54 = .ok (.iconst (-1), 1) := by decide +kernel
theorem dX8_codeOf_55 : decode cX8_codeOf 55 = .ok (.iload_n 3, 1) := by decide +kernel
theorem dX8_codeOf_56 : decode cX8_codeOf 56 = .ok (.iconst 0, 1) := by decide +kernel
theorem dX8_codeOf_57 : decode cX8_codeOf 57 = .ok (.invokevirtual 155, 3) := by decide +kernel
theorem dX8_codeOf_60 : decode cX8_codeOf 60 = .ok (.ireturn, 1) := by decide +kernel
theorem dX8_codeOf_61 : decode cX8_codeOf 61 = .ok (.aload_n 0, 1) := by decide +kernel
theorem dX8_codeOf_62 : decode cX8_codeOf 62 = .ok (.iload_n 2, 1) := by decide +kernel
theorem dX8_codeOf_63 : decode cX8_codeOf 63 = .ok (.iload_n 3, 1) := by decide +kernel
theorem dX8_codeOf_64 : decode cX8_codeOf 64 = .ok (.iload 4, 2) := by decide +kernel
theorem dX8_codeOf_66 : decode cX8_codeOf 66 = .ok (.iconst 0, 1) := by decide +kernel
theorem dX8_codeOf_67 : decode cX8_codeOf 67 = .ok (.invokevirtual 155, 3) := by decide +kernel
theorem dX8_codeOf_70 : decode cX8_codeOf 70 = .ok (.ireturn, 1) := by decide +kernel
theorem dX8_codeOf_71 : decode cX8_codeOf 71 = .ok (.aload_n 0, 1) := by decide +kernel
theorem dX8_codeOf_72 : decode cX8_codeOf 72 = .ok (.iload_n 2, 1) := by decide +kernel
theorem dX8_codeOf_73 : decode cX8_codeOf 73 = .ok (.iconst 0, 1) := by decide +kernel
theorem dX8_codeOf_74 : decode cX8_codeOf 74 = .ok (.invokevirtual 169, 3) := by decide +kernel
theorem dX8_codeOf_77 : decode cX8_codeOf 77 = .ok (.ireturn, 1) := by decide +kernel
theorem dX8_codeOf_78 : decode cX8_codeOf 78 = .ok (.aload_n 0, 1) := by decide +kernel
theorem dX8_codeOf_79 : decode cX8_codeOf 79 = .ok (.invokevirtual 181, 3) := by decide +kernel
theorem dX8_codeOf_82 : decode cX8_codeOf 82 = .ok (.ireturn, 1) := by decide +kernel
theorem dX8_codeOf_83 : decode cX8_codeOf 83 = .ok (.aload_n 0, 1) := by decide +kernel
theorem dX8_codeOf_84 : decode cX8_codeOf 84 = .ok (.iload_n 2, 1) := by decide +kernel
theorem dX8_codeOf_85 : decode cX8_codeOf 85 = .ok (.iconst 2, 1) := by decide +kernel
theorem dX8_codeOf_86 : decode cX8_codeOf 86 = .ok (.invokevirtual 169, 3) := by decide +kernel
theorem dX8_codeOf_89 : decode cX8_codeOf 89 = .ok (.ireturn, 1) := by decide +kernel
theorem dX8_carry_0 : decode cX8_carry 0 = .ok (.iload_n 1, 1) := by decide +kernel
theorem dX8_carry_1 : decode cX8_carry 1 = .ok (.tableswitch 81 0 5 #[39, 44, 51, 60, 70, 76], 39) := by decide +kernel
theorem dX8_carry_40 : decode cX8_carry 40 = .ok (.aload_n 0, 1) := by decide +kernel
theorem dX8_carry_41 : decode cX8_carry 41 = .ok (.invokevirtual 109, 3) := by decide +kernel
theorem dX8_carry_44 : decode cX8_carry 44 = .ok (.ireturn, 1) := by decide +kernel
theorem dX8_carry_45 : decode cX8_carry 45 = .ok (.aload_n 0, 1) := by decide +kernel
theorem dX8_carry_46 : decode cX8_carry 46 = .ok (.iload_n 2, 1) := by decide +kernel
theorem dX8_carry_47 : decode cX8_carry 47 = .ok (.iload_n 3, 1) := by decide +kernel
theorem dX8_carry_48 : decode cX8_carry 48 = .ok (.invokevirtual 124, 3) := by decide +kernel
theorem dX8_carry_51 : decode cX8_carry 51 = .ok (.ireturn, 1) := by decide +kernel
theorem dX8_carry_52 : decode cX8_carry 52 = .ok (.aload_n 0, 1) := by decide +kernel
theorem dX8_carry_53 : decode cX8_carry 53 = .ok (.iload_n 2, 1) := by decide +kernel
theorem dX8_carry_54 : decode cX8_carry 54 = .ok (.iconst (-1), 1) := by decide +kernel
theorem dX8_carry_55 : decode cX8_carry 55 = .ok (.iload_n 3, 1) := by decide +kernel
theorem dX8_carry_56 : decode cX8_carry 56 = .ok (.iconst 0, 1) := by decide +kernel
theorem dX8_carry_57 : decode cX8_carry 57 = .ok (.invokevirtual 159, 3) := by decide +kernel
theorem dX8_carry_60 : decode cX8_carry 60 = .ok (.ireturn, 1) := by decide +kernel
theorem dX8_carry_61 : decode cX8_carry 61 = .ok (.aload_n 0, 1) := by decide +kernel
theorem dX8_carry_62 : decode cX8_carry 62 = .ok (.iload_n 2, 1) := by decide +kernel
theorem dX8_carry_63 : decode cX8_carry 63 = .ok (.iload_n 3, 1) := by decide +kernel
theorem dX8_carry_64 : decode cX8_carry 64 = .ok (.iload 4, 2) := by decide +kernel
theorem dX8_carry_66 : decode cX8_carry 66 = .ok (.iconst 0, 1) := by decide +kernel
theorem dX8_carry_67 : decode cX8_carry 67 = .ok (.invokevirtual 159, 3) := by decide +kernel
theorem dX8_carry_70 : decode cX8_carry 70 = .ok (.ireturn, 1) := by decide +kernel
theorem dX8_carry_71 : decode cX8_carry 71 = .ok (.aload_n 0, 1) := by decide +kernel
theorem dX8_carry_72 : decode cX8_carry 72 = .ok (.iload_n 2, 1) := by decide +kernel
theorem dX8_carry_73 : decode cX8_carry 73 = .ok (.invokevirtual 172, 3) := by decide +kernel
theorem dX8_carry_76 : decode cX8_carry 76 = .ok (.ireturn, 1) := by decide +kernel
theorem dX8_carry_77 : decode cX8_carry 77 = .ok (.aload_n 0, 1) := by decide +kernel
theorem dX8_carry_78 : decode cX8_carry 78 = .ok (.invokevirtual 184, 3) := by decide +kernel
theorem dX8_carry_81 : decode cX8_carry 81 = .ok (.ireturn, 1) := by decide +kernel
theorem dX8_carry_82 : decode cX8_carry 82 = .ok (.aload_n 0, 1) := by decide +kernel
theorem dX8_carry_83 : decode cX8_carry 83 = .ok (.iload_n 2, 1) := by decide +kernel
theorem dX8_carry_84 : decode cX8_carry 84 = .ok (.invokevirtual 190, 3) := by decide +kernel
theorem dX8_carry_87 : decode cX8_carry 87 = .ok (.ireturn, 1) := by decide +kernel
theorem dX8_command_0 : decode cX8_command 0 = .ok (.aload_n 0, 1) := by decide +kernel
theorem dX8_command_1 : decode cX8_command 1 = .ok (.getfield 205, 3) := by decide +kernel
theorem dX8_command_4 : decode cX8_command 4 = .ok (.istore_n 1, 1) := by decide +kernel
theorem dX8_command_5 : decode cX8_command 5 = .ok (.aload_n 0, 1) := by decide +kernel
theorem dX8_command_6 : decode cX8_command 6 = .ok (.invokevirtual 234, 3) := by decide +kernel
theorem dX8_command_9 : decode cX8_command 9 = .ok (.istore_n 2, 1) := by decide +kernel
theorem dX8_command_10 : decode cX8_command 10 = .ok (.iload_n 2, 1) := by decide +kernel
theorem dX8_command_11 : decode cX8_command 11 = .ok (.bipush 7, 2) := by decide +kernel
theorem dX8_command_13 : decode cX8_command 13 = .ok (.if_icmp .ne 13, 3) := by decide +kernel
theorem dX8_command_16 : decode cX8_command 16 = .ok (.aload_n 0, 1) := by decide +kernel
theorem dX8_command_17 : decode cX8_command 17 = .ok (.aload_n 0, 1) := by decide +kernel
theorem dX8_command_18 : decode cX8_command 18 = .ok (.getfield 205, 3) := by decide +kernel
theorem dX8_command_21 : decode cX8_command 21 = .ok (.invokevirtual 230, 3) := by decide +kernel
theorem dX8_command_24 : decode cX8_command 24 = .ok (.iconst 0, 1) := by decide +kernel
theorem dX8_command_25 : decode cX8_command 25 = .ok (.ireturn, 1) := by decide +kernel
theorem dX8_command_26 : decode cX8_command 26 = .ok (.aload_n 0, 1) := by decide +kernel
theorem dX8_command_27 : decode cX8_command 27 = .ok (.invokevirtual 227, 3) := by decide +kernel
theorem dX8_command_30 : decode cX8_command 30 = .ok (.iconst 0, 1) := by decide +kernel
theorem dX8_command_31 : decode cX8_command 31 = .ok (.istore_n 3, 1) := by decide +kernel
theorem dX8_command_32 : decode cX8_command 32 = .ok (.iload_n 3, 1) := by decide +kernel
theorem dX8_command_33 : decode cX8_command 33 = .ok (.iload_n 2, 1) := by decide +kernel
theorem dX8_command_34 : decode cX8_command 34 = .ok (.invokestatic 237, 3) := by decide +kernel
theorem dX8_command_37 : decode cX8_command 37 = .ok (.if_icmp .ge 22, 3) := by decide +kernel
theorem dX8_command_40 : decode cX8_command 40 = .ok (.aload_n 0, 1) := by decide +kernel
theorem dX8_command_41 : decode cX8_command 41 = .ok (.getfield 214, 3) := by decide +kernel
theorem dX8_command_44 : decode cX8_command 44 = .ok (.ifCond .ge 15, 3) := by decide +kernel
theorem dX8_command_47 : decode cX8_command 47 = .ok (.aload_n 0, 1) := by decide +kernel
theorem dX8_command_48 : decode cX8_command 48 = .ok (.iload_n 2, 1) := by decide +kernel
theorem dX8_command_49 : decode cX8_command 49 = .ok (.iload_n 3, 1) := by decide +kernel
theorem dX8_command_50 : decode cX8_command 50 = .ok (.invokevirtual 240, 3) := by decide +kernel
theorem dX8_command_53 : decode cX8_command 53 = .ok (.iinc 3 1, 3) := by decide +kernel
theorem dX8_command_56 : decode cX8_command 56 = .ok (.goto (-24), 3) := by decide +kernel
theorem dX8_command_59 : decode cX8_command 59 = .ok (.aload_n 0, 1) := by decide +kernel
theorem dX8_command_60 : decode cX8_command 60 = .ok (.getfield 214, 3) := by decide +kernel
theorem dX8_command_63 : decode cX8_command 63 = .ok (.ifCond .ge 32, 3) := by decide +kernel
theorem dX8_command_66 : decode cX8_command 66 = .ok (.aload_n 0, 1) := by decide +kernel
theorem dX8_command_67 : decode cX8_command 67 = .ok (.getfield 211, 3) := by decide +kernel
theorem dX8_command_70 : decode cX8_command 70 = .ok (.iconst 3, 1) := by decide +kernel
theorem dX8_command_71 : decode cX8_command 71 = .ok (.if_icmp .ne 16, 3) := by decide +kernel
theorem dX8_command_74 : decode cX8_command 74 = .ok (.aload_n 0, 1) := by decide +kernel
theorem dX8_command_75 : decode cX8_command 75 = .ok (.aload_n 0, 1) := by decide +kernel
theorem dX8_command_76 : decode cX8_command 76 = .ok (.getfield 205, 3) := by decide +kernel
theorem dX8_command_79 : decode cX8_command 79 = .ok (.invokevirtual 208, 3) := by decide +kernel
theorem dX8_command_82 : decode cX8_command 82 = .ok (.bipush 59, 2) := by decide +kernel
theorem dX8_command_84 : decode cX8_command 84 = .ok (.if_icmp .eq 11, 3) := by decide +kernel
theorem dX8_command_87 : decode cX8_command 87 = .ok (.aload_n 0, 1) := by decide +kernel
theorem dX8_command_88 : decode cX8_command 88 = .ok (.aload_n 0, 1) := by decide +kernel
theorem dX8_command_89 : decode cX8_command 89 = .ok (.getfield 205, 3) := by decide +kernel
theorem dX8_command_92 : decode cX8_command 92 = .ok (.invokevirtual 230, 3) := by decide +kernel
theorem dX8_command_95 : decode cX8_command 95 = .ok (.aload_n 0, 1) := by decide +kernel
theorem dX8_command_96 : decode cX8_command 96 = .ok (.getfield 214, 3) := by decide +kernel
theorem dX8_command_99 : decode cX8_command 99 = .ok (.ifCond .ge 34, 3) := by decide +kernel
theorem dX8_command_102 : decode cX8_command 102 = .ok (.aload_n 0, 1) := by decide +kernel
theorem dX8_command_103 : decode cX8_command 103 = .ok (.iload_n 2, 1) := by decide +kernel
theorem dX8_command_104 : decode cX8_command 104 = .ok (.aload_n 0, 1) := by decide +kernel
theorem dX8_command_105 : decode cX8_command 105 = .ok (.getfield 22, 3) := by decide +kernel
theorem dX8_command_108 : decode cX8_command 108 = .ok (.iconst 0, 1) := by decide +kernel
theorem dX8_command_109 : decode cX8_command 109 = .ok (.iaload, 1) := by decide +kernel
theorem dX8_command_110 : decode cX8_command 110 = .ok (.aload_n 0, 1) := by decide +kernel
theorem dX8_command_111 : decode cX8_command 111 = .ok (.getfield 22, 3) := by decide +kernel
theorem dX8_command_114 : decode cX8_command 114 = .ok (.iconst 1, 1) := by decide +kernel
theorem dX8_command_115 : decode cX8_command 115 = .ok (.iaload, 1) := by decide +kernel
theorem dX8_command_116 : decode cX8_command 116 = .ok (.aload_n 0, 1) := by decide +kernel
theorem dX8_command_117 : decode cX8_command 117 = .ok (.getfield 22, 3) := by decide +kernel
theorem dX8_command_120 : decode cX8_command 120 = .ok (.iconst 2, 1) := by decide +kernel
theorem dX8_command_121 : decode cX8_command 121 = .ok (.iaload, 1) := by decide +kernel
theorem dX8_command_122 : decode cX8_command 122 = .ok (.invokevirtual 244, 3) := by decide +kernel
theorem dX8_command_125 : decode cX8_command 125 = .ok (.ifCond .ge 8, 3) := by decide +kernel
theorem dX8_command_128 : decode cX8_command 128 = .ok (.aload_n 0, 1) := by decide +kernel
theorem dX8_command_129 : decode cX8_command 129 = .ok (.iload_n 1, 1) := by decide +kernel
theorem dX8_command_130 : decode cX8_command 130 = .ok (.invokevirtual 230, 3) := by decide +kernel
theorem dX8_command_133 : decode cX8_command 133 = .ok (.aload_n 0, 1) := by decide +kernel
theorem dX8_command_134 : decode cX8_command 134 = .ok (.getfield 214, 3) := by decide +kernel
theorem dX8_command_137 : decode cX8_command 137 = .ok (.ifCond .lt 5, 3) := by decide +kernel
theorem dX8_command_140 : decode cX8_command 140 = .ok (.iconst 0, 1) := by decide +kernel
theorem dX8_command_141 : decode cX8_command 141 = .ok (.ireturn, 1) := by decide +kernel
theorem dX8_command_142 : decode cX8_command 142 = .ok (.aload_n 0, 1) := by decide +kernel
theorem dX8_command_143 : decode cX8_command 143 = .ok (.iload_n 2, 1) := by decide +kernel
theorem dX8_command_144 : decode cX8_command 144 = .ok (.aload_n 0, 1) := by decide +kernel
theorem dX8_command_145 : decode cX8_command 145 = .ok (.getfield 22, 3) := by decide +kernel
theorem dX8_command_148 : decode cX8_command 148 = .ok (.iconst 0, 1) := by decide +kernel
theorem dX8_command_149 : decode cX8_command 149 = .ok (.iaload, 1) := by decide +kernel
theorem dX8_command_150 : decode cX8_command 150 = .ok (.aload_n 0, 1) := by decide +kernel
theorem dX8_command_151 : decode cX8_command 151 = .ok (.getfield 22, 3) := by decide +kernel
theorem dX8_command_154 : decode cX8_command 154 = .ok (.iconst 1, 1) := by decide +kernel
theorem dX8_command_155 : decode cX8_command 155 = .ok (.iaload, 1) := by decide +kernel
theorem dX8_command_156 : decode cX8_command 156 = .ok (.aload_n 0, 1) := by decide +kernel
theorem dX8_command_157 : decode cX8_command 157 = .ok (.getfield 22, 3) := by decide +kernel
theorem dX8_command_160 : decode cX8_command 160 = .ok (.iconst 2, 1) := by decide +kernel
theorem dX8_command_161 : decode cX8_command 161 = .ok (.iaload, 1) := by decide +kernel
theorem dX8_command_162 : decode cX8_command 162 = .ok (.invokevirtual 247, 3) := by decide +kernel
theorem dX8_command_165 : decode cX8_command 165 = .ok (.istore_n 3, 1) := by decide +kernel
theorem dX8_command_166 : decode cX8_command 166 = .ok (.aload_n 0, 1) := by decide +kernel
theorem dX8_command_167 : decode cX8_command 167 = .ok (.invokevirtual 227, 3) := by decide +kernel
theorem dX8_command_170 : decode cX8_command 170 = .ok (.iload_n 3, 1) := by decide +kernel
theorem dX8_command_171 : decode cX8_command 171 = .ok (.ifCond .ge 7, 3) := by decide +kernel
theorem dX8_command_174 : decode cX8_command 174 = .ok (.iconst 0, 1) := by decide +kernel
theorem dX8_command_175 : decode cX8_command 175 = .ok (.goto 4, 3) := by decide +kernel
theorem dX8_command_178 : decode cX8_command 178 = .ok (.iconst 1, 1) := by decide +kernel
theorem dX8_command_179 : decode cX8_command 179 = .ok (.ireturn, 1) := by decide +kernel
theorem dX8_run_0 : decode cX8_run 0 = .ok (.aload_n 0, 1) := by decide +kernel
theorem dX8_run_1 : decode cX8_run 1 = .ok (.iconst 0, 1) := by decide +kernel
theorem dX8_run_2 : decode cX8_run 2 = .ok (.putfield 35, 3) := by decide +kernel
theorem dX8_run_5 : decode cX8_run 5 = .ok (.iconst 0, 1) := by decide +kernel
theorem dX8_run_6 : decode cX8_run 6 = .ok (.istore_n 1, 1) := by decide +kernel
theorem dX8_run_7 : decode cX8_run 7 = .ok (.iload_n 1, 1) := by decide +kernel
theorem dX8_run_8 : decode cX8_run 8 = .ok (.sipush 356, 3) := by decide +kernel
theorem dX8_run_11 : decode cX8_run 11 = .ok (.if_icmp .ge 21, 3) := by decide +kernel
theorem dX8_run_14 : decode cX8_run 14 = .ok (.aload_n 0, 1) := by decide +kernel
theorem dX8_run_15 : decode cX8_run 15 = .ok (.getfield 13, 3) := by decide +kernel
theorem dX8_run_18 : decode cX8_run 18 = .ok (.iload_n 1, 1) := by decide +kernel
theorem dX8_run_19 : decode cX8_run 19 = .ok (.aload_n 0, 1) := by decide +kernel
theorem dX8_run_20 : decode cX8_run 20 = .ok (.getfield 7, 3) := by decide +kernel
theorem dX8_run_23 : decode cX8_run 23 = .ok (.iload_n 1, 1) := by decide +kernel
theorem dX8_run_24 : decode cX8_run 24 = .ok (.iaload, 1) := by decide +kernel
theorem dX8_run_25 : decode cX8_run 25 = .ok (.iastore, 1) := by decide +kernel
theorem dX8_run_26 : decode cX8_run 26 = .ok (.iinc 1 1, 3) := by decide +kernel
theorem dX8_run_29 : decode cX8_run 29 = .ok (.goto (-22), 3) := by decide +kernel
theorem dX8_run_32 : decode cX8_run 32 = .ok (.aload_n 0, 1) := by decide +kernel
theorem dX8_run_33 : decode cX8_run 33 = .ok (.iconst 0, 1) := by decide +kernel
theorem dX8_run_34 : decode cX8_run 34 = .ok (.putfield 202, 3) := by decide +kernel
theorem dX8_run_37 : decode cX8_run 37 = .ok (.aload_n 0, 1) := by decide +kernel
theorem dX8_run_38 : decode cX8_run 38 = .ok (.iconst (-1), 1) := by decide +kernel
theorem dX8_run_39 : decode cX8_run 39 = .ok (.putfield 214, 3) := by decide +kernel
theorem dX8_run_42 : decode cX8_run 42 = .ok (.iconst 0, 1) := by decide +kernel
theorem dX8_run_43 : decode cX8_run 43 = .ok (.istore_n 1, 1) := by decide +kernel
theorem dX8_run_44 : decode cX8_run 44 = .ok (.aload_n 0, 1) := by decide +kernel
theorem dX8_run_45 : decode cX8_run 45 = .ok (.invokevirtual 227, 3) := by decide +kernel
theorem dX8_run_48 : decode cX8_run 48 = .ok (.aload_n 0, 1) := by decide +kernel
theorem dX8_run_49 : decode cX8_run 49 = .ok (.getfield 214, 3) := by decide +kernel
theorem dX8_run_52 : decode cX8_run 52 = .ok (.ifCond .ge 20, 3) := by decide +kernel
theorem dX8_run_55 : decode cX8_run 55 = .ok (.aload_n 0, 1) := by decide +kernel
theorem dX8_run_56 : decode cX8_run 56 = .ok (.getfield 211, 3) := by decide +kernel
theorem dX8_run_59 : decode cX8_run 59 = .ok (.ifCond .eq 13, 3) := by decide +kernel
theorem dX8_run_62 : decode cX8_run 62 = .ok (.iload_n 1, 1) := by decide +kernel
theorem dX8_run_63 : decode cX8_run 63 = .ok (.aload_n 0, 1) := by decide +kernel
theorem dX8_run_64 : decode cX8_run 64 = .ok (.invokevirtual 250, 3) := by decide +kernel
theorem dX8_run_67 : decode cX8_run 67 = .ok (.iadd, 1) := by decide +kernel
theorem dX8_run_68 : decode cX8_run 68 = .ok (.istore_n 1, 1) := by decide +kernel
theorem dX8_run_69 : decode cX8_run 69 = .ok (.goto (-21), 3) := by decide +kernel
theorem dX8_run_72 : decode cX8_run 72 = .ok (.iconst 0, 1) := by decide +kernel
theorem dX8_run_73 : decode cX8_run 73 = .ok (.istore_n 2, 1) := by decide +kernel
theorem dX8_run_74 : decode cX8_run 74 = .ok (.iload_n 2, 1) := by decide +kernel
theorem dX8_run_75 : decode cX8_run 75 = .ok (.sipush 356, 3) := by decide +kernel
theorem dX8_run_78 : decode cX8_run 78 = .ok (.if_icmp .ge 35, 3) := by decide +kernel
theorem dX8_run_81 : decode cX8_run 81 = .ok (.aload_n 0, 1) := by decide +kernel
theorem dX8_run_82 : decode cX8_run 82 = .ok (.getfield 7, 3) := by decide +kernel
theorem dX8_run_85 : decode cX8_run 85 = .ok (.iload_n 2, 1) := by decide +kernel
theorem dX8_run_86 : decode cX8_run 86 = .ok (.iaload, 1) := by decide +kernel
theorem dX8_run_87 : decode cX8_run 87 = .ok (.istore_n 3, 1) := by decide +kernel
theorem dX8_run_88 : decode cX8_run 88 = .ok (.aload_n 0, 1) := by decide +kernel
theorem dX8_run_89 : decode cX8_run 89 = .ok (.getfield 7, 3) := by decide +kernel
theorem dX8_run_92 : decode cX8_run 92 = .ok (.iload_n 2, 1) := by decide +kernel
theorem dX8_run_93 : decode cX8_run 93 = .ok (.aload_n 0, 1) := by decide +kernel
theorem dX8_run_94 : decode cX8_run 94 = .ok (.getfield 13, 3) := by decide +kernel
theorem dX8_run_97 : decode cX8_run 97 = .ok (.iload_n 2, 1) := by decide +kernel
theorem dX8_run_98 : decode cX8_run 98 = .ok (.iaload, 1) := by decide +kernel
theorem dX8_run_99 : decode cX8_run 99 = .ok (.iastore, 1) := by decide +kernel
theorem dX8_run_100 : decode cX8_run 100 = .ok (.aload_n 0, 1) := by decide +kernel
theorem dX8_run_101 : decode cX8_run 101 = .ok (.getfield 13, 3) := by decide +kernel
theorem dX8_run_104 : decode cX8_run 104 = .ok (.iload_n 2, 1) := by decide +kernel
theorem dX8_run_105 : decode cX8_run 105 = .ok (.iload_n 3, 1) := by decide +kernel
theorem dX8_run_106 : decode cX8_run 106 = .ok (.iastore, 1) := by decide +kernel
theorem dX8_run_107 : decode cX8_run 107 = .ok (.iinc 2 1, 3) := by decide +kernel
theorem dX8_run_110 : decode cX8_run 110 = .ok (.goto (-36), 3) := by decide +kernel
theorem dX8_run_113 : decode cX8_run 113 = .ok (.aload_n 0, 1) := by decide +kernel
theorem dX8_run_114 : decode cX8_run 114 = .ok (.getfield 214, 3) := by decide +kernel
theorem dX8_run_117 : decode cX8_run 117 = .ok (.ifCond .lt 12, 3) := by decide +kernel
theorem dX8_run_120 : decode cX8_run 120 = .ok (.sipush (-1000), 3) := by decide +kernel
theorem dX8_run_123 : decode cX8_run 123 = .ok (.aload_n 0, 1) := by decide +kernel
theorem dX8_run_124 : decode cX8_run 124 = .ok (.getfield 214, 3) := by decide +kernel
theorem dX8_run_127 : decode cX8_run 127 = .ok (.isub, 1) := by decide +kernel
theorem dX8_run_128 : decode cX8_run 128 = .ok (.ireturn, 1) := by decide +kernel
theorem dX8_run_129 : decode cX8_run 129 = .ok (.aload_n 0, 1) := by decide +kernel
theorem dX8_run_130 : decode cX8_run 130 = .ok (.invokevirtual 95, 3) := by decide +kernel
theorem dX8_run_133 : decode cX8_run 133 = .ok (.iconst 0, 1) := by decide +kernel
theorem dX8_run_134 : decode cX8_run 134 = .ok (.istore_n 2, 1) := by decide +kernel
theorem dX8_run_135 : decode cX8_run 135 = .ok (.iload_n 2, 1) := by decide +kernel
theorem dX8_run_136 : decode cX8_run 136 = .ok (.sipush 356, 3) := by decide +kernel
theorem dX8_run_139 : decode cX8_run 139 = .ok (.if_icmp .ge 21, 3) := by decide +kernel
theorem dX8_run_142 : decode cX8_run 142 = .ok (.aload_n 0, 1) := by decide +kernel
theorem dX8_run_143 : decode cX8_run 143 = .ok (.getfield 7, 3) := by decide +kernel
theorem dX8_run_146 : decode cX8_run 146 = .ok (.iload_n 2, 1) := by decide +kernel
theorem dX8_run_147 : decode cX8_run 147 = .ok (.aload_n 0, 1) := by decide +kernel
theorem dX8_run_148 : decode cX8_run 148 = .ok (.getfield 13, 3) := by decide +kernel
theorem dX8_run_151 : decode cX8_run 151 = .ok (.iload_n 2, 1) := by decide +kernel
theorem dX8_run_152 : decode cX8_run 152 = .ok (.iaload, 1) := by decide +kernel
theorem dX8_run_153 : decode cX8_run 153 = .ok (.iastore, 1) := by decide +kernel
theorem dX8_run_154 : decode cX8_run 154 = .ok (.iinc 2 1, 3) := by decide +kernel
theorem dX8_run_157 : decode cX8_run 157 = .ok (.goto (-22), 3) := by decide +kernel
theorem dX8_run_160 : decode cX8_run 160 = .ok (.aload_n 0, 1) := by decide +kernel
theorem dX8_run_161 : decode cX8_run 161 = .ok (.iconst 0, 1) := by decide +kernel
theorem dX8_run_162 : decode cX8_run 162 = .ok (.putfield 199, 3) := by decide +kernel
theorem dX8_run_165 : decode cX8_run 165 = .ok (.iload_n 1, 1) := by decide +kernel
theorem dX8_run_166 : decode cX8_run 166 = .ok (.ireturn, 1) := by decide +kernel
theorem dX8_knownWalls_0 : decode cX8_knownWalls 0 = .ok (.iconst 0, 1) := by decide +kernel
theorem dX8_knownWalls_1 : decode cX8_knownWalls 1 = .ok (.istore_n 1, 1) := by decide +kernel
theorem dX8_knownWalls_2 : decode cX8_knownWalls 2 = .ok (.iconst 0, 1) := by decide +kernel
theorem dX8_knownWalls_3 : decode cX8_knownWalls 3 = .ok (.istore_n 2, 1) := by decide +kernel
theorem dX8_knownWalls_4 : decode cX8_knownWalls 4 = .ok (.iload_n 2, 1) := by decide +kernel
theorem dX8_knownWalls_5 : decode cX8_knownWalls 5 = .ok (.aload_n 0, 1) := by decide +kernel
theorem dX8_knownWalls_6 : decode cX8_knownWalls 6 = .ok (.getfield 7, 3) := by decide +kernel
theorem dX8_knownWalls_9 : decode cX8_knownWalls 9 = .ok (.iconst 0, 1) := by decide +kernel
theorem dX8_knownWalls_10 : decode cX8_knownWalls 10 = .ok (.iaload, 1) := by decide +kernel
theorem dX8_knownWalls_11 : decode cX8_knownWalls 11 = .ok (.if_icmp .ge 27, 3) := by decide +kernel
theorem dX8_knownWalls_14 : decode cX8_knownWalls 14 = .ok (.iload_n 1, 1) := by decide +kernel
theorem dX8_knownWalls_15 : decode cX8_knownWalls 15 = .ok (.aload_n 0, 1) := by decide +kernel
theorem dX8_knownWalls_16 : decode cX8_knownWalls 16 = .ok (.iload_n 2, 1) := by decide +kernel
theorem dX8_knownWalls_17 : decode cX8_knownWalls 17 = .ok (.invokevirtual 117, 3) := by decide +kernel
theorem dX8_knownWalls_20 : decode cX8_knownWalls 20 = .ok (.ldc 83, 2) := by decide +kernel
theorem dX8_knownWalls_22 : decode cX8_knownWalls 22 = .ok (.if_icmp .ne 7, 3) := by decide +kernel
theorem dX8_knownWalls_25 : decode cX8_knownWalls 25 = .ok (.iconst 0, 1) := by decide +kernel
theorem dX8_knownWalls_26 : decode cX8_knownWalls 26 = .ok (.goto 4, 3) := by decide +kernel
theorem dX8_knownWalls_29 : decode cX8_knownWalls 29 = .ok (.iconst 1, 1) := by decide +kernel
theorem dX8_knownWalls_30 : decode cX8_knownWalls 30 = .ok (.iadd, 1) := by decide +kernel
theorem dX8_knownWalls_31 : decode cX8_knownWalls 31 = .ok (.istore_n 1, 1) := by decide +kernel
theorem dX8_knownWalls_32 : decode cX8_knownWalls 32 = .ok (.iinc 2 1, 3) := by decide +kernel
theorem dX8_knownWalls_35 : decode cX8_knownWalls 35 = .ok (.goto (-31), 3) := by decide +kernel
theorem dX8_knownWalls_38 : decode cX8_knownWalls 38 = .ok (.iload_n 1, 1) := by decide +kernel
theorem dX8_knownWalls_39 : decode cX8_knownWalls 39 = .ok (.ireturn, 1) := by decide +kernel
theorem dX8_count_0 : decode cX8_count 0 = .ok (.aload_n 0, 1) := by decide +kernel
theorem dX8_count_1 : decode cX8_count 1 = .ok (.iconst 0, 1) := by decide +kernel
theorem dX8_count_2 : decode cX8_count 2 = .ok (.putfield 35, 3) := by decide +kernel
theorem dX8_count_5 : decode cX8_count 5 = .ok (.iload_n 1, 1) := by decide +kernel
theorem dX8_count_6 : decode cX8_count 6 = .ok (.iconst 3, 1) := by decide +kernel
theorem dX8_count_7 : decode cX8_count 7 = .ok (.bipush 7, 2) := by decide +kernel
theorem dX8_count_9 : decode cX8_count 9 = .ok (.invokestatic 90, 3) := by decide +kernel
theorem dX8_count_12 : decode cX8_count 12 = .ok (.ifCond .eq 11, 3) := by decide +kernel
theorem dX8_count_15 : decode cX8_count 15 = .ok (.aload_n 0, 1) := by decide +kernel
theorem dX8_count_16 : decode cX8_count 16 = .ok (.iload_n 1, 1) := by decide +kernel
theorem dX8_count_17 : decode cX8_count 17 = .ok (.iconst 3, 1) := by decide +kernel
theorem dX8_count_18 : decode cX8_count 18 = .ok (.isub, 1) := by decide +kernel
theorem dX8_count_19 : decode cX8_count 19 = .ok (.invokevirtual 187, 3) := by decide +kernel
theorem dX8_count_22 : decode cX8_count 22 = .ok (.ireturn, 1) := by decide +kernel
theorem dX8_count_23 : decode cX8_count 23 = .ok (.iload_n 1, 1) := by decide +kernel
theorem dX8_count_24 : decode cX8_count 24 = .ok (.bipush 13, 2) := by decide +kernel
theorem dX8_count_26 : decode cX8_count 26 = .ok (.bipush 16, 2) := by decide +kernel
theorem dX8_count_28 : decode cX8_count 28 = .ok (.invokestatic 90, 3) := by decide +kernel
theorem dX8_count_31 : decode cX8_count 31 = .ok (.ifCond .eq 15, 3) := by decide +kernel
theorem dX8_count_34 : decode cX8_count 34 = .ok (.aload_n 0, 1) := by decide +kernel
theorem dX8_count_35 : decode cX8_count 35 = .ok (.getfield 7, 3) := by decide +kernel
theorem dX8_count_38 : decode cX8_count 38 = .ok (.iconst 4, 1) := by decide +kernel
theorem dX8_count_39 : decode cX8_count 39 = .ok (.iload_n 1, 1) := by decide +kernel
theorem dX8_count_40 : decode cX8_count 40 = .ok (.iadd, 1) := by decide +kernel
theorem dX8_count_41 : decode cX8_count 41 = .ok (.bipush 13, 2) := by decide +kernel
theorem dX8_count_43 : decode cX8_count 43 = .ok (.isub, 1) := by decide +kernel
theorem dX8_count_44 : decode cX8_count 44 = .ok (.iaload, 1) := by decide +kernel
theorem dX8_count_45 : decode cX8_count 45 = .ok (.ireturn, 1) := by decide +kernel
theorem dX8_count_46 : decode cX8_count 46 = .ok (.iload_n 1, 1) := by decide +kernel
theorem dX8_count_47 : decode cX8_count 47 = .ok (.tableswitch 128 0 12 #[65, 72, 77, 128, 128, 128, 128, 128, 84, 91, 98, 118, 123], 65) := by decide +kernel
theorem dX8_count_112 : decode cX8_count 112 = .ok (.aload_n 0, 1) := by decide +kernel
theorem dX8_count_113 : decode cX8_count 113 = .ok (.getfield 7, 3) := by decide +kernel
theorem dX8_count_116 : decode cX8_count 116 = .ok (.iconst 0, 1) := by decide +kernel
theorem dX8_count_117 : decode cX8_count 117 = .ok (.iaload, 1) := by decide +kernel
theorem dX8_count_118 : decode cX8_count 118 = .ok (.ireturn, 1) := by decide +kernel
theorem dX8_count_119 : decode cX8_count 119 = .ok (.aload_n 0, 1) := by decide +kernel
theorem dX8_count_120 : decode cX8_count 120 = .ok (.invokevirtual 253, 3) := by decide +kernel
theorem dX8_count_123 : decode cX8_count 123 = .ok (.ireturn, 1) := by decide +kernel
theorem dX8_count_124 : decode cX8_count 124 = .ok (.aload_n 0, 1) := by decide +kernel
theorem dX8_count_125 : decode cX8_count 125 = .ok (.getfield 7, 3) := by decide +kernel
theorem dX8_count_128 : decode cX8_count 128 = .ok (.iconst 1, 1) := by decide +kernel
theorem dX8_count_129 : decode cX8_count 129 = .ok (.iaload, 1) := by decide +kernel
theorem dX8_count_130 : decode cX8_count 130 = .ok (.ireturn, 1) := by decide +kernel
theorem dX8_count_131 : decode cX8_count 131 = .ok (.aload_n 0, 1) := by decide +kernel
theorem dX8_count_132 : decode cX8_count 132 = .ok (.getfield 7, 3) := by decide +kernel
theorem dX8_count_135 : decode cX8_count 135 = .ok (.iconst 2, 1) := by decide +kernel
theorem dX8_count_136 : decode cX8_count 136 = .ok (.iaload, 1) := by decide +kernel
theorem dX8_count_137 : decode cX8_count 137 = .ok (.ireturn, 1) := by decide +kernel
theorem dX8_count_138 : decode cX8_count 138 = .ok (.aload_n 0, 1) := by decide +kernel
theorem dX8_count_139 : decode cX8_count 139 = .ok (.getfield 7, 3) := by decide +kernel
theorem dX8_count_142 : decode cX8_count 142 = .ok (.iconst 3, 1) := by decide +kernel
theorem dX8_count_143 : decode cX8_count 143 = .ok (.iaload, 1) := by decide +kernel
theorem dX8_count_144 : decode cX8_count 144 = .ok (.ireturn, 1) := by decide +kernel
theorem dX8_count_145 : decode cX8_count 145 = .ok (.aload_n 0, 1) := by decide +kernel
theorem dX8_count_146 : decode cX8_count 146 = .ok (.getfield 7, 3) := by decide +kernel
theorem dX8_count_149 : decode cX8_count 149 = .ok (.iconst 0, 1) := by decide +kernel
theorem dX8_count_150 : decode cX8_count 150 = .ok (.invokestatic 196, 3) := by decide +kernel
theorem dX8_count_153 : decode cX8_count 153 = .ok (.iaload, 1) := by decide +kernel
theorem dX8_count_154 : decode cX8_count 154 = .ok (.aload_n 0, 1) := by decide +kernel
theorem dX8_count_155 : decode cX8_count 155 = .ok (.getfield 7, 3) := by decide +kernel
theorem dX8_count_158 : decode cX8_count 158 = .ok (.iconst 1, 1) := by decide +kernel
theorem dX8_count_159 : decode cX8_count 159 = .ok (.invokestatic 196, 3) := by decide +kernel
theorem dX8_count_162 : decode cX8_count 162 = .ok (.iaload, 1) := by decide +kernel
theorem dX8_count_163 : decode cX8_count 163 = .ok (.iadd, 1) := by decide +kernel
theorem dX8_count_164 : decode cX8_count 164 = .ok (.ireturn, 1) := by decide +kernel
theorem dX8_count_165 : decode cX8_count 165 = .ok (.aload_n 0, 1) := by decide +kernel
theorem dX8_count_166 : decode cX8_count 166 = .ok (.getfield 39, 3) := by decide +kernel
theorem dX8_count_169 : decode cX8_count 169 = .ok (.ireturn, 1) := by decide +kernel
theorem dX8_count_170 : decode cX8_count 170 = .ok (.aload_n 0, 1) := by decide +kernel
theorem dX8_count_171 : decode cX8_count 171 = .ok (.getfield 199, 3) := by decide +kernel
theorem dX8_count_174 : decode cX8_count 174 = .ok (.ireturn, 1) := by decide +kernel
theorem dX8_count_175 : decode cX8_count 175 = .ok (.ldc 94, 2) := by decide +kernel
theorem dX8_count_177 : decode cX8_count 177 = .ok (.ireturn, 1) := by decide +kernel
theorem dX8_commissionsFor_0 : decode cX8_commissionsFor 0 = .ok (.iconst 0, 1) := by decide +kernel
theorem dX8_commissionsFor_1 : decode cX8_commissionsFor 1 = .ok (.istore_n 2, 1) := by decide +kernel
theorem dX8_commissionsFor_2 : decode cX8_commissionsFor 2 = .ok (.iconst 0, 1) := by decide +kernel
theorem dX8_commissionsFor_3 : decode cX8_commissionsFor 3 = .ok (.istore_n 3, 1) := by decide +kernel
theorem dX8_commissionsFor_4 : decode cX8_commissionsFor 4 = .ok (.iload_n 3, 1) := by decide +kernel
theorem dX8_commissionsFor_5 : decode cX8_commissionsFor 5 = .ok (.aload_n 0, 1) := by decide +kernel
theorem dX8_commissionsFor_6 : decode cX8_commissionsFor 6 = .ok (.getfield 7, 3) := by decide +kernel
theorem dX8_commissionsFor_9 : decode cX8_commissionsFor 9 = .ok (.iconst 1, 1) := by decide +kernel
theorem dX8_commissionsFor_10 : decode cX8_commissionsFor 10 = .ok (.iaload, 1) := by decide +kernel
theorem dX8_commissionsFor_11 : decode cX8_commissionsFor 11 = .ok (.if_icmp .ge 27, 3) := by decide +kernel
theorem dX8_commissionsFor_14 : decode cX8_commissionsFor 14 = .ok (.iload_n 2, 1) := by decide +kernel
theorem dX8_commissionsFor_15 : decode cX8_commissionsFor 15 = .ok (.aload_n 0, 1) := by decide +kernel
theorem dX8_commissionsFor_16 : decode cX8_commissionsFor 16 = .ok (.iload_n 3, 1) := by decide +kernel
theorem dX8_commissionsFor_17 : decode cX8_commissionsFor 17 = .ok (.iconst 1, 1) := by decide +kernel
theorem dX8_commissionsFor_18 : decode cX8_commissionsFor 18 = .ok (.invokevirtual 127, 3) := by decide +kernel
theorem dX8_commissionsFor_21 : decode cX8_commissionsFor 21 = .ok (.iload_n 1, 1) := by decide +kernel
theorem dX8_commissionsFor_22 : decode cX8_commissionsFor 22 = .ok (.if_icmp .ne 7, 3) := by decide +kernel
theorem dX8_commissionsFor_25 : decode cX8_commissionsFor 25 = .ok (.iconst 1, 1) := by decide +kernel
theorem dX8_commissionsFor_26 : decode cX8_commissionsFor 26 = .ok (.goto 4, 3) := by decide +kernel
theorem dX8_commissionsFor_29 : decode cX8_commissionsFor 29 = .ok (.iconst 0, 1) := by decide +kernel
theorem dX8_commissionsFor_30 : decode cX8_commissionsFor 30 = .ok (.iadd, 1) := by decide +kernel
theorem dX8_commissionsFor_31 : decode cX8_commissionsFor 31 = .ok (.istore_n 2, 1) := by decide +kernel
theorem dX8_commissionsFor_32 : decode cX8_commissionsFor 32 = .ok (.iinc 3 1, 3) := by decide +kernel
theorem dX8_commissionsFor_35 : decode cX8_commissionsFor 35 = .ok (.goto (-31), 3) := by decide +kernel
theorem dX8_commissionsFor_38 : decode cX8_commissionsFor 38 = .ok (.iload_n 2, 1) := by decide +kernel
theorem dX8_commissionsFor_39 : decode cX8_commissionsFor 39 = .ok (.ireturn, 1) := by decide +kernel
theorem dX8_wall_0 : decode cX8_wall 0 = .ok (.aload_n 0, 1) := by decide +kernel
theorem dX8_wall_1 : decode cX8_wall 1 = .ok (.iconst 0, 1) := by decide +kernel
theorem dX8_wall_2 : decode cX8_wall 2 = .ok (.putfield 35, 3) := by decide +kernel
theorem dX8_wall_5 : decode cX8_wall 5 = .ok (.aload_n 0, 1) := by decide +kernel
theorem dX8_wall_6 : decode cX8_wall 6 = .ok (.iload_n 1, 1) := by decide +kernel
theorem dX8_wall_7 : decode cX8_wall 7 = .ok (.invokevirtual 114, 3) := by decide +kernel
theorem dX8_wall_10 : decode cX8_wall 10 = .ok (.ifCond .eq 12, 3) := by decide +kernel
theorem dX8_wall_13 : decode cX8_wall 13 = .ok (.iload_n 2, 1) := by decide +kernel
theorem dX8_wall_14 : decode cX8_wall 14 = .ok (.iconst 0, 1) := by decide +kernel
theorem dX8_wall_15 : decode cX8_wall 15 = .ok (.iconst 3, 1) := by decide +kernel
theorem dX8_wall_16 : decode cX8_wall 16 = .ok (.invokestatic 90, 3) := by decide +kernel
theorem dX8_wall_19 : decode cX8_wall 19 = .ok (.ifCond .ne 6, 3) := by decide +kernel
theorem dX8_wall_22 : decode cX8_wall 22 = .ok (.ldc 94, 2) := by decide +kernel
theorem dX8_wall_24 : decode cX8_wall 24 = .ok (.ireturn, 1) := by decide +kernel
theorem dX8_wall_25 : decode cX8_wall 25 = .ok (.iload_n 2, 1) := by decide +kernel
theorem dX8_wall_26 : decode cX8_wall 26 = .ok (.iconst 2, 1) := by decide +kernel
theorem dX8_wall_27 : decode cX8_wall 27 = .ok (.if_icmp .ge 21, 3) := by decide +kernel
theorem dX8_wall_30 : decode cX8_wall 30 = .ok (.aload_n 0, 1) := by decide +kernel
theorem dX8_wall_31 : decode cX8_wall 31 = .ok (.getfield 7, 3) := by decide +kernel
theorem dX8_wall_34 : decode cX8_wall 34 = .ok (.bipush 20, 2) := by decide +kernel
theorem dX8_wall_36 : decode cX8_wall 36 = .ok (.iconst 3, 1) := by decide +kernel
theorem dX8_wall_37 : decode cX8_wall 37 = .ok (.iload_n 1, 1) := by decide +kernel
theorem dX8_wall_38 : decode cX8_wall 38 = .ok (.imul, 1) := by decide +kernel
theorem dX8_wall_39 : decode cX8_wall 39 = .ok (.iadd, 1) := by decide +kernel
theorem dX8_wall_40 : decode cX8_wall 40 = .ok (.iconst 1, 1) := by decide +kernel
theorem dX8_wall_41 : decode cX8_wall 41 = .ok (.iadd, 1) := by decide +kernel
theorem dX8_wall_42 : decode cX8_wall 42 = .ok (.iload_n 2, 1) := by decide +kernel
theorem dX8_wall_43 : decode cX8_wall 43 = .ok (.iadd, 1) := by decide +kernel
theorem dX8_wall_44 : decode cX8_wall 44 = .ok (.iaload, 1) := by decide +kernel
theorem dX8_wall_45 : decode cX8_wall 45 = .ok (.goto 21, 3) := by decide +kernel
theorem dX8_wall_48 : decode cX8_wall 48 = .ok (.iload_n 2, 1) := by decide +kernel
theorem dX8_wall_49 : decode cX8_wall 49 = .ok (.iconst 2, 1) := by decide +kernel
theorem dX8_wall_50 : decode cX8_wall 50 = .ok (.if_icmp .ne 11, 3) := by decide +kernel
theorem dX8_wall_53 : decode cX8_wall 53 = .ok (.aload_n 0, 1) := by decide +kernel
theorem dX8_wall_54 : decode cX8_wall 54 = .ok (.iload_n 1, 1) := by decide +kernel
theorem dX8_wall_55 : decode cX8_wall 55 = .ok (.invokevirtual 117, 3) := by decide +kernel
theorem dX8_wall_58 : decode cX8_wall 58 = .ok (.goto 8, 3) := by decide +kernel
theorem dX8_wall_61 : decode cX8_wall 61 = .ok (.aload_n 0, 1) := by decide +kernel
theorem dX8_wall_62 : decode cX8_wall 62 = .ok (.iload_n 1, 1) := by decide +kernel
theorem dX8_wall_63 : decode cX8_wall 63 = .ok (.invokevirtual 256, 3) := by decide +kernel
theorem dX8_wall_66 : decode cX8_wall 66 = .ok (.ireturn, 1) := by decide +kernel
theorem dX8_commission_0 : decode cX8_commission 0 = .ok (.aload_n 0, 1) := by decide +kernel
theorem dX8_commission_1 : decode cX8_commission 1 = .ok (.iconst 0, 1) := by decide +kernel
theorem dX8_commission_2 : decode cX8_commission 2 = .ok (.putfield 35, 3) := by decide +kernel
theorem dX8_commission_5 : decode cX8_commission 5 = .ok (.aload_n 0, 1) := by decide +kernel
theorem dX8_commission_6 : decode cX8_commission 6 = .ok (.iload_n 1, 1) := by decide +kernel
theorem dX8_commission_7 : decode cX8_commission 7 = .ok (.invokevirtual 162, 3) := by decide +kernel
theorem dX8_commission_10 : decode cX8_commission 10 = .ok (.ifCond .eq 13, 3) := by decide +kernel
theorem dX8_commission_13 : decode cX8_commission 13 = .ok (.iload_n 2, 1) := by decide +kernel
theorem dX8_commission_14 : decode cX8_commission 14 = .ok (.iconst 0, 1) := by decide +kernel
theorem dX8_commission_15 : decode cX8_commission 15 = .ok (.bipush 8, 2) := by decide +kernel
theorem dX8_commission_17 : decode cX8_commission 17 = .ok (.invokestatic 90, 3) := by decide +kernel
theorem dX8_commission_20 : decode cX8_commission 20 = .ok (.ifCond .ne 6, 3) := by decide +kernel
theorem dX8_commission_23 : decode cX8_commission 23 = .ok (.ldc 94, 2) := by decide +kernel
theorem dX8_commission_25 : decode cX8_commission 25 = .ok (.ireturn, 1) := by decide +kernel
theorem dX8_commission_26 : decode cX8_commission 26 = .ok (.iload_n 2, 1) := by decide +kernel
theorem dX8_commission_27 : decode cX8_commission 27 = .ok (.tableswitch 57 5 8 #[29, 35, 41, 49], 29) := by decide +kernel
theorem dX8_commission_56 : decode cX8_commission 56 = .ok (.aload_n 0, 1) := by decide +kernel
theorem dX8_commission_57 : decode cX8_commission 57 = .ok (.iload_n 1, 1) := by decide +kernel
theorem dX8_commission_58 : decode cX8_commission 58 = .ok (.invokevirtual 130, 3) := by decide +kernel
theorem dX8_commission_61 : decode cX8_commission 61 = .ok (.ireturn, 1) := by decide +kernel
theorem dX8_commission_62 : decode cX8_commission 62 = .ok (.aload_n 0, 1) := by decide +kernel
theorem dX8_commission_63 : decode cX8_commission 63 = .ok (.iload_n 1, 1) := by decide +kernel
theorem dX8_commission_64 : decode cX8_commission 64 = .ok (.invokevirtual 148, 3) := by decide +kernel
theorem dX8_commission_67 : decode cX8_commission 67 = .ok (.ireturn, 1) := by decide +kernel
theorem dX8_commission_68 : decode cX8_commission 68 = .ok (.aload_n 0, 1) := by decide +kernel
theorem dX8_commission_69 : decode cX8_commission 69 = .ok (.iload_n 1, 1) := by decide +kernel
theorem dX8_commission_70 : decode cX8_commission 70 = .ok (.bipush 6, 2) := by decide +kernel
theorem dX8_commission_72 : decode cX8_commission 72 = .ok (.invokevirtual 127, 3) := by decide +kernel
theorem dX8_commission_75 : decode cX8_commission 75 = .ok (.ireturn, 1) := by decide +kernel
theorem dX8_commission_76 : decode cX8_commission 76 = .ok (.aload_n 0, 1) := by decide +kernel
theorem dX8_commission_77 : decode cX8_commission 77 = .ok (.iload_n 1, 1) := by decide +kernel
theorem dX8_commission_78 : decode cX8_commission 78 = .ok (.bipush 7, 2) := by decide +kernel
theorem dX8_commission_80 : decode cX8_commission 80 = .ok (.invokevirtual 127, 3) := by decide +kernel
theorem dX8_commission_83 : decode cX8_commission 83 = .ok (.ireturn, 1) := by decide +kernel
theorem dX8_commission_84 : decode cX8_commission 84 = .ok (.aload_n 0, 1) := by decide +kernel
theorem dX8_commission_85 : decode cX8_commission 85 = .ok (.iload_n 1, 1) := by decide +kernel
theorem dX8_commission_86 : decode cX8_commission 86 = .ok (.iload_n 2, 1) := by decide +kernel
theorem dX8_commission_87 : decode cX8_commission 87 = .ok (.invokevirtual 127, 3) := by decide +kernel
theorem dX8_commission_90 : decode cX8_commission 90 = .ok (.ireturn, 1) := by decide +kernel
theorem dX8_correction_0 : decode cX8_correction 0 = .ok (.aload_n 0, 1) := by decide +kernel
theorem dX8_correction_1 : decode cX8_correction 1 = .ok (.iconst 0, 1) := by decide +kernel
theorem dX8_correction_2 : decode cX8_correction 2 = .ok (.putfield 35, 3) := by decide +kernel
theorem dX8_correction_5 : decode cX8_correction 5 = .ok (.iload_n 1, 1) := by decide +kernel
theorem dX8_correction_6 : decode cX8_correction 6 = .ok (.iconst 0, 1) := by decide +kernel
theorem dX8_correction_7 : decode cX8_correction 7 = .ok (.bipush 11, 2) := by decide +kernel
theorem dX8_correction_9 : decode cX8_correction 9 = .ok (.invokestatic 90, 3) := by decide +kernel
theorem dX8_correction_12 : decode cX8_correction 12 = .ok (.ifCond .eq 15, 3) := by decide +kernel
theorem dX8_correction_15 : decode cX8_correction 15 = .ok (.aload_n 0, 1) := by decide +kernel
theorem dX8_correction_16 : decode cX8_correction 16 = .ok (.getfield 7, 3) := by decide +kernel
theorem dX8_correction_19 : decode cX8_correction 19 = .ok (.bipush 8, 2) := by decide +kernel
theorem dX8_correction_21 : decode cX8_correction 21 = .ok (.iload_n 1, 1) := by decide +kernel
theorem dX8_correction_22 : decode cX8_correction 22 = .ok (.iadd, 1) := by decide +kernel
theorem dX8_correction_23 : decode cX8_correction 23 = .ok (.iaload, 1) := by decide +kernel
theorem dX8_correction_24 : decode cX8_correction 24 = .ok (.goto 5, 3) := by decide +kernel
theorem dX8_correction_27 : decode cX8_correction 27 = .ok (.ldc 94, 2) := by decide +kernel
theorem dX8_correction_29 : decode cX8_correction 29 = .ok (.ireturn, 1) := by decide +kernel
theorem dX8_sine_0 : decode cX8_sine 0 = .ok (.aload_n 0, 1) := by decide +kernel
theorem dX8_sine_1 : decode cX8_sine 1 = .ok (.iconst 0, 1) := by decide +kernel
theorem dX8_sine_2 : decode cX8_sine 2 = .ok (.putfield 35, 3) := by decide +kernel
theorem dX8_sine_5 : decode cX8_sine 5 = .ok (.iload_n 1, 1) := by decide +kernel
theorem dX8_sine_6 : decode cX8_sine 6 = .ok (.sipush (-720), 3) := by decide +kernel
theorem dX8_sine_9 : decode cX8_sine 9 = .ok (.sipush 720, 3) := by decide +kernel
theorem dX8_sine_12 : decode cX8_sine 12 = .ok (.invokestatic 90, 3) := by decide +kernel
theorem dX8_sine_15 : decode cX8_sine 15 = .ok (.ifCond .eq 11, 3) := by decide +kernel
theorem dX8_sine_18 : decode cX8_sine 18 = .ok (.iload_n 1, 1) := by decide +kernel
theorem dX8_sine_19 : decode cX8_sine 19 = .ok (.invokestatic 50, 3) := by decide +kernel
theorem dX8_sine_22 : decode cX8_sine 22 = .ok (.l2i, 1) := by decide +kernel
theorem dX8_sine_23 : decode cX8_sine 23 = .ok (.goto 5, 3) := by decide +kernel
theorem dX8_sine_26 : decode cX8_sine 26 = .ok (.ldc 94, 2) := by decide +kernel
theorem dX8_sine_28 : decode cX8_sine 28 = .ok (.ireturn, 1) := by decide +kernel
theorem dX8_offset_0 : decode cX8_offset 0 = .ok (.aload_n 0, 1) := by decide +kernel
theorem dX8_offset_1 : decode cX8_offset 1 = .ok (.iconst 0, 1) := by decide +kernel
theorem dX8_offset_2 : decode cX8_offset 2 = .ok (.putfield 35, 3) := by decide +kernel
theorem dX8_offset_5 : decode cX8_offset 5 = .ok (.aload_n 0, 1) := by decide +kernel
theorem dX8_offset_6 : decode cX8_offset 6 = .ok (.iload_n 1, 1) := by decide +kernel
theorem dX8_offset_7 : decode cX8_offset 7 = .ok (.invokevirtual 162, 3) := by decide +kernel
theorem dX8_offset_10 : decode cX8_offset 10 = .ok (.ifCond .eq 16, 3) := by decide +kernel
theorem dX8_offset_13 : decode cX8_offset 13 = .ok (.iload_n 2, 1) := by decide +kernel
theorem dX8_offset_14 : decode cX8_offset 14 = .ok (.sipush (-360), 3) := by decide +kernel
theorem dX8_offset_17 : decode cX8_offset 17 = .ok (.sipush 360, 3) := by decide +kernel
theorem dX8_offset_20 : decode cX8_offset 20 = .ok (.invokestatic 90, 3) := by decide +kernel
theorem dX8_offset_23 : decode cX8_offset 23 = .ok (.ifCond .ne 6, 3) := by decide +kernel
theorem dX8_offset_26 : decode cX8_offset 26 = .ok (.ldc 94, 2) := by decide +kernel
theorem dX8_offset_28 : decode cX8_offset 28 = .ok (.ireturn, 1) := by decide +kernel
theorem dX8_offset_29 : decode cX8_offset 29 = .ok (.aload_n 0, 1) := by decide +kernel
theorem dX8_offset_30 : decode cX8_offset 30 = .ok (.iload_n 1, 1) := by decide +kernel
theorem dX8_offset_31 : decode cX8_offset 31 = .ok (.invokevirtual 139, 3) := by decide +kernel
theorem dX8_offset_34 : decode cX8_offset 34 = .ok (.ifCond .ne 6, 3) := by decide +kernel
theorem dX8_offset_37 : decode cX8_offset 37 = .ok (.ldc 165, 2) := by decide +kernel
theorem dX8_offset_39 : decode cX8_offset 39 = .ok (.ireturn, 1) := by decide +kernel
theorem dX8_offset_40 : decode cX8_offset 40 = .ok (.aload_n 0, 1) := by decide +kernel
theorem dX8_offset_41 : decode cX8_offset 41 = .ok (.iload_n 2, 1) := by decide +kernel
theorem dX8_offset_42 : decode cX8_offset 42 = .ok (.invokevirtual 73, 3) := by decide +kernel
theorem dX8_offset_45 : decode cX8_offset 45 = .ok (.ifCond .eq 11, 3) := by decide +kernel
theorem dX8_offset_48 : decode cX8_offset 48 = .ok (.aload_n 0, 1) := by decide +kernel
theorem dX8_offset_49 : decode cX8_offset 49 = .ok (.iload_n 2, 1) := by decide +kernel
theorem dX8_offset_50 : decode cX8_offset 50 = .ok (.invokevirtual 77, 3) := by decide +kernel
theorem dX8_offset_53 : decode cX8_offset 53 = .ok (.goto 5, 3) := by decide +kernel
theorem dX8_offset_56 : decode cX8_offset 56 = .ok (.ldc 83, 2) := by decide +kernel
theorem dX8_offset_58 : decode cX8_offset 58 = .ok (.ireturn, 1) := by decide +kernel
theorem dX8_lines_0 : decode cX8_lines 0 = .ok (.aload_n 0, 1) := by decide +kernel
theorem dX8_lines_1 : decode cX8_lines 1 = .ok (.iconst 0, 1) := by decide +kernel
theorem dX8_lines_2 : decode cX8_lines 2 = .ok (.putfield 35, 3) := by decide +kernel
theorem dX8_lines_5 : decode cX8_lines 5 = .ok (.aload_n 0, 1) := by decide +kernel
theorem dX8_lines_6 : decode cX8_lines 6 = .ok (.iload_n 1, 1) := by decide +kernel
theorem dX8_lines_7 : decode cX8_lines 7 = .ok (.invokevirtual 162, 3) := by decide +kernel
theorem dX8_lines_10 : decode cX8_lines 10 = .ok (.ifCond .eq 12, 3) := by decide +kernel
theorem dX8_lines_13 : decode cX8_lines 13 = .ok (.iload_n 2, 1) := by decide +kernel
theorem dX8_lines_14 : decode cX8_lines 14 = .ok (.iconst 0, 1) := by decide +kernel
theorem dX8_lines_15 : decode cX8_lines 15 = .ok (.iconst 2, 1) := by decide +kernel
theorem dX8_lines_16 : decode cX8_lines 16 = .ok (.invokestatic 90, 3) := by decide +kernel
theorem dX8_lines_19 : decode cX8_lines 19 = .ok (.ifCond .ne 6, 3) := by decide +kernel
theorem dX8_lines_22 : decode cX8_lines 22 = .ok (.ldc 94, 2) := by decide +kernel
theorem dX8_lines_24 : decode cX8_lines 24 = .ok (.ireturn, 1) := by decide +kernel
theorem dX8_lines_25 : decode cX8_lines 25 = .ok (.aload_n 0, 1) := by decide +kernel
theorem dX8_lines_26 : decode cX8_lines 26 = .ok (.iload_n 1, 1) := by decide +kernel
theorem dX8_lines_27 : decode cX8_lines 27 = .ok (.invokevirtual 139, 3) := by decide +kernel
theorem dX8_lines_30 : decode cX8_lines 30 = .ok (.ifCond .ne 6, 3) := by decide +kernel
theorem dX8_lines_33 : decode cX8_lines 33 = .ok (.ldc 165, 2) := by decide +kernel
theorem dX8_lines_35 : decode cX8_lines 35 = .ok (.ireturn, 1) := by decide +kernel
theorem dX8_lines_36 : decode cX8_lines 36 = .ok (.ldc 83, 2) := by decide +kernel
theorem dX8_lines_38 : decode cX8_lines 38 = .ok (.istore_n 3, 1) := by decide +kernel
theorem dX8_lines_39 : decode cX8_lines 39 = .ok (.ldc 83, 2) := by decide +kernel
theorem dX8_lines_41 : decode cX8_lines 41 = .ok (.istore 4, 2) := by decide +kernel
theorem dX8_lines_43 : decode cX8_lines 43 = .ok (.sipush (-360), 3) := by decide +kernel
theorem dX8_lines_46 : decode cX8_lines 46 = .ok (.istore 5, 2) := by decide +kernel
theorem dX8_lines_48 : decode cX8_lines 48 = .ok (.iload 5, 2) := by decide +kernel
theorem dX8_lines_50 : decode cX8_lines 50 = .ok (.sipush 360, 3) := by decide +kernel
theorem dX8_lines_53 : decode cX8_lines 53 = .ok (.if_icmp .gt 49, 3) := by decide +kernel
theorem dX8_lines_56 : decode cX8_lines 56 = .ok (.aload_n 0, 1) := by decide +kernel
theorem dX8_lines_57 : decode cX8_lines 57 = .ok (.iload 5, 2) := by decide +kernel
theorem dX8_lines_59 : decode cX8_lines 59 = .ok (.invokevirtual 73, 3) := by decide +kernel
theorem dX8_lines_62 : decode cX8_lines 62 = .ok (.ifCond .eq 14, 3) := by decide +kernel
theorem dX8_lines_65 : decode cX8_lines 65 = .ok (.iload_n 3, 1) := by decide +kernel
theorem dX8_lines_66 : decode cX8_lines 66 = .ok (.ldc 83, 2) := by decide +kernel
theorem dX8_lines_68 : decode cX8_lines 68 = .ok (.if_icmp .ne 8, 3) := by decide +kernel
theorem dX8_lines_71 : decode cX8_lines 71 = .ok (.iload 5, 2) := by decide +kernel
theorem dX8_lines_73 : decode cX8_lines 73 = .ok (.goto 4, 3) := by decide +kernel
theorem dX8_lines_76 : decode cX8_lines 76 = .ok (.iload_n 3, 1) := by decide +kernel
theorem dX8_lines_77 : decode cX8_lines 77 = .ok (.istore_n 3, 1) := by decide +kernel
theorem dX8_lines_78 : decode cX8_lines 78 = .ok (.aload_n 0, 1) := by decide +kernel
theorem dX8_lines_79 : decode cX8_lines 79 = .ok (.iload 5, 2) := by decide +kernel
theorem dX8_lines_81 : decode cX8_lines 81 = .ok (.invokevirtual 73, 3) := by decide +kernel
theorem dX8_lines_84 : decode cX8_lines 84 = .ok (.ifCond .eq 8, 3) := by decide +kernel
theorem dX8_lines_87 : decode cX8_lines 87 = .ok (.iload 5, 2) := by decide +kernel
theorem dX8_lines_89 : decode cX8_lines 89 = .ok (.goto 5, 3) := by decide +kernel
theorem dX8_lines_92 : decode cX8_lines 92 = .ok (.iload 4, 2) := by decide +kernel
theorem dX8_lines_94 : decode cX8_lines 94 = .ok (.istore 4, 2) := by decide +kernel
theorem dX8_lines_96 : decode cX8_lines 96 = .ok (.iinc 5 60, 3) := by decide +kernel
theorem dX8_lines_99 : decode cX8_lines 99 = .ok (.goto (-51), 3) := by decide +kernel
theorem dX8_lines_102 : decode cX8_lines 102 = .ok (.iload_n 2, 1) := by decide +kernel
theorem dX8_lines_103 : decode cX8_lines 103 = .ok (.ifCond .ne 10, 3) := by decide +kernel
theorem dX8_lines_106 : decode cX8_lines 106 = .ok (.aload_n 0, 1) := by decide +kernel
theorem dX8_lines_107 : decode cX8_lines 107 = .ok (.invokevirtual 142, 3) := by decide +kernel
theorem dX8_lines_110 : decode cX8_lines 110 = .ok (.goto 14, 3) := by decide +kernel
theorem dX8_lines_113 : decode cX8_lines 113 = .ok (.iload_n 2, 1) := by decide +kernel
theorem dX8_lines_114 : decode cX8_lines 114 = .ok (.iconst 1, 1) := by decide +kernel
theorem dX8_lines_115 : decode cX8_lines 115 = .ok (.if_icmp .ne 7, 3) := by decide +kernel
theorem dX8_lines_118 : decode cX8_lines 118 = .ok (.iload_n 3, 1) := by decide +kernel
theorem dX8_lines_119 : decode cX8_lines 119 = .ok (.goto 5, 3) := by decide +kernel
theorem dX8_lines_122 : decode cX8_lines 122 = .ok (.iload 4, 2) := by decide +kernel
theorem dX8_lines_124 : decode cX8_lines 124 = .ok (.ireturn, 1) := by decide +kernel
theorem dX8_read_0 : decode cX8_read 0 = .ok (.aload_n 0, 1) := by decide +kernel
theorem dX8_read_1 : decode cX8_read 1 = .ok (.iconst 0, 1) := by decide +kernel
theorem dX8_read_2 : decode cX8_read 2 = .ok (.putfield 35, 3) := by decide +kernel
theorem dX8_read_5 : decode cX8_read 5 = .ok (.aload_n 0, 1) := by decide +kernel
theorem dX8_read_6 : decode cX8_read 6 = .ok (.iload_n 1, 1) := by decide +kernel
theorem dX8_read_7 : decode cX8_read 7 = .ok (.invokevirtual 162, 3) := by decide +kernel
theorem dX8_read_10 : decode cX8_read 10 = .ok (.ifCond .eq 34, 3) := by decide +kernel
theorem dX8_read_13 : decode cX8_read 13 = .ok (.iload_n 2, 1) := by decide +kernel
theorem dX8_read_14 : decode cX8_read 14 = .ok (.sipush (-3000), 3) := by decide +kernel
theorem dX8_read_17 : decode cX8_read 17 = .ok (.sipush 3000, 3) := by decide +kernel
theorem dX8_read_20 : decode cX8_read 20 = .ok (.invokestatic 90, 3) := by decide +kernel
theorem dX8_read_23 : decode cX8_read 23 = .ok (.ifCond .eq 21, 3) := by decide +kernel
theorem dX8_read_26 : decode cX8_read 26 = .ok (.iload_n 3, 1) := by decide +kernel
theorem dX8_read_27 : decode cX8_read 27 = .ok (.invokestatic 193, 3) := by decide +kernel
theorem dX8_read_30 : decode cX8_read 30 = .ok (.ifCond .eq 14, 3) := by decide +kernel
theorem dX8_read_33 : decode cX8_read 33 = .ok (.iload 4, 2) := by decide +kernel
theorem dX8_read_35 : decode cX8_read 35 = .ok (.iconst (-1), 1) := by decide +kernel
theorem dX8_read_36 : decode cX8_read 36 = .ok (.bipush 11, 2) := by decide +kernel
theorem dX8_read_38 : decode cX8_read 38 = .ok (.invokestatic 90, 3) := by decide +kernel
theorem dX8_read_41 : decode cX8_read 41 = .ok (.ifCond .ne 6, 3) := by decide +kernel
theorem dX8_read_44 : decode cX8_read 44 = .ok (.ldc 94, 2) := by decide +kernel
theorem dX8_read_46 : decode cX8_read 46 = .ok (.ireturn, 1) := by decide +kernel
theorem dX8_read_47 : decode cX8_read 47 = .ok (.aload_n 0, 1) := by decide +kernel
theorem dX8_read_48 : decode cX8_read 48 = .ok (.iload_n 1, 1) := by decide +kernel
theorem dX8_read_49 : decode cX8_read 49 = .ok (.invokevirtual 139, 3) := by decide +kernel
theorem dX8_read_52 : decode cX8_read 52 = .ok (.ifCond .ne 6, 3) := by decide +kernel
theorem dX8_read_55 : decode cX8_read 55 = .ok (.ldc 165, 2) := by decide +kernel
theorem dX8_read_57 : decode cX8_read 57 = .ok (.ireturn, 1) := by decide +kernel
theorem dX8_read_58 : decode cX8_read 58 = .ok (.iload_n 3, 1) := by decide +kernel
theorem dX8_read_59 : decode cX8_read 59 = .ok (.ifCond .ne 11, 3) := by decide +kernel
theorem dX8_read_62 : decode cX8_read 62 = .ok (.aload_n 0, 1) := by decide +kernel
theorem dX8_read_63 : decode cX8_read 63 = .ok (.iload_n 2, 1) := by decide +kernel
theorem dX8_read_64 : decode cX8_read 64 = .ok (.invokevirtual 87, 3) := by decide +kernel
theorem dX8_read_67 : decode cX8_read 67 = .ok (.goto 8, 3) := by decide +kernel
theorem dX8_read_70 : decode cX8_read 70 = .ok (.aload_n 0, 1) := by decide +kernel
theorem dX8_read_71 : decode cX8_read 71 = .ok (.iload_n 2, 1) := by decide +kernel
theorem dX8_read_72 : decode cX8_read 72 = .ok (.invokevirtual 259, 3) := by decide +kernel
theorem dX8_read_75 : decode cX8_read 75 = .ok (.istore 5, 2) := by decide +kernel
theorem dX8_read_77 : decode cX8_read 77 = .ok (.iload 5, 2) := by decide +kernel
theorem dX8_read_79 : decode cX8_read 79 = .ok (.ldc 83, 2) := by decide +kernel
theorem dX8_read_81 : decode cX8_read 81 = .ok (.if_icmp .eq 9, 3) := by decide +kernel
theorem dX8_read_84 : decode cX8_read 84 = .ok (.iload 4, 2) := by decide +kernel
theorem dX8_read_86 : decode cX8_read 86 = .ok (.iconst (-1), 1) := by decide +kernel
theorem dX8_read_87 : decode cX8_read 87 = .ok (.if_icmp .ne 8, 3) := by decide +kernel
theorem dX8_read_90 : decode cX8_read 90 = .ok (.iload 5, 2) := by decide +kernel
theorem dX8_read_92 : decode cX8_read 92 = .ok (.goto 23, 3) := by decide +kernel
theorem dX8_read_95 : decode cX8_read 95 = .ok (.iload 5, 2) := by decide +kernel
theorem dX8_read_97 : decode cX8_read 97 = .ok (.aload_n 0, 1) := by decide +kernel
theorem dX8_read_98 : decode cX8_read 98 = .ok (.getfield 7, 3) := by decide +kernel
theorem dX8_read_101 : decode cX8_read 101 = .ok (.bipush 8, 2) := by decide +kernel
theorem dX8_read_103 : decode cX8_read 103 = .ok (.iload 4, 2) := by decide +kernel
theorem dX8_read_105 : decode cX8_read 105 = .ok (.iadd, 1) := by decide +kernel
theorem dX8_read_106 : decode cX8_read 106 = .ok (.iaload, 1) := by decide +kernel
theorem dX8_read_107 : decode cX8_read 107 = .ok (.iadd, 1) := by decide +kernel
theorem dX8_read_108 : decode cX8_read 108 = .ok (.aload_n 0, 1) := by decide +kernel
theorem dX8_read_109 : decode cX8_read 109 = .ok (.iload_n 1, 1) := by decide +kernel
theorem dX8_read_110 : decode cX8_read 110 = .ok (.iconst 3, 1) := by decide +kernel
theorem dX8_read_111 : decode cX8_read 111 = .ok (.invokevirtual 127, 3) := by decide +kernel
theorem dX8_read_114 : decode cX8_read 114 = .ok (.iadd, 1) := by decide +kernel
theorem dX8_read_115 : decode cX8_read 115 = .ok (.ireturn, 1) := by decide +kernel
theorem dX8_apart_0 : decode cX8_apart 0 = .ok (.aload_n 0, 1) := by decide +kernel
theorem dX8_apart_1 : decode cX8_apart 1 = .ok (.iconst 0, 1) := by decide +kernel
theorem dX8_apart_2 : decode cX8_apart 2 = .ok (.putfield 35, 3) := by decide +kernel
theorem dX8_apart_5 : decode cX8_apart 5 = .ok (.aload_n 0, 1) := by decide +kernel
theorem dX8_apart_6 : decode cX8_apart 6 = .ok (.iload_n 1, 1) := by decide +kernel
theorem dX8_apart_7 : decode cX8_apart 7 = .ok (.invokevirtual 162, 3) := by decide +kernel
theorem dX8_apart_10 : decode cX8_apart 10 = .ok (.ifCond .eq 10, 3) := by decide +kernel
theorem dX8_apart_13 : decode cX8_apart 13 = .ok (.iload_n 2, 1) := by decide +kernel
theorem dX8_apart_14 : decode cX8_apart 14 = .ok (.invokestatic 193, 3) := by decide +kernel
theorem dX8_apart_17 : decode cX8_apart 17 = .ok (.ifCond .ne 6, 3) := by decide +kernel
theorem dX8_apart_20 : decode cX8_apart 20 = .ok (.ldc 94, 2) := by decide +kernel
theorem dX8_apart_22 : decode cX8_apart 22 = .ok (.ireturn, 1) := by decide +kernel
theorem dX8_apart_23 : decode cX8_apart 23 = .ok (.aload_n 0, 1) := by decide +kernel
theorem dX8_apart_24 : decode cX8_apart 24 = .ok (.iload_n 1, 1) := by decide +kernel
theorem dX8_apart_25 : decode cX8_apart 25 = .ok (.invokevirtual 139, 3) := by decide +kernel
theorem dX8_apart_28 : decode cX8_apart 28 = .ok (.ifCond .eq 11, 3) := by decide +kernel
theorem dX8_apart_31 : decode cX8_apart 31 = .ok (.aload_n 0, 1) := by decide +kernel
theorem dX8_apart_32 : decode cX8_apart 32 = .ok (.iload_n 2, 1) := by decide +kernel
theorem dX8_apart_33 : decode cX8_apart 33 = .ok (.invokevirtual 145, 3) := by decide +kernel
theorem dX8_apart_36 : decode cX8_apart 36 = .ok (.goto 5, 3) := by decide +kernel
theorem dX8_apart_39 : decode cX8_apart 39 = .ok (.ldc 165, 2) := by decide +kernel
theorem dX8_apart_41 : decode cX8_apart 41 = .ok (.ireturn, 1) := by decide +kernel
theorem dX8_reason_0 : decode cX8_reason 0 = .ok (.aload_n 0, 1) := by decide +kernel
theorem dX8_reason_1 : decode cX8_reason 1 = .ok (.iconst 0, 1) := by decide +kernel
theorem dX8_reason_2 : decode cX8_reason 2 = .ok (.putfield 35, 3) := by decide +kernel
theorem dX8_reason_5 : decode cX8_reason 5 = .ok (.aload_n 0, 1) := by decide +kernel
theorem dX8_reason_6 : decode cX8_reason 6 = .ok (.iload_n 1, 1) := by decide +kernel
theorem dX8_reason_7 : decode cX8_reason 7 = .ok (.invokevirtual 162, 3) := by decide +kernel
theorem dX8_reason_10 : decode cX8_reason 10 = .ok (.ifCond .eq 11, 3) := by decide +kernel
theorem dX8_reason_13 : decode cX8_reason 13 = .ok (.aload_n 0, 1) := by decide +kernel
theorem dX8_reason_14 : decode cX8_reason 14 = .ok (.iload_n 1, 1) := by decide +kernel
theorem dX8_reason_15 : decode cX8_reason 15 = .ok (.invokevirtual 166, 3) := by decide +kernel
theorem dX8_reason_18 : decode cX8_reason 18 = .ok (.goto 5, 3) := by decide +kernel
theorem dX8_reason_21 : decode cX8_reason 21 = .ok (.ldc 94, 2) := by decide +kernel
theorem dX8_reason_23 : decode cX8_reason 23 = .ok (.ireturn, 1) := by decide +kernel
theorem dX8_bestLatitude_0 : decode cX8_bestLatitude 0 = .ok (.aload_n 0, 1) := by decide +kernel
theorem dX8_bestLatitude_1 : decode cX8_bestLatitude 1 = .ok (.iconst 0, 1) := by decide +kernel
theorem dX8_bestLatitude_2 : decode cX8_bestLatitude 2 = .ok (.putfield 35, 3) := by decide +kernel
theorem dX8_bestLatitude_5 : decode cX8_bestLatitude 5 = .ok (.iload_n 1, 1) := by decide +kernel
theorem dX8_bestLatitude_6 : decode cX8_bestLatitude 6 = .ok (.bipush 100, 2) := by decide +kernel
theorem dX8_bestLatitude_8 : decode cX8_bestLatitude 8 = .ok (.if_icmp .eq 17, 3) := by decide +kernel
theorem dX8_bestLatitude_11 : decode cX8_bestLatitude 11 = .ok (.iload_n 1, 1) := by decide +kernel
theorem dX8_bestLatitude_12 : decode cX8_bestLatitude 12 = .ok (.bipush (-60), 2) := by decide +kernel
theorem dX8_bestLatitude_14 : decode cX8_bestLatitude 14 = .ok (.bipush 60, 2) := by decide +kernel
theorem dX8_bestLatitude_16 : decode cX8_bestLatitude 16 = .ok (.invokestatic 90, 3) := by decide +kernel
theorem dX8_bestLatitude_19 : decode cX8_bestLatitude 19 = .ok (.ifCond .ne 6, 3) := by decide +kernel
theorem dX8_bestLatitude_22 : decode cX8_bestLatitude 22 = .ok (.ldc 94, 2) := by decide +kernel
theorem dX8_bestLatitude_24 : decode cX8_bestLatitude 24 = .ok (.ireturn, 1) := by decide +kernel
theorem dX8_bestLatitude_25 : decode cX8_bestLatitude 25 = .ok (.ldc 83, 2) := by decide +kernel
theorem dX8_bestLatitude_27 : decode cX8_bestLatitude 27 = .ok (.istore_n 2, 1) := by decide +kernel
theorem dX8_bestLatitude_28 : decode cX8_bestLatitude 28 = .ok (.iconst 0, 1) := by decide +kernel
theorem dX8_bestLatitude_29 : decode cX8_bestLatitude 29 = .ok (.istore_n 3, 1) := by decide +kernel
theorem dX8_bestLatitude_30 : decode cX8_bestLatitude 30 = .ok (.bipush 10, 2) := by decide +kernel
theorem dX8_bestLatitude_32 : decode cX8_bestLatitude 32 = .ok (.istore 4, 2) := by decide +kernel
theorem dX8_bestLatitude_34 : decode cX8_bestLatitude 34 = .ok (.iload 4, 2) := by decide +kernel
theorem dX8_bestLatitude_36 : decode cX8_bestLatitude 36 = .ok (.bipush 70, 2) := by decide +kernel
theorem dX8_bestLatitude_38 : decode cX8_bestLatitude 38 = .ok (.if_icmp .gt 76, 3) := by decide +kernel
theorem dX8_bestLatitude_41 : decode cX8_bestLatitude 41 = .ok (.aload_n 0, 1) := by decide +kernel
theorem dX8_bestLatitude_42 : decode cX8_bestLatitude 42 = .ok (.iload 4, 2) := by decide +kernel
theorem dX8_bestLatitude_44 : decode cX8_bestLatitude 44 = .ok (.iload_n 1, 1) := by decide +kernel
theorem dX8_bestLatitude_45 : decode cX8_bestLatitude 45 = .ok (.bipush 100, 2) := by decide +kernel
theorem dX8_bestLatitude_47 : decode cX8_bestLatitude 47 = .ok (.if_icmp .eq 7, 3) := by decide +kernel
theorem dX8_bestLatitude_50 : decode cX8_bestLatitude 50 = .ok (.iconst 1, 1) := by decide +kernel
theorem dX8_bestLatitude_51 : decode cX8_bestLatitude 51 = .ok (.goto 4, 3) := by decide +kernel
theorem dX8_bestLatitude_54 : decode cX8_bestLatitude 54 = .ok (.iconst 0, 1) := by decide +kernel
theorem dX8_bestLatitude_55 : decode cX8_bestLatitude 55 = .ok (.iload_n 1, 1) := by decide +kernel
theorem dX8_bestLatitude_56 : decode cX8_bestLatitude 56 = .ok (.bipush 100, 2) := by decide +kernel
theorem dX8_bestLatitude_58 : decode cX8_bestLatitude 58 = .ok (.if_icmp .ne 7, 3) := by decide +kernel
theorem dX8_bestLatitude_61 : decode cX8_bestLatitude 61 = .ok (.iconst 0, 1) := by decide +kernel
theorem dX8_bestLatitude_62 : decode cX8_bestLatitude 62 = .ok (.goto 4, 3) := by decide +kernel
theorem dX8_bestLatitude_65 : decode cX8_bestLatitude 65 = .ok (.iload_n 1, 1) := by decide +kernel
theorem dX8_bestLatitude_66 : decode cX8_bestLatitude 66 = .ok (.invokevirtual 133, 3) := by decide +kernel
theorem dX8_bestLatitude_69 : decode cX8_bestLatitude 69 = .ok (.aload_n 0, 1) := by decide +kernel
theorem dX8_bestLatitude_70 : decode cX8_bestLatitude 70 = .ok (.iconst 0, 1) := by decide +kernel
theorem dX8_bestLatitude_71 : decode cX8_bestLatitude 71 = .ok (.invokevirtual 145, 3) := by decide +kernel
theorem dX8_bestLatitude_74 : decode cX8_bestLatitude 74 = .ok (.istore 5, 2) := by decide +kernel
theorem dX8_bestLatitude_76 : decode cX8_bestLatitude 76 = .ok (.iload_n 2, 1) := by decide +kernel
theorem dX8_bestLatitude_77 : decode cX8_bestLatitude 77 = .ok (.ldc 83, 2) := by decide +kernel
theorem dX8_bestLatitude_79 : decode cX8_bestLatitude 79 = .ok (.if_icmp .eq 9, 3) := by decide +kernel
theorem dX8_bestLatitude_82 : decode cX8_bestLatitude 82 = .ok (.iload 5, 2) := by decide +kernel
theorem dX8_bestLatitude_84 : decode cX8_bestLatitude 84 = .ok (.iload_n 3, 1) := by decide +kernel
theorem dX8_bestLatitude_85 : decode cX8_bestLatitude 85 = .ok (.if_icmp .ge 8, 3) := by decide +kernel
theorem dX8_bestLatitude_88 : decode cX8_bestLatitude 88 = .ok (.iload 4, 2) := by decide +kernel
theorem dX8_bestLatitude_90 : decode cX8_bestLatitude 90 = .ok (.goto 4, 3) := by decide +kernel
theorem dX8_bestLatitude_93 : decode cX8_bestLatitude 93 = .ok (.iload_n 2, 1) := by decide +kernel
theorem dX8_bestLatitude_94 : decode cX8_bestLatitude 94 = .ok (.istore_n 2, 1) := by decide +kernel
theorem dX8_bestLatitude_95 : decode cX8_bestLatitude 95 = .ok (.iload_n 2, 1) := by decide +kernel
theorem dX8_bestLatitude_96 : decode cX8_bestLatitude 96 = .ok (.iload 4, 2) := by decide +kernel
theorem dX8_bestLatitude_98 : decode cX8_bestLatitude 98 = .ok (.if_icmp .ne 8, 3) := by decide +kernel
theorem dX8_bestLatitude_101 : decode cX8_bestLatitude 101 = .ok (.iload 5, 2) := by decide +kernel
theorem dX8_bestLatitude_103 : decode cX8_bestLatitude 103 = .ok (.goto 4, 3) := by decide +kernel
theorem dX8_bestLatitude_106 : decode cX8_bestLatitude 106 = .ok (.iload_n 3, 1) := by decide +kernel
theorem dX8_bestLatitude_107 : decode cX8_bestLatitude 107 = .ok (.istore_n 3, 1) := by decide +kernel
theorem dX8_bestLatitude_108 : decode cX8_bestLatitude 108 = .ok (.iinc 4 1, 3) := by decide +kernel
theorem dX8_bestLatitude_111 : decode cX8_bestLatitude 111 = .ok (.goto (-77), 3) := by decide +kernel
theorem dX8_bestLatitude_114 : decode cX8_bestLatitude 114 = .ok (.iload_n 2, 1) := by decide +kernel
theorem dX8_bestLatitude_115 : decode cX8_bestLatitude 115 = .ok (.ireturn, 1) := by decide +kernel
theorem dX8_melts_0 : decode cX8_melts 0 = .ok (.aload_n 0, 1) := by decide +kernel
theorem dX8_melts_1 : decode cX8_melts 1 = .ok (.iconst 0, 1) := by decide +kernel
theorem dX8_melts_2 : decode cX8_melts 2 = .ok (.putfield 35, 3) := by decide +kernel
theorem dX8_melts_5 : decode cX8_melts 5 = .ok (.aload_n 0, 1) := by decide +kernel
theorem dX8_melts_6 : decode cX8_melts 6 = .ok (.invokevirtual 175, 3) := by decide +kernel
theorem dX8_melts_9 : decode cX8_melts 9 = .ok (.iconst 0, 1) := by decide +kernel
theorem dX8_melts_10 : decode cX8_melts 10 = .ok (.istore_n 1, 1) := by decide +kernel
theorem dX8_melts_11 : decode cX8_melts 11 = .ok (.aload_n 0, 1) := by decide +kernel
theorem dX8_melts_12 : decode cX8_melts 12 = .ok (.invokevirtual 178, 3) := by decide +kernel
theorem dX8_melts_15 : decode cX8_melts 15 = .ok (.ifCond .le 9, 3) := by decide +kernel
theorem dX8_melts_18 : decode cX8_melts 18 = .ok (.iinc 1 1, 3) := by decide +kernel
theorem dX8_melts_21 : decode cX8_melts 21 = .ok (.goto (-10), 3) := by decide +kernel
theorem dX8_melts_24 : decode cX8_melts 24 = .ok (.iconst 0, 1) := by decide +kernel
theorem dX8_melts_25 : decode cX8_melts 25 = .ok (.istore_n 2, 1) := by decide +kernel
theorem dX8_melts_26 : decode cX8_melts 26 = .ok (.iconst 0, 1) := by decide +kernel
theorem dX8_melts_27 : decode cX8_melts 27 = .ok (.istore_n 3, 1) := by decide +kernel
theorem dX8_melts_28 : decode cX8_melts 28 = .ok (.iload_n 3, 1) := by decide +kernel
theorem dX8_melts_29 : decode cX8_melts 29 = .ok (.aload_n 0, 1) := by decide +kernel
theorem dX8_melts_30 : decode cX8_melts 30 = .ok (.getfield 7, 3) := by decide +kernel
theorem dX8_melts_33 : decode cX8_melts 33 = .ok (.iconst 1, 1) := by decide +kernel
theorem dX8_melts_34 : decode cX8_melts 34 = .ok (.iaload, 1) := by decide +kernel
theorem dX8_melts_35 : decode cX8_melts 35 = .ok (.if_icmp .ge 29, 3) := by decide +kernel
theorem dX8_melts_38 : decode cX8_melts 38 = .ok (.iload_n 2, 1) := by decide +kernel
theorem dX8_melts_39 : decode cX8_melts 39 = .ok (.ifCond .ne 13, 3) := by decide +kernel
theorem dX8_melts_42 : decode cX8_melts 42 = .ok (.aload_n 0, 1) := by decide +kernel
theorem dX8_melts_43 : decode cX8_melts 43 = .ok (.getfield 32, 3) := by decide +kernel
theorem dX8_melts_46 : decode cX8_melts 46 = .ok (.iload_n 3, 1) := by decide +kernel
theorem dX8_melts_47 : decode cX8_melts 47 = .ok (.iaload, 1) := by decide +kernel
theorem dX8_melts_48 : decode cX8_melts 48 = .ok (.iconst 1, 1) := by decide +kernel
theorem dX8_melts_49 : decode cX8_melts 49 = .ok (.if_icmp .ne 7, 3) := by decide +kernel
theorem dX8_melts_52 : decode cX8_melts 52 = .ok (.iconst 1, 1) := by decide +kernel
theorem dX8_melts_53 : decode cX8_melts 53 = .ok (.goto 4, 3) := by decide +kernel
theorem dX8_melts_56 : decode cX8_melts 56 = .ok (.iconst 0, 1) := by decide +kernel
theorem dX8_melts_57 : decode cX8_melts 57 = .ok (.istore_n 2, 1) := by decide +kernel
theorem dX8_melts_58 : decode cX8_melts 58 = .ok (.iinc 3 1, 3) := by decide +kernel
theorem dX8_melts_61 : decode cX8_melts 61 = .ok (.goto (-33), 3) := by decide +kernel
theorem dX8_melts_64 : decode cX8_melts 64 = .ok (.iload_n 2, 1) := by decide +kernel
theorem dX8_melts_65 : decode cX8_melts 65 = .ok (.ifCond .eq 8, 3) := by decide +kernel
theorem dX8_melts_68 : decode cX8_melts 68 = .ok (.ldc 83, 2) := by decide +kernel
theorem dX8_melts_70 : decode cX8_melts 70 = .ok (.goto 4, 3) := by decide +kernel
theorem dX8_melts_73 : decode cX8_melts 73 = .ok (.iload_n 1, 1) := by decide +kernel
theorem dX8_melts_74 : decode cX8_melts 74 = .ok (.ireturn, 1) := by decide +kernel
end
section
theorem dL_law_0 : decode cL_law 0 = .ok (.new 7, 3) := by decide +kernel
theorem dL_law_3 : decode cL_law 3 = .ok (.dup, 1) := by decide +kernel
theorem dL_law_4 : decode cL_law 4 = .ok (.invokespecial 9, 3) := by decide +kernel
theorem dL_law_7 : decode cL_law 7 = .ok (.astore_n 1, 1) := by decide +kernel
theorem dL_law_8 : decode cL_law 8 = .ok (.new 10, 3) := by decide +kernel
theorem dL_law_11 : decode cL_law 11 = .ok (.dup, 1) := by decide +kernel
theorem dL_law_12 : decode cL_law 12 = .ok (.invokespecial 12, 3) := by decide +kernel
theorem dL_law_15 : decode cL_law 15 = .ok (.astore_n 2, 1) := by decide +kernel
theorem dL_law_16 : decode cL_law 16 = .ok (.iconst 0, 1) := by decide +kernel
theorem dL_law_17 : decode cL_law 17 = .ok (.istore_n 3, 1) := by decide +kernel
theorem dL_law_18 : decode cL_law 18 = .ok (.iload_n 3, 1) := by decide +kernel
theorem dL_law_19 : decode cL_law 19 = .ok (.aload_n 0, 1) := by decide +kernel
theorem dL_law_20 : decode cL_law 20 = .ok (.arraylength, 1) := by decide +kernel
theorem dL_law_21 : decode cL_law 21 = .ok (.iconst 5, 1) := by decide +kernel
theorem dL_law_22 : decode cL_law 22 = .ok (.isub, 1) := by decide +kernel
theorem dL_law_23 : decode cL_law 23 = .ok (.if_icmp .gt 840, 3) := by decide +kernel
theorem dL_law_26 : decode cL_law 26 = .ok (.aload_n 0, 1) := by decide +kernel
theorem dL_law_27 : decode cL_law 27 = .ok (.iload_n 3, 1) := by decide +kernel
theorem dL_law_28 : decode cL_law 28 = .ok (.iaload, 1) := by decide +kernel
theorem dL_law_29 : decode cL_law 29 = .ok (.bipush 31, 2) := by decide +kernel
theorem dL_law_31 : decode cL_law 31 = .ok (.iand, 1) := by decide +kernel
theorem dL_law_32 : decode cL_law 32 = .ok (.tableswitch 825 0 26 #[124, 157, 190, 203, 236, 289, 312, 335, 348, 371, 394, 417, 430, 453, 466, 479, 502, 535, 568, 591, 614, 647, 680, 733, 766, 789, 812], 124) := by decide +kernel
theorem dL_law_156 : decode cL_law 156 = .ok (.aload_n 1, 1) := by decide +kernel
theorem dL_law_157 : decode cL_law 157 = .ok (.aload_n 0, 1) := by decide +kernel
theorem dL_law_158 : decode cL_law 158 = .ok (.iload_n 3, 1) := by decide +kernel
theorem dL_law_159 : decode cL_law 159 = .ok (.iconst 1, 1) := by decide +kernel
theorem dL_law_160 : decode cL_law 160 = .ok (.iadd, 1) := by decide +kernel
theorem dL_law_161 : decode cL_law 161 = .ok (.iaload, 1) := by decide +kernel
theorem dL_law_162 : decode cL_law 162 = .ok (.aload_n 0, 1) := by decide +kernel
theorem dL_law_163 : decode cL_law 163 = .ok (.iload_n 3, 1) := by decide +kernel
theorem dL_law_164 : decode cL_law 164 = .ok (.iconst 2, 1) := by decide +kernel
theorem dL_law_165 : decode cL_law 165 = .ok (.iadd, 1) := by decide +kernel
theorem dL_law_166 : decode cL_law 166 = .ok (.iaload, 1) := by decide +kernel
theorem dL_law_167 : decode cL_law 167 = .ok (.invokevirtual 13, 3) := by decide +kernel
theorem dL_law_170 : decode cL_law 170 = .ok (.aload_n 2, 1) := by decide +kernel
theorem dL_law_171 : decode cL_law 171 = .ok (.aload_n 0, 1) := by decide +kernel
theorem dL_law_172 : decode cL_law 172 = .ok (.iload_n 3, 1) := by decide +kernel
theorem dL_law_173 : decode cL_law 173 = .ok (.iconst 1, 1) := by decide +kernel
theorem dL_law_174 : decode cL_law 174 = .ok (.iadd, 1) := by decide +kernel
theorem dL_law_175 : decode cL_law 175 = .ok (.iaload, 1) := by decide +kernel
theorem dL_law_176 : decode cL_law 176 = .ok (.aload_n 0, 1) := by decide +kernel
theorem dL_law_177 : decode cL_law 177 = .ok (.iload_n 3, 1) := by decide +kernel
theorem dL_law_178 : decode cL_law 178 = .ok (.iconst 2, 1) := by decide +kernel
theorem dL_law_179 : decode cL_law 179 = .ok (.iadd, 1) := by decide +kernel
theorem dL_law_180 : decode cL_law 180 = .ok (.iaload, 1) := by decide +kernel
theorem dL_law_181 : decode cL_law 181 = .ok (.invokevirtual 17, 3) := by decide +kernel
theorem dL_law_184 : decode cL_law 184 = .ok (.if_icmp .eq 673, 3) := by decide +kernel
theorem dL_law_187 : decode cL_law 187 = .ok (.iconst 0, 1) := by decide +kernel
theorem dL_law_188 : decode cL_law 188 = .ok (.ireturn, 1) := by decide +kernel
theorem dL_law_189 : decode cL_law 189 = .ok (.aload_n 1, 1) := by decide +kernel
theorem dL_law_190 : decode cL_law 190 = .ok (.aload_n 0, 1) := by decide +kernel
theorem dL_law_191 : decode cL_law 191 = .ok (.iload_n 3, 1) := by decide +kernel
theorem dL_law_192 : decode cL_law 192 = .ok (.iconst 1, 1) := by decide +kernel
theorem dL_law_193 : decode cL_law 193 = .ok (.iadd, 1) := by decide +kernel
theorem dL_law_194 : decode cL_law 194 = .ok (.iaload, 1) := by decide +kernel
theorem dL_law_195 : decode cL_law 195 = .ok (.aload_n 0, 1) := by decide +kernel
theorem dL_law_196 : decode cL_law 196 = .ok (.iload_n 3, 1) := by decide +kernel
theorem dL_law_197 : decode cL_law 197 = .ok (.iconst 2, 1) := by decide +kernel
theorem dL_law_198 : decode cL_law 198 = .ok (.iadd, 1) := by decide +kernel
theorem dL_law_199 : decode cL_law 199 = .ok (.iaload, 1) := by decide +kernel
theorem dL_law_200 : decode cL_law 200 = .ok (.invokevirtual 18, 3) := by decide +kernel
theorem dL_law_203 : decode cL_law 203 = .ok (.aload_n 2, 1) := by decide +kernel
theorem dL_law_204 : decode cL_law 204 = .ok (.aload_n 0, 1) := by decide +kernel
theorem dL_law_205 : decode cL_law 205 = .ok (.iload_n 3, 1) := by decide +kernel
theorem dL_law_206 : decode cL_law 206 = .ok (.iconst 1, 1) := by decide +kernel
theorem dL_law_207 : decode cL_law 207 = .ok (.iadd, 1) := by decide +kernel
theorem dL_law_208 : decode cL_law 208 = .ok (.iaload, 1) := by decide +kernel
theorem dL_law_209 : decode cL_law 209 = .ok (.aload_n 0, 1) := by decide +kernel
theorem dL_law_210 : decode cL_law 210 = .ok (.iload_n 3, 1) := by decide +kernel
theorem dL_law_211 : decode cL_law 211 = .ok (.iconst 2, 1) := by decide +kernel
theorem dL_law_212 : decode cL_law 212 = .ok (.iadd, 1) := by decide +kernel
theorem dL_law_213 : decode cL_law 213 = .ok (.iaload, 1) := by decide +kernel
theorem dL_law_214 : decode cL_law 214 = .ok (.invokevirtual 21, 3) := by decide +kernel
theorem dL_law_217 : decode cL_law 217 = .ok (.if_icmp .eq 640, 3) := by decide +kernel
theorem dL_law_220 : decode cL_law 220 = .ok (.iconst 0, 1) := by decide +kernel
theorem dL_law_221 : decode cL_law 221 = .ok (.ireturn, 1) := by decide +kernel
theorem dL_law_222 : decode cL_law 222 = .ok (.aload_n 1, 1) := by decide +kernel
theorem dL_law_223 : decode cL_law 223 = .ok (.invokevirtual 22, 3) := by decide +kernel
theorem dL_law_226 : decode cL_law 226 = .ok (.aload_n 2, 1) := by decide +kernel
theorem dL_law_227 : decode cL_law 227 = .ok (.invokevirtual 26, 3) := by decide +kernel
theorem dL_law_230 : decode cL_law 230 = .ok (.if_icmp .eq 627, 3) := by decide +kernel
theorem dL_law_233 : decode cL_law 233 = .ok (.iconst 0, 1) := by decide +kernel
theorem dL_law_234 : decode cL_law 234 = .ok (.ireturn, 1) := by decide +kernel
theorem dL_law_235 : decode cL_law 235 = .ok (.aload_n 1, 1) := by decide +kernel
theorem dL_law_236 : decode cL_law 236 = .ok (.aload_n 0, 1) := by decide +kernel
theorem dL_law_237 : decode cL_law 237 = .ok (.iload_n 3, 1) := by decide +kernel
theorem dL_law_238 : decode cL_law 238 = .ok (.iconst 1, 1) := by decide +kernel
theorem dL_law_239 : decode cL_law 239 = .ok (.iadd, 1) := by decide +kernel
theorem dL_law_240 : decode cL_law 240 = .ok (.iaload, 1) := by decide +kernel
theorem dL_law_241 : decode cL_law 241 = .ok (.aload_n 0, 1) := by decide +kernel
theorem dL_law_242 : decode cL_law 242 = .ok (.iload_n 3, 1) := by decide +kernel
theorem dL_law_243 : decode cL_law 243 = .ok (.iconst 2, 1) := by decide +kernel
theorem dL_law_244 : decode cL_law 244 = .ok (.iadd, 1) := by decide +kernel
theorem dL_law_245 : decode cL_law 245 = .ok (.iaload, 1) := by decide +kernel
theorem dL_law_246 : decode cL_law 246 = .ok (.invokevirtual 27, 3) := by decide +kernel
theorem dL_law_249 : decode cL_law 249 = .ok (.aload_n 2, 1) := by decide +kernel
theorem dL_law_250 : decode cL_law 250 = .ok (.aload_n 0, 1) := by decide +kernel
theorem dL_law_251 : decode cL_law 251 = .ok (.iload_n 3, 1) := by decide +kernel
theorem dL_law_252 : decode cL_law 252 = .ok (.iconst 1, 1) := by decide +kernel
theorem dL_law_253 : decode cL_law 253 = .ok (.iadd, 1) := by decide +kernel
theorem dL_law_254 : decode cL_law 254 = .ok (.iaload, 1) := by decide +kernel
theorem dL_law_255 : decode cL_law 255 = .ok (.aload_n 0, 1) := by decide +kernel
theorem dL_law_256 : decode cL_law 256 = .ok (.iload_n 3, 1) := by decide +kernel
theorem dL_law_257 : decode cL_law 257 = .ok (.iconst 2, 1) := by decide +kernel
theorem dL_law_258 : decode cL_law 258 = .ok (.iadd, 1) := by decide +kernel
theorem dL_law_259 : decode cL_law 259 = .ok (.iaload, 1) := by decide +kernel
theorem dL_law_260 : decode cL_law 260 = .ok (.invokevirtual 30, 3) := by decide +kernel
theorem dL_law_263 : decode cL_law 263 = .ok (.if_icmp .eq 594, 3) := by decide +kernel
theorem dL_law_266 : decode cL_law 266 = .ok (.iconst 0, 1) := by decide +kernel
theorem dL_law_267 : decode cL_law 267 = .ok (.ireturn, 1) := by decide +kernel
theorem dL_law_268 : decode cL_law 268 = .ok (.aload_n 1, 1) := by decide +kernel
theorem dL_law_269 : decode cL_law 269 = .ok (.aload_n 0, 1) := by decide +kernel
theorem dL_law_270 : decode cL_law 270 = .ok (.iload_n 3, 1) := by decide +kernel
theorem dL_law_271 : decode cL_law 271 = .ok (.iconst 1, 1) := by decide +kernel
theorem dL_law_272 : decode cL_law 272 = .ok (.iadd, 1) := by decide +kernel
theorem dL_law_273 : decode cL_law 273 = .ok (.iaload, 1) := by decide +kernel
theorem dL_law_274 : decode cL_law 274 = .ok (.aload_n 0, 1) := by decide +kernel
theorem dL_law_275 : decode cL_law 275 = .ok (.iload_n 3, 1) := by decide +kernel
theorem dL_law_276 : decode cL_law 276 = .ok (.iconst 2, 1) := by decide +kernel
theorem dL_law_277 : decode cL_law 277 = .ok (.iadd, 1) := by decide +kernel
theorem dL_law_278 : decode cL_law 278 = .ok (.iaload, 1) := by decide +kernel
theorem dL_law_279 : decode cL_law 279 = .ok (.aload_n 0, 1) := by decide +kernel
theorem dL_law_280 : decode cL_law 280 = .ok (.iload_n 3, 1) := by decide +kernel
theorem dL_law_281 : decode cL_law 281 = .ok (.iconst 3, 1) := by decide +kernel
theorem dL_law_282 : decode cL_law 282 = .ok (.iadd, 1) := by decide +kernel
theorem dL_law_283 : decode cL_law 283 = .ok (.iaload, 1) := by decide +kernel
theorem dL_law_284 : decode cL_law 284 = .ok (.aload_n 0, 1) := by decide +kernel
theorem dL_law_285 : decode cL_law 285 = .ok (.iload_n 3, 1) := by decide +kernel
theorem dL_law_286 : decode cL_law 286 = .ok (.iconst 4, 1) := by decide +kernel
theorem dL_law_287 : decode cL_law 287 = .ok (.iadd, 1) := by decide +kernel
theorem dL_law_288 : decode cL_law 288 = .ok (.iaload, 1) := by decide +kernel
theorem dL_law_289 : decode cL_law 289 = .ok (.invokevirtual 31, 3) := by decide +kernel
theorem dL_law_292 : decode cL_law 292 = .ok (.aload_n 2, 1) := by decide +kernel
theorem dL_law_293 : decode cL_law 293 = .ok (.aload_n 0, 1) := by decide +kernel
theorem dL_law_294 : decode cL_law 294 = .ok (.iload_n 3, 1) := by decide +kernel
theorem dL_law_295 : decode cL_law 295 = .ok (.iconst 1, 1) := by decide +kernel
theorem dL_law_296 : decode cL_law 296 = .ok (.iadd, 1) := by decide +kernel
theorem dL_law_297 : decode cL_law 297 = .ok (.iaload, 1) := by decide +kernel
theorem dL_law_298 : decode cL_law 298 = .ok (.aload_n 0, 1) := by decide +kernel
theorem dL_law_299 : decode cL_law 299 = .ok (.iload_n 3, 1) := by decide +kernel
theorem dL_law_300 : decode cL_law 300 = .ok (.iconst 2, 1) := by decide +kernel
theorem dL_law_301 : decode cL_law 301 = .ok (.iadd, 1) := by decide +kernel
theorem dL_law_302 : decode cL_law 302 = .ok (.iaload, 1) := by decide +kernel
theorem dL_law_303 : decode cL_law 303 = .ok (.aload_n 0, 1) := by decide +kernel
theorem dL_law_304 : decode cL_law 304 = .ok (.iload_n 3, 1) := by decide +kernel
theorem dL_law_305 : decode cL_law 305 = .ok (.iconst 3, 1) := by decide +kernel
theorem dL_law_306 : decode cL_law 306 = .ok (.iadd, 1) := by decide +kernel
theorem dL_law_307 : decode cL_law 307 = .ok (.iaload, 1) := by decide +kernel
theorem dL_law_308 : decode cL_law 308 = .ok (.aload_n 0, 1) := by decide +kernel
theorem dL_law_309 : decode cL_law 309 = .ok (.iload_n 3, 1) := by decide +kernel
theorem dL_law_310 : decode cL_law 310 = .ok (.iconst 4, 1) := by decide +kernel
theorem dL_law_311 : decode cL_law 311 = .ok (.iadd, 1) := by decide +kernel
theorem dL_law_312 : decode cL_law 312 = .ok (.iaload, 1) := by decide +kernel
theorem dL_law_313 : decode cL_law 313 = .ok (.invokevirtual 35, 3) := by decide +kernel
theorem dL_law_316 : decode cL_law 316 = .ok (.if_icmp .eq 541, 3) := by decide +kernel
theorem dL_law_319 : decode cL_law 319 = .ok (.iconst 0, 1) := by decide +kernel
theorem dL_law_320 : decode cL_law 320 = .ok (.ireturn, 1) := by decide +kernel
theorem dL_law_321 : decode cL_law 321 = .ok (.aload_n 1, 1) := by decide +kernel
theorem dL_law_322 : decode cL_law 322 = .ok (.aload_n 0, 1) := by decide +kernel
theorem dL_law_323 : decode cL_law 323 = .ok (.iload_n 3, 1) := by decide +kernel
theorem dL_law_324 : decode cL_law 324 = .ok (.iconst 1, 1) := by decide +kernel
theorem dL_law_325 : decode cL_law 325 = .ok (.iadd, 1) := by decide +kernel
theorem dL_law_326 : decode cL_law 326 = .ok (.iaload, 1) := by decide +kernel
theorem dL_law_327 : decode cL_law 327 = .ok (.invokevirtual 36, 3) := by decide +kernel
theorem dL_law_330 : decode cL_law 330 = .ok (.aload_n 2, 1) := by decide +kernel
theorem dL_law_331 : decode cL_law 331 = .ok (.aload_n 0, 1) := by decide +kernel
theorem dL_law_332 : decode cL_law 332 = .ok (.iload_n 3, 1) := by decide +kernel
theorem dL_law_333 : decode cL_law 333 = .ok (.iconst 1, 1) := by decide +kernel
theorem dL_law_334 : decode cL_law 334 = .ok (.iadd, 1) := by decide +kernel
theorem dL_law_335 : decode cL_law 335 = .ok (.iaload, 1) := by decide +kernel
theorem dL_law_336 : decode cL_law 336 = .ok (.invokevirtual 40, 3) := by decide +kernel
theorem dL_law_339 : decode cL_law 339 = .ok (.if_icmp .eq 518, 3) := by decide +kernel
theorem dL_law_342 : decode cL_law 342 = .ok (.iconst 0, 1) := by decide +kernel
theorem dL_law_343 : decode cL_law 343 = .ok (.ireturn, 1) := by decide +kernel
theorem dL_law_344 : decode cL_law 344 = .ok (.aload_n 1, 1) := by decide +kernel
theorem dL_law_345 : decode cL_law 345 = .ok (.aload_n 0, 1) := by decide +kernel
theorem dL_law_346 : decode cL_law 346 = .ok (.iload_n 3, 1) := by decide +kernel
theorem dL_law_347 : decode cL_law 347 = .ok (.iconst 1, 1) := by decide +kernel
theorem dL_law_348 : decode cL_law 348 = .ok (.iadd, 1) := by decide +kernel
theorem dL_law_349 : decode cL_law 349 = .ok (.iaload, 1) := by decide +kernel
theorem dL_law_350 : decode cL_law 350 = .ok (.invokevirtual 41, 3) := by decide +kernel
theorem dL_law_353 : decode cL_law 353 = .ok (.aload_n 2, 1) := by decide +kernel
theorem dL_law_354 : decode cL_law 354 = .ok (.aload_n 0, 1) := by decide +kernel
theorem dL_law_355 : decode cL_law 355 = .ok (.iload_n 3, 1) := by decide +kernel
theorem dL_law_356 : decode cL_law 356 = .ok (.iconst 1, 1) := by decide +kernel
theorem dL_law_357 : decode cL_law 357 = .ok (.iadd, 1) := by decide +kernel
theorem dL_law_358 : decode cL_law 358 = .ok (.iaload, 1) := by decide +kernel
theorem dL_law_359 : decode cL_law 359 = .ok (.invokevirtual 44, 3) := by decide +kernel
theorem dL_law_362 : decode cL_law 362 = .ok (.if_icmp .eq 495, 3) := by decide +kernel
theorem dL_law_365 : decode cL_law 365 = .ok (.iconst 0, 1) := by decide +kernel
theorem dL_law_366 : decode cL_law 366 = .ok (.ireturn, 1) := by decide +kernel
theorem dL_law_367 : decode cL_law 367 = .ok (.aload_n 1, 1) := by decide +kernel
theorem dL_law_368 : decode cL_law 368 = .ok (.invokevirtual 45, 3) := by decide +kernel
theorem dL_law_371 : decode cL_law 371 = .ok (.aload_n 2, 1) := by decide +kernel
theorem dL_law_372 : decode cL_law 372 = .ok (.invokevirtual 48, 3) := by decide +kernel
theorem dL_law_375 : decode cL_law 375 = .ok (.if_icmp .eq 482, 3) := by decide +kernel
theorem dL_law_378 : decode cL_law 378 = .ok (.iconst 0, 1) := by decide +kernel
theorem dL_law_379 : decode cL_law 379 = .ok (.ireturn, 1) := by decide +kernel
theorem dL_law_380 : decode cL_law 380 = .ok (.aload_n 1, 1) := by decide +kernel
theorem dL_law_381 : decode cL_law 381 = .ok (.aload_n 0, 1) := by decide +kernel
theorem dL_law_382 : decode cL_law 382 = .ok (.iload_n 3, 1) := by decide +kernel
theorem dL_law_383 : decode cL_law 383 = .ok (.iconst 1, 1) := by decide +kernel
theorem dL_law_384 : decode cL_law 384 = .ok (.iadd, 1) := by decide +kernel
theorem dL_law_385 : decode cL_law 385 = .ok (.iaload, 1) := by decide +kernel
theorem dL_law_386 : decode cL_law 386 = .ok (.invokevirtual 49, 3) := by decide +kernel
theorem dL_law_389 : decode cL_law 389 = .ok (.aload_n 2, 1) := by decide +kernel
theorem dL_law_390 : decode cL_law 390 = .ok (.aload_n 0, 1) := by decide +kernel
theorem dL_law_391 : decode cL_law 391 = .ok (.iload_n 3, 1) := by decide +kernel
theorem dL_law_392 : decode cL_law 392 = .ok (.iconst 1, 1) := by decide +kernel
theorem dL_law_393 : decode cL_law 393 = .ok (.iadd, 1) := by decide +kernel
theorem dL_law_394 : decode cL_law 394 = .ok (.iaload, 1) := by decide +kernel
theorem dL_law_395 : decode cL_law 395 = .ok (.invokevirtual 52, 3) := by decide +kernel
theorem dL_law_398 : decode cL_law 398 = .ok (.if_icmp .eq 459, 3) := by decide +kernel
theorem dL_law_401 : decode cL_law 401 = .ok (.iconst 0, 1) := by decide +kernel
theorem dL_law_402 : decode cL_law 402 = .ok (.ireturn, 1) := by decide +kernel
theorem dL_law_403 : decode cL_law 403 = .ok (.aload_n 1, 1) := by decide +kernel
theorem dL_law_404 : decode cL_law 404 = .ok (.aload_n 0, 1) := by decide +kernel
theorem dL_law_405 : decode cL_law 405 = .ok (.iload_n 3, 1) := by decide +kernel
theorem dL_law_406 : decode cL_law 406 = .ok (.iconst 1, 1) := by decide +kernel
theorem dL_law_407 : decode cL_law 407 = .ok (.iadd, 1) := by decide +kernel
theorem dL_law_408 : decode cL_law 408 = .ok (.iaload, 1) := by decide +kernel
theorem dL_law_409 : decode cL_law 409 = .ok (.invokevirtual 53, 3) := by decide +kernel
theorem dL_law_412 : decode cL_law 412 = .ok (.aload_n 2, 1) := by decide +kernel
theorem dL_law_413 : decode cL_law 413 = .ok (.aload_n 0, 1) := by decide +kernel
theorem dL_law_414 : decode cL_law 414 = .ok (.iload_n 3, 1) := by decide +kernel
theorem dL_law_415 : decode cL_law 415 = .ok (.iconst 1, 1) := by decide +kernel
theorem dL_law_416 : decode cL_law 416 = .ok (.iadd, 1) := by decide +kernel
theorem dL_law_417 : decode cL_law 417 = .ok (.iaload, 1) := by decide +kernel
theorem dL_law_418 : decode cL_law 418 = .ok (.invokevirtual 56, 3) := by decide +kernel
theorem dL_law_421 : decode cL_law 421 = .ok (.if_icmp .eq 436, 3) := by decide +kernel
theorem dL_law_424 : decode cL_law 424 = .ok (.iconst 0, 1) := by decide +kernel
theorem dL_law_425 : decode cL_law 425 = .ok (.ireturn, 1) := by decide +kernel
theorem dL_law_426 : decode cL_law 426 = .ok (.aload_n 1, 1) := by decide +kernel
theorem dL_law_427 : decode cL_law 427 = .ok (.aload_n 0, 1) := by decide +kernel
theorem dL_law_428 : decode cL_law 428 = .ok (.iload_n 3, 1) := by decide +kernel
theorem dL_law_429 : decode cL_law 429 = .ok (.iconst 1, 1) := by decide +kernel
theorem dL_law_430 : decode cL_law 430 = .ok (.iadd, 1) := by decide +kernel
theorem dL_law_431 : decode cL_law 431 = .ok (.iaload, 1) := by decide +kernel
theorem dL_law_432 : decode cL_law 432 = .ok (.invokevirtual 57, 3) := by decide +kernel
theorem dL_law_435 : decode cL_law 435 = .ok (.aload_n 2, 1) := by decide +kernel
theorem dL_law_436 : decode cL_law 436 = .ok (.aload_n 0, 1) := by decide +kernel
theorem dL_law_437 : decode cL_law 437 = .ok (.iload_n 3, 1) := by decide +kernel
theorem dL_law_438 : decode cL_law 438 = .ok (.iconst 1, 1) := by decide +kernel
theorem dL_law_439 : decode cL_law 439 = .ok (.iadd, 1) := by decide +kernel
theorem dL_law_440 : decode cL_law 440 = .ok (.iaload, 1) := by decide +kernel
theorem dL_law_441 : decode cL_law 441 = .ok (.invokevirtual 60, 3) := by decide +kernel
theorem dL_law_444 : decode cL_law 444 = .ok (.if_icmp .eq 413, 3) := by decide +kernel
theorem dL_law_447 : decode cL_law 447 = .ok (.iconst 0, 1) := by decide +kernel
theorem dL_law_448 : decode cL_law 448 = .ok (.ireturn, 1) := by decide +kernel
theorem dL_law_449 : decode cL_law 449 = .ok (.aload_n 1, 1) := by decide +kernel
theorem dL_law_450 : decode cL_law 450 = .ok (.invokevirtual 61, 3) := by decide +kernel
theorem dL_law_453 : decode cL_law 453 = .ok (.aload_n 2, 1) := by decide +kernel
theorem dL_law_454 : decode cL_law 454 = .ok (.invokevirtual 64, 3) := by decide +kernel
theorem dL_law_457 : decode cL_law 457 = .ok (.if_icmp .eq 400, 3) := by decide +kernel
theorem dL_law_460 : decode cL_law 460 = .ok (.iconst 0, 1) := by decide +kernel
theorem dL_law_461 : decode cL_law 461 = .ok (.ireturn, 1) := by decide +kernel
theorem dL_law_462 : decode cL_law 462 = .ok (.aload_n 1, 1) := by decide +kernel
theorem dL_law_463 : decode cL_law 463 = .ok (.aload_n 0, 1) := by decide +kernel
theorem dL_law_464 : decode cL_law 464 = .ok (.iload_n 3, 1) := by decide +kernel
theorem dL_law_465 : decode cL_law 465 = .ok (.iconst 1, 1) := by decide +kernel
theorem dL_law_466 : decode cL_law 466 = .ok (.iadd, 1) := by decide +kernel
theorem dL_law_467 : decode cL_law 467 = .ok (.iaload, 1) := by decide +kernel
theorem dL_law_468 : decode cL_law 468 = .ok (.invokevirtual 65, 3) := by decide +kernel
theorem dL_law_471 : decode cL_law 471 = .ok (.aload_n 2, 1) := by decide +kernel
theorem dL_law_472 : decode cL_law 472 = .ok (.aload_n 0, 1) := by decide +kernel
theorem dL_law_473 : decode cL_law 473 = .ok (.iload_n 3, 1) := by decide +kernel
theorem dL_law_474 : decode cL_law 474 = .ok (.iconst 1, 1) := by decide +kernel
theorem dL_law_475 : decode cL_law 475 = .ok (.iadd, 1) := by decide +kernel
theorem dL_law_476 : decode cL_law 476 = .ok (.iaload, 1) := by decide +kernel
theorem dL_law_477 : decode cL_law 477 = .ok (.invokevirtual 68, 3) := by decide +kernel
theorem dL_law_480 : decode cL_law 480 = .ok (.if_icmp .eq 377, 3) := by decide +kernel
theorem dL_law_483 : decode cL_law 483 = .ok (.iconst 0, 1) := by decide +kernel
theorem dL_law_484 : decode cL_law 484 = .ok (.ireturn, 1) := by decide +kernel
theorem dL_law_485 : decode cL_law 485 = .ok (.aload_n 1, 1) := by decide +kernel
theorem dL_law_486 : decode cL_law 486 = .ok (.invokevirtual 69, 3) := by decide +kernel
theorem dL_law_489 : decode cL_law 489 = .ok (.aload_n 2, 1) := by decide +kernel
theorem dL_law_490 : decode cL_law 490 = .ok (.invokevirtual 72, 3) := by decide +kernel
theorem dL_law_493 : decode cL_law 493 = .ok (.if_icmp .eq 364, 3) := by decide +kernel
theorem dL_law_496 : decode cL_law 496 = .ok (.iconst 0, 1) := by decide +kernel
theorem dL_law_497 : decode cL_law 497 = .ok (.ireturn, 1) := by decide +kernel
theorem dL_law_498 : decode cL_law 498 = .ok (.aload_n 1, 1) := by decide +kernel
theorem dL_law_499 : decode cL_law 499 = .ok (.invokevirtual 73, 3) := by decide +kernel
theorem dL_law_502 : decode cL_law 502 = .ok (.aload_n 2, 1) := by decide +kernel
theorem dL_law_503 : decode cL_law 503 = .ok (.invokevirtual 76, 3) := by decide +kernel
theorem dL_law_506 : decode cL_law 506 = .ok (.if_icmp .eq 351, 3) := by decide +kernel
theorem dL_law_509 : decode cL_law 509 = .ok (.iconst 0, 1) := by decide +kernel
theorem dL_law_510 : decode cL_law 510 = .ok (.ireturn, 1) := by decide +kernel
theorem dL_law_511 : decode cL_law 511 = .ok (.aload_n 1, 1) := by decide +kernel
theorem dL_law_512 : decode cL_law 512 = .ok (.aload_n 0, 1) := by decide +kernel
theorem dL_law_513 : decode cL_law 513 = .ok (.iload_n 3, 1) := by decide +kernel
theorem dL_law_514 : decode cL_law 514 = .ok (.iconst 1, 1) := by decide +kernel
theorem dL_law_515 : decode cL_law 515 = .ok (.iadd, 1) := by decide +kernel
theorem dL_law_516 : decode cL_law 516 = .ok (.iaload, 1) := by decide +kernel
theorem dL_law_517 : decode cL_law 517 = .ok (.invokevirtual 77, 3) := by decide +kernel
theorem dL_law_520 : decode cL_law 520 = .ok (.aload_n 2, 1) := by decide +kernel
theorem dL_law_521 : decode cL_law 521 = .ok (.aload_n 0, 1) := by decide +kernel
theorem dL_law_522 : decode cL_law 522 = .ok (.iload_n 3, 1) := by decide +kernel
theorem dL_law_523 : decode cL_law 523 = .ok (.iconst 1, 1) := by decide +kernel
theorem dL_law_524 : decode cL_law 524 = .ok (.iadd, 1) := by decide +kernel
theorem dL_law_525 : decode cL_law 525 = .ok (.iaload, 1) := by decide +kernel
theorem dL_law_526 : decode cL_law 526 = .ok (.invokevirtual 80, 3) := by decide +kernel
theorem dL_law_529 : decode cL_law 529 = .ok (.if_icmp .eq 328, 3) := by decide +kernel
theorem dL_law_532 : decode cL_law 532 = .ok (.iconst 0, 1) := by decide +kernel
theorem dL_law_533 : decode cL_law 533 = .ok (.ireturn, 1) := by decide +kernel
theorem dL_law_534 : decode cL_law 534 = .ok (.aload_n 1, 1) := by decide +kernel
theorem dL_law_535 : decode cL_law 535 = .ok (.aload_n 0, 1) := by decide +kernel
theorem dL_law_536 : decode cL_law 536 = .ok (.iload_n 3, 1) := by decide +kernel
theorem dL_law_537 : decode cL_law 537 = .ok (.iconst 1, 1) := by decide +kernel
theorem dL_law_538 : decode cL_law 538 = .ok (.iadd, 1) := by decide +kernel
theorem dL_law_539 : decode cL_law 539 = .ok (.iaload, 1) := by decide +kernel
theorem dL_law_540 : decode cL_law 540 = .ok (.aload_n 0, 1) := by decide +kernel
theorem dL_law_541 : decode cL_law 541 = .ok (.iload_n 3, 1) := by decide +kernel
theorem dL_law_542 : decode cL_law 542 = .ok (.iconst 2, 1) := by decide +kernel
theorem dL_law_543 : decode cL_law 543 = .ok (.iadd, 1) := by decide +kernel
theorem dL_law_544 : decode cL_law 544 = .ok (.iaload, 1) := by decide +kernel
theorem dL_law_545 : decode cL_law 545 = .ok (.invokevirtual 81, 3) := by decide +kernel
theorem dL_law_548 : decode cL_law 548 = .ok (.aload_n 2, 1) := by decide +kernel
theorem dL_law_549 : decode cL_law 549 = .ok (.aload_n 0, 1) := by decide +kernel
theorem dL_law_550 : decode cL_law 550 = .ok (.iload_n 3, 1) := by decide +kernel
theorem dL_law_551 : decode cL_law 551 = .ok (.iconst 1, 1) := by decide +kernel
theorem dL_law_552 : decode cL_law 552 = .ok (.iadd, 1) := by decide +kernel
theorem dL_law_553 : decode cL_law 553 = .ok (.iaload, 1) := by decide +kernel
theorem dL_law_554 : decode cL_law 554 = .ok (.aload_n 0, 1) := by decide +kernel
theorem dL_law_555 : decode cL_law 555 = .ok (.iload_n 3, 1) := by decide +kernel
theorem dL_law_556 : decode cL_law 556 = .ok (.iconst 2, 1) := by decide +kernel
theorem dL_law_557 : decode cL_law 557 = .ok (.iadd, 1) := by decide +kernel
theorem dL_law_558 : decode cL_law 558 = .ok (.iaload, 1) := by decide +kernel
theorem dL_law_559 : decode cL_law 559 = .ok (.invokevirtual 84, 3) := by decide +kernel
theorem dL_law_562 : decode cL_law 562 = .ok (.if_icmp .eq 295, 3) := by decide +kernel
theorem dL_law_565 : decode cL_law 565 = .ok (.iconst 0, 1) := by decide +kernel
theorem dL_law_566 : decode cL_law 566 = .ok (.ireturn, 1) := by decide +kernel
theorem dL_law_567 : decode cL_law 567 = .ok (.aload_n 1, 1) := by decide +kernel
theorem dL_law_568 : decode cL_law 568 = .ok (.aload_n 0, 1) := by decide +kernel
theorem dL_law_569 : decode cL_law 569 = .ok (.iload_n 3, 1) := by decide +kernel
theorem dL_law_570 : decode cL_law 570 = .ok (.iconst 1, 1) := by decide +kernel
theorem dL_law_571 : decode cL_law 571 = .ok (.iadd, 1) := by decide +kernel
theorem dL_law_572 : decode cL_law 572 = .ok (.iaload, 1) := by decide +kernel
theorem dL_law_573 : decode cL_law 573 = .ok (.aload_n 0, 1) := by decide +kernel
theorem dL_law_574 : decode cL_law 574 = .ok (.iload_n 3, 1) := by decide +kernel
theorem dL_law_575 : decode cL_law 575 = .ok (.iconst 2, 1) := by decide +kernel
theorem dL_law_576 : decode cL_law 576 = .ok (.iadd, 1) := by decide +kernel
theorem dL_law_577 : decode cL_law 577 = .ok (.iaload, 1) := by decide +kernel
theorem dL_law_578 : decode cL_law 578 = .ok (.invokevirtual 85, 3) := by decide +kernel
theorem dL_law_581 : decode cL_law 581 = .ok (.aload_n 2, 1) := by decide +kernel
theorem dL_law_582 : decode cL_law 582 = .ok (.aload_n 0, 1) := by decide +kernel
theorem dL_law_583 : decode cL_law 583 = .ok (.iload_n 3, 1) := by decide +kernel
theorem dL_law_584 : decode cL_law 584 = .ok (.iconst 1, 1) := by decide +kernel
theorem dL_law_585 : decode cL_law 585 = .ok (.iadd, 1) := by decide +kernel
theorem dL_law_586 : decode cL_law 586 = .ok (.iaload, 1) := by decide +kernel
theorem dL_law_587 : decode cL_law 587 = .ok (.aload_n 0, 1) := by decide +kernel
theorem dL_law_588 : decode cL_law 588 = .ok (.iload_n 3, 1) := by decide +kernel
theorem dL_law_589 : decode cL_law 589 = .ok (.iconst 2, 1) := by decide +kernel
theorem dL_law_590 : decode cL_law 590 = .ok (.iadd, 1) := by decide +kernel
theorem dL_law_591 : decode cL_law 591 = .ok (.iaload, 1) := by decide +kernel
theorem dL_law_592 : decode cL_law 592 = .ok (.invokevirtual 88, 3) := by decide +kernel
theorem dL_law_595 : decode cL_law 595 = .ok (.if_icmp .eq 262, 3) := by decide +kernel
theorem dL_law_598 : decode cL_law 598 = .ok (.iconst 0, 1) := by decide +kernel
theorem dL_law_599 : decode cL_law 599 = .ok (.ireturn, 1) := by decide +kernel
theorem dL_law_600 : decode cL_law 600 = .ok (.aload_n 1, 1) := by decide +kernel
theorem dL_law_601 : decode cL_law 601 = .ok (.aload_n 0, 1) := by decide +kernel
theorem dL_law_602 : decode cL_law 602 = .ok (.iload_n 3, 1) := by decide +kernel
theorem dL_law_603 : decode cL_law 603 = .ok (.iconst 1, 1) := by decide +kernel
theorem dL_law_604 : decode cL_law 604 = .ok (.iadd, 1) := by decide +kernel
theorem dL_law_605 : decode cL_law 605 = .ok (.iaload, 1) := by decide +kernel
theorem dL_law_606 : decode cL_law 606 = .ok (.invokevirtual 89, 3) := by decide +kernel
theorem dL_law_609 : decode cL_law 609 = .ok (.aload_n 2, 1) := by decide +kernel
theorem dL_law_610 : decode cL_law 610 = .ok (.aload_n 0, 1) := by decide +kernel
theorem dL_law_611 : decode cL_law 611 = .ok (.iload_n 3, 1) := by decide +kernel
theorem dL_law_612 : decode cL_law 612 = .ok (.iconst 1, 1) := by decide +kernel
theorem dL_law_613 : decode cL_law 613 = .ok (.iadd, 1) := by decide +kernel
theorem dL_law_614 : decode cL_law 614 = .ok (.iaload, 1) := by decide +kernel
theorem dL_law_615 : decode cL_law 615 = .ok (.invokevirtual 92, 3) := by decide +kernel
theorem dL_law_618 : decode cL_law 618 = .ok (.if_icmp .eq 239, 3) := by decide +kernel
theorem dL_law_621 : decode cL_law 621 = .ok (.iconst 0, 1) := by decide +kernel
theorem dL_law_622 : decode cL_law 622 = .ok (.ireturn, 1) := by decide +kernel
theorem dL_law_623 : decode cL_law 623 = .ok (.aload_n 1, 1) := by decide +kernel
theorem dL_law_624 : decode cL_law 624 = .ok (.aload_n 0, 1) := by decide +kernel
theorem dL_law_625 : decode cL_law 625 = .ok (.iload_n 3, 1) := by decide +kernel
theorem dL_law_626 : decode cL_law 626 = .ok (.iconst 1, 1) := by decide +kernel
theorem dL_law_627 : decode cL_law 627 = .ok (.iadd, 1) := by decide +kernel
theorem dL_law_628 : decode cL_law 628 = .ok (.iaload, 1) := by decide +kernel
theorem dL_law_629 : decode cL_law 629 = .ok (.invokevirtual 93, 3) := by decide +kernel
theorem dL_law_632 : decode cL_law 632 = .ok (.aload_n 2, 1) := by decide +kernel
theorem dL_law_633 : decode cL_law 633 = .ok (.aload_n 0, 1) := by decide +kernel
theorem dL_law_634 : decode cL_law 634 = .ok (.iload_n 3, 1) := by decide +kernel
theorem dL_law_635 : decode cL_law 635 = .ok (.iconst 1, 1) := by decide +kernel
theorem dL_law_636 : decode cL_law 636 = .ok (.iadd, 1) := by decide +kernel
theorem dL_law_637 : decode cL_law 637 = .ok (.iaload, 1) := by decide +kernel
theorem dL_law_638 : decode cL_law 638 = .ok (.invokevirtual 96, 3) := by decide +kernel
theorem dL_law_641 : decode cL_law 641 = .ok (.if_icmp .eq 216, 3) := by decide +kernel
theorem dL_law_644 : decode cL_law 644 = .ok (.iconst 0, 1) := by decide +kernel
theorem dL_law_645 : decode cL_law 645 = .ok (.ireturn, 1) := by decide +kernel
theorem dL_law_646 : decode cL_law 646 = .ok (.aload_n 1, 1) := by decide +kernel
theorem dL_law_647 : decode cL_law 647 = .ok (.aload_n 0, 1) := by decide +kernel
theorem dL_law_648 : decode cL_law 648 = .ok (.iload_n 3, 1) := by decide +kernel
theorem dL_law_649 : decode cL_law 649 = .ok (.iconst 1, 1) := by decide +kernel
theorem dL_law_650 : decode cL_law 650 = .ok (.iadd, 1) := by decide +kernel
theorem dL_law_651 : decode cL_law 651 = .ok (.iaload, 1) := by decide +kernel
theorem dL_law_652 : decode cL_law 652 = .ok (.aload_n 0, 1) := by decide +kernel
theorem dL_law_653 : decode cL_law 653 = .ok (.iload_n 3, 1) := by decide +kernel
theorem dL_law_654 : decode cL_law 654 = .ok (.iconst 2, 1) := by decide +kernel
theorem dL_law_655 : decode cL_law 655 = .ok (.iadd, 1) := by decide +kernel
theorem dL_law_656 : decode cL_law 656 = .ok (.iaload, 1) := by decide +kernel
theorem dL_law_657 : decode cL_law 657 = .ok (.invokevirtual 97, 3) := by decide +kernel
theorem dL_law_660 : decode cL_law 660 = .ok (.aload_n 2, 1) := by decide +kernel
theorem dL_law_661 : decode cL_law 661 = .ok (.aload_n 0, 1) := by decide +kernel
theorem dL_law_662 : decode cL_law 662 = .ok (.iload_n 3, 1) := by decide +kernel
theorem dL_law_663 : decode cL_law 663 = .ok (.iconst 1, 1) := by decide +kernel
theorem dL_law_664 : decode cL_law 664 = .ok (.iadd, 1) := by decide +kernel
theorem dL_law_665 : decode cL_law 665 = .ok (.iaload, 1) := by decide +kernel
theorem dL_law_666 : decode cL_law 666 = .ok (.aload_n 0, 1) := by decide +kernel
theorem dL_law_667 : decode cL_law 667 = .ok (.iload_n 3, 1) := by decide +kernel
theorem dL_law_668 : decode cL_law 668 = .ok (.iconst 2, 1) := by decide +kernel
theorem dL_law_669 : decode cL_law 669 = .ok (.iadd, 1) := by decide +kernel
theorem dL_law_670 : decode cL_law 670 = .ok (.iaload, 1) := by decide +kernel
theorem dL_law_671 : decode cL_law 671 = .ok (.invokevirtual 100, 3) := by decide +kernel
theorem dL_law_674 : decode cL_law 674 = .ok (.if_icmp .eq 183, 3) := by decide +kernel
theorem dL_law_677 : decode cL_law 677 = .ok (.iconst 0, 1) := by decide +kernel
theorem dL_law_678 : decode cL_law 678 = .ok (.ireturn, 1) := by decide +kernel
theorem dL_law_679 : decode cL_law 679 = .ok (.aload_n 1, 1) := by decide +kernel
theorem dL_law_680 : decode cL_law 680 = .ok (.aload_n 0, 1) := by decide +kernel
theorem dL_law_681 : decode cL_law 681 = .ok (.iload_n 3, 1) := by decide +kernel
theorem dL_law_682 : decode cL_law 682 = .ok (.iconst 1, 1) := by decide +kernel
theorem dL_law_683 : decode cL_law 683 = .ok (.iadd, 1) := by decide +kernel
theorem dL_law_684 : decode cL_law 684 = .ok (.iaload, 1) := by decide +kernel
theorem dL_law_685 : decode cL_law 685 = .ok (.aload_n 0, 1) := by decide +kernel
theorem dL_law_686 : decode cL_law 686 = .ok (.iload_n 3, 1) := by decide +kernel
theorem dL_law_687 : decode cL_law 687 = .ok (.iconst 2, 1) := by decide +kernel
theorem dL_law_688 : decode cL_law 688 = .ok (.iadd, 1) := by decide +kernel
theorem dL_law_689 : decode cL_law 689 = .ok (.iaload, 1) := by decide +kernel
theorem dL_law_690 : decode cL_law 690 = .ok (.invokevirtual 101, 3) := by decide +kernel
theorem dL_law_693 : decode cL_law 693 = .ok (.aload_n 2, 1) := by decide +kernel
theorem dL_law_694 : decode cL_law 694 = .ok (.aload_n 0, 1) := by decide +kernel
theorem dL_law_695 : decode cL_law 695 = .ok (.iload_n 3, 1) := by decide +kernel
theorem dL_law_696 : decode cL_law 696 = .ok (.iconst 1, 1) := by decide +kernel
theorem dL_law_697 : decode cL_law 697 = .ok (.iadd, 1) := by decide +kernel
theorem dL_law_698 : decode cL_law 698 = .ok (.iaload, 1) := by decide +kernel
theorem dL_law_699 : decode cL_law 699 = .ok (.aload_n 0, 1) := by decide +kernel
theorem dL_law_700 : decode cL_law 700 = .ok (.iload_n 3, 1) := by decide +kernel
theorem dL_law_701 : decode cL_law 701 = .ok (.iconst 2, 1) := by decide +kernel
theorem dL_law_702 : decode cL_law 702 = .ok (.iadd, 1) := by decide +kernel
theorem dL_law_703 : decode cL_law 703 = .ok (.iaload, 1) := by decide +kernel
theorem dL_law_704 : decode cL_law 704 = .ok (.invokevirtual 104, 3) := by decide +kernel
theorem dL_law_707 : decode cL_law 707 = .ok (.if_icmp .eq 150, 3) := by decide +kernel
theorem dL_law_710 : decode cL_law 710 = .ok (.iconst 0, 1) := by decide +kernel
theorem dL_law_711 : decode cL_law 711 = .ok (.ireturn, 1) := by decide +kernel
theorem dL_law_712 : decode cL_law 712 = .ok (.aload_n 1, 1) := by decide +kernel
theorem dL_law_713 : decode cL_law 713 = .ok (.aload_n 0, 1) := by decide +kernel
theorem dL_law_714 : decode cL_law 714 = .ok (.iload_n 3, 1) := by decide +kernel
theorem dL_law_715 : decode cL_law 715 = .ok (.iconst 1, 1) := by decide +kernel
theorem dL_law_716 : decode cL_law 716 = .ok (.iadd, 1) := by decide +kernel
theorem dL_law_717 : decode cL_law 717 = .ok (.iaload, 1) := by decide +kernel
theorem dL_law_718 : decode cL_law 718 = .ok (.aload_n 0, 1) := by decide +kernel
theorem dL_law_719 : decode cL_law 719 = .ok (.iload_n 3, 1) := by decide +kernel
theorem dL_law_720 : decode cL_law 720 = .ok (.iconst 2, 1) := by decide +kernel
theorem dL_law_721 : decode cL_law 721 = .ok (.iadd, 1) := by decide +kernel
theorem dL_law_722 : decode cL_law 722 = .ok (.iaload, 1) := by decide +kernel
theorem dL_law_723 : decode cL_law 723 = .ok (.aload_n 0, 1) := by decide +kernel
theorem dL_law_724 : decode cL_law 724 = .ok (.iload_n 3, 1) := by decide +kernel
theorem dL_law_725 : decode cL_law 725 = .ok (.iconst 3, 1) := by decide +kernel
theorem dL_law_726 : decode cL_law 726 = .ok (.iadd, 1) := by decide +kernel
theorem dL_law_727 : decode cL_law 727 = .ok (.iaload, 1) := by decide +kernel
theorem dL_law_728 : decode cL_law 728 = .ok (.aload_n 0, 1) := by decide +kernel
theorem dL_law_729 : decode cL_law 729 = .ok (.iload_n 3, 1) := by decide +kernel
theorem dL_law_730 : decode cL_law 730 = .ok (.iconst 4, 1) := by decide +kernel
theorem dL_law_731 : decode cL_law 731 = .ok (.iadd, 1) := by decide +kernel
theorem dL_law_732 : decode cL_law 732 = .ok (.iaload, 1) := by decide +kernel
theorem dL_law_733 : decode cL_law 733 = .ok (.invokevirtual 105, 3) := by decide +kernel
theorem dL_law_736 : decode cL_law 736 = .ok (.aload_n 2, 1) := by decide +kernel
theorem dL_law_737 : decode cL_law 737 = .ok (.aload_n 0, 1) := by decide +kernel
theorem dL_law_738 : decode cL_law 738 = .ok (.iload_n 3, 1) := by decide +kernel
theorem dL_law_739 : decode cL_law 739 = .ok (.iconst 1, 1) := by decide +kernel
theorem dL_law_740 : decode cL_law 740 = .ok (.iadd, 1) := by decide +kernel
theorem dL_law_741 : decode cL_law 741 = .ok (.iaload, 1) := by decide +kernel
theorem dL_law_742 : decode cL_law 742 = .ok (.aload_n 0, 1) := by decide +kernel
theorem dL_law_743 : decode cL_law 743 = .ok (.iload_n 3, 1) := by decide +kernel
theorem dL_law_744 : decode cL_law 744 = .ok (.iconst 2, 1) := by decide +kernel
theorem dL_law_745 : decode cL_law 745 = .ok (.iadd, 1) := by decide +kernel
theorem dL_law_746 : decode cL_law 746 = .ok (.iaload, 1) := by decide +kernel
theorem dL_law_747 : decode cL_law 747 = .ok (.aload_n 0, 1) := by decide +kernel
theorem dL_law_748 : decode cL_law 748 = .ok (.iload_n 3, 1) := by decide +kernel
theorem dL_law_749 : decode cL_law 749 = .ok (.iconst 3, 1) := by decide +kernel
theorem dL_law_750 : decode cL_law 750 = .ok (.iadd, 1) := by decide +kernel
theorem dL_law_751 : decode cL_law 751 = .ok (.iaload, 1) := by decide +kernel
theorem dL_law_752 : decode cL_law 752 = .ok (.aload_n 0, 1) := by decide +kernel
theorem dL_law_753 : decode cL_law 753 = .ok (.iload_n 3, 1) := by decide +kernel
theorem dL_law_754 : decode cL_law 754 = .ok (.iconst 4, 1) := by decide +kernel
theorem dL_law_755 : decode cL_law 755 = .ok (.iadd, 1) := by decide +kernel
theorem dL_law_756 : decode cL_law 756 = .ok (.iaload, 1) := by decide +kernel
theorem dL_law_757 : decode cL_law 757 = .ok (.invokevirtual 108, 3) := by decide +kernel
theorem dL_law_760 : decode cL_law 760 = .ok (.if_icmp .eq 97, 3) := by decide +kernel
theorem dL_law_763 : decode cL_law 763 = .ok (.iconst 0, 1) := by decide +kernel
theorem dL_law_764 : decode cL_law 764 = .ok (.ireturn, 1) := by decide +kernel
theorem dL_law_765 : decode cL_law 765 = .ok (.aload_n 1, 1) := by decide +kernel
theorem dL_law_766 : decode cL_law 766 = .ok (.aload_n 0, 1) := by decide +kernel
theorem dL_law_767 : decode cL_law 767 = .ok (.iload_n 3, 1) := by decide +kernel
theorem dL_law_768 : decode cL_law 768 = .ok (.iconst 1, 1) := by decide +kernel
theorem dL_law_769 : decode cL_law 769 = .ok (.iadd, 1) := by decide +kernel
theorem dL_law_770 : decode cL_law 770 = .ok (.iaload, 1) := by decide +kernel
theorem dL_law_771 : decode cL_law 771 = .ok (.aload_n 0, 1) := by decide +kernel
theorem dL_law_772 : decode cL_law 772 = .ok (.iload_n 3, 1) := by decide +kernel
theorem dL_law_773 : decode cL_law 773 = .ok (.iconst 2, 1) := by decide +kernel
theorem dL_law_774 : decode cL_law 774 = .ok (.iadd, 1) := by decide +kernel
theorem dL_law_775 : decode cL_law 775 = .ok (.iaload, 1) := by decide +kernel
theorem dL_law_776 : decode cL_law 776 = .ok (.invokevirtual 109, 3) := by decide +kernel
theorem dL_law_779 : decode cL_law 779 = .ok (.aload_n 2, 1) := by decide +kernel
theorem dL_law_780 : decode cL_law 780 = .ok (.aload_n 0, 1) := by decide +kernel
theorem dL_law_781 : decode cL_law 781 = .ok (.iload_n 3, 1) := by decide +kernel
theorem dL_law_782 : decode cL_law 782 = .ok (.iconst 1, 1) := by decide +kernel
theorem dL_law_783 : decode cL_law 783 = .ok (.iadd, 1) := by decide +kernel
theorem dL_law_784 : decode cL_law 784 = .ok (.iaload, 1) := by decide +kernel
theorem dL_law_785 : decode cL_law 785 = .ok (.aload_n 0, 1) := by decide +kernel
theorem dL_law_786 : decode cL_law 786 = .ok (.iload_n 3, 1) := by decide +kernel
theorem dL_law_787 : decode cL_law 787 = .ok (.iconst 2, 1) := by decide +kernel
theorem dL_law_788 : decode cL_law 788 = .ok (.iadd, 1) := by decide +kernel
theorem dL_law_789 : decode cL_law 789 = .ok (.iaload, 1) := by decide +kernel
theorem dL_law_790 : decode cL_law 790 = .ok (.invokevirtual 112, 3) := by decide +kernel
theorem dL_law_793 : decode cL_law 793 = .ok (.if_icmp .eq 64, 3) := by decide +kernel
theorem dL_law_796 : decode cL_law 796 = .ok (.iconst 0, 1) := by decide +kernel
theorem dL_law_797 : decode cL_law 797 = .ok (.ireturn, 1) := by decide +kernel
theorem dL_law_798 : decode cL_law 798 = .ok (.aload_n 1, 1) := by decide +kernel
theorem dL_law_799 : decode cL_law 799 = .ok (.aload_n 0, 1) := by decide +kernel
theorem dL_law_800 : decode cL_law 800 = .ok (.iload_n 3, 1) := by decide +kernel
theorem dL_law_801 : decode cL_law 801 = .ok (.iconst 1, 1) := by decide +kernel
theorem dL_law_802 : decode cL_law 802 = .ok (.iadd, 1) := by decide +kernel
theorem dL_law_803 : decode cL_law 803 = .ok (.iaload, 1) := by decide +kernel
theorem dL_law_804 : decode cL_law 804 = .ok (.invokevirtual 113, 3) := by decide +kernel
theorem dL_law_807 : decode cL_law 807 = .ok (.aload_n 2, 1) := by decide +kernel
theorem dL_law_808 : decode cL_law 808 = .ok (.aload_n 0, 1) := by decide +kernel
theorem dL_law_809 : decode cL_law 809 = .ok (.iload_n 3, 1) := by decide +kernel
theorem dL_law_810 : decode cL_law 810 = .ok (.iconst 1, 1) := by decide +kernel
theorem dL_law_811 : decode cL_law 811 = .ok (.iadd, 1) := by decide +kernel
theorem dL_law_812 : decode cL_law 812 = .ok (.iaload, 1) := by decide +kernel
theorem dL_law_813 : decode cL_law 813 = .ok (.invokevirtual 116, 3) := by decide +kernel
theorem dL_law_816 : decode cL_law 816 = .ok (.if_icmp .eq 41, 3) := by decide +kernel
theorem dL_law_819 : decode cL_law 819 = .ok (.iconst 0, 1) := by decide +kernel
theorem dL_law_820 : decode cL_law 820 = .ok (.ireturn, 1) := by decide +kernel
theorem dL_law_821 : decode cL_law 821 = .ok (.aload_n 1, 1) := by decide +kernel
theorem dL_law_822 : decode cL_law 822 = .ok (.aload_n 0, 1) := by decide +kernel
theorem dL_law_823 : decode cL_law 823 = .ok (.iload_n 3, 1) := by decide +kernel
theorem dL_law_824 : decode cL_law 824 = .ok (.iconst 1, 1) := by decide +kernel
theorem dL_law_825 : decode cL_law 825 = .ok (.iadd, 1) := by decide +kernel
theorem dL_law_826 : decode cL_law 826 = .ok (.iaload, 1) := by decide +kernel
theorem dL_law_827 : decode cL_law 827 = .ok (.invokevirtual 117, 3) := by decide +kernel
theorem dL_law_830 : decode cL_law 830 = .ok (.aload_n 2, 1) := by decide +kernel
theorem dL_law_831 : decode cL_law 831 = .ok (.aload_n 0, 1) := by decide +kernel
theorem dL_law_832 : decode cL_law 832 = .ok (.iload_n 3, 1) := by decide +kernel
theorem dL_law_833 : decode cL_law 833 = .ok (.iconst 1, 1) := by decide +kernel
theorem dL_law_834 : decode cL_law 834 = .ok (.iadd, 1) := by decide +kernel
theorem dL_law_835 : decode cL_law 835 = .ok (.iaload, 1) := by decide +kernel
theorem dL_law_836 : decode cL_law 836 = .ok (.invokevirtual 120, 3) := by decide +kernel
theorem dL_law_839 : decode cL_law 839 = .ok (.if_icmp .eq 18, 3) := by decide +kernel
theorem dL_law_842 : decode cL_law 842 = .ok (.iconst 0, 1) := by decide +kernel
theorem dL_law_843 : decode cL_law 843 = .ok (.ireturn, 1) := by decide +kernel
theorem dL_law_844 : decode cL_law 844 = .ok (.aload_n 1, 1) := by decide +kernel
theorem dL_law_845 : decode cL_law 845 = .ok (.invokevirtual 121, 3) := by decide +kernel
theorem dL_law_848 : decode cL_law 848 = .ok (.aload_n 2, 1) := by decide +kernel
theorem dL_law_849 : decode cL_law 849 = .ok (.invokevirtual 124, 3) := by decide +kernel
theorem dL_law_852 : decode cL_law 852 = .ok (.if_icmp .eq 5, 3) := by decide +kernel
theorem dL_law_855 : decode cL_law 855 = .ok (.iconst 0, 1) := by decide +kernel
theorem dL_law_856 : decode cL_law 856 = .ok (.ireturn, 1) := by decide +kernel
theorem dL_law_857 : decode cL_law 857 = .ok (.iinc 3 5, 3) := by decide +kernel
theorem dL_law_860 : decode cL_law 860 = .ok (.goto (-842), 3) := by decide +kernel
theorem dL_law_863 : decode cL_law 863 = .ok (.iconst 1, 1) := by decide +kernel
theorem dL_law_864 : decode cL_law 864 = .ok (.ireturn, 1) := by decide +kernel
end
section
/-! KINDS OF CONTRACTS, and the calls by them -/
def zz_OI (G : ZG) (l : Launch) (d : Nat) (y : ZY) (as : List Value) (E : ZE) (im : ZI) (q : Int32 → ZI → Prop) : Prop := zz_O G l d y as E im 0 0 (fun v E' im' => ∃ r, v = some (.int r) ∧ E' = E ∧ q r im')
def zz_OL (G : ZG) (l : Launch) (d : Nat) (y : ZY) (as : List Value) (E : ZE) (im : ZI) (q : Int64 → ZI → Prop) : Prop := zz_O G l d y as E im 0 0 (fun v E' im' => ∃ r, v = some (.long r) ∧ E' = E ∧ q r im')
def zz_OV (G : ZG) (l : Launch) (d : Nat) (y : ZY) (as : List Value) (E : ZE) (im : ZI) (q : ZI → Prop) : Prop := zz_O G l d y as E im 0 0 (fun v E' im' => v = none ∧ E' = E ∧ q im')
/-- an answer, nothing changed -/
def zz_OP (G : ZG) (l : Launch) (d : Nat) (y : ZY) (as : List Value) (E : ZE) (im : ZI) (f : Int32) : Prop := zz_OI G l d y as E im (fun r im' => r = f ∧ im' = im)
def zz_OPL (G : ZG) (l : Launch) (d : Nat) (y : ZY) (as : List Value) (E : ZE) (im : ZI) (f : Int64) : Prop := zz_OL G l d y as E im (fun r im' => r = f ∧ im' = im)
section ZK
variable {G : ZG} {l : Launch} {own : String} {cc : ByteArray} {nL d n0 mcT msT : Nat} {isI : Bool} {rt : Option FieldType} {Qf : Option Value → ZE → ZI → Prop} {w : Nat → ZL → List Value → Nat → ZE → ZI → Prop}
variable {pc q t : Nat} {L L' : ZL} {st rest as : List Value} {z : Nat} {E : ZE} {im : ZI} {idx d2 : Nat} {y : ZY}
theorem zz_virtI {ci k : Nat} {q2 : Int32 → ZI → Prop} (S : zz_S G l own cc nL d n0 mcT msT isI rt Qf w) {n : Nat} (hy : zz_YV y n) (hlk : Cond.methodLink own idx y.1 ∈ zz_t) (hci : ci < 9) (hcn : zz_cn ci = y.1.cls) (hO : zz_OI G l d2 y (.ref k :: as) E im q2) (hn : as.length = n) (hdd : d2 + 1 ≤ d) (hk : k < E.1) (hkd : E.2.1 k = (0, ci)) (hrs : (rest.map fun v => v.category).sum ≤ 8) (hst : as.reverse ++ .ref k :: rest = st) (hd : decode cc pc = .ok (.invokevirtual idx, 3)) (hq : pc + 3 = q)
    (kk : ∀ (r : Int32) (im' : ZI), q2 r im' → w q L (.int r :: rest) z E im') : w pc L st z E im :=
  zz_virt S (hn ▸ hy) hlk hci hcn hO hdd hk hkd (fun h => h) (fun h => h) hrs hst hd hq (fun v E' im' h1 h2 => by obtain ⟨r, rfl, rfl, h⟩ := h2; exact kk r im' h)
theorem zz_virtL {ci k : Nat} {q2 : Int64 → ZI → Prop} (S : zz_S G l own cc nL d n0 mcT msT isI rt Qf w) {n : Nat} (hy : zz_YV y n) (hlk : Cond.methodLink own idx y.1 ∈ zz_t) (hci : ci < 9) (hcn : zz_cn ci = y.1.cls) (hO : zz_OL G l d2 y (.ref k :: as) E im q2) (hn : as.length = n) (hdd : d2 + 1 ≤ d) (hk : k < E.1) (hkd : E.2.1 k = (0, ci)) (hrs : (rest.map fun v => v.category).sum ≤ 8) (hst : as.reverse ++ .ref k :: rest = st) (hd : decode cc pc = .ok (.invokevirtual idx, 3)) (hq : pc + 3 = q)
    (kk : ∀ (r : Int64) (im' : ZI), q2 r im' → w q L (.long r :: rest) z E im') : w pc L st z E im :=
  zz_virt S (hn ▸ hy) hlk hci hcn hO hdd hk hkd (fun h => h) (fun h => h) hrs hst hd hq (fun v E' im' h1 h2 => by obtain ⟨r, rfl, rfl, h⟩ := h2; exact kk r im' h)
theorem zz_virtV {ci k : Nat} {q2 : ZI → Prop} (S : zz_S G l own cc nL d n0 mcT msT isI rt Qf w) {n : Nat} (hy : zz_YV y n) (hlk : Cond.methodLink own idx y.1 ∈ zz_t) (hci : ci < 9) (hcn : zz_cn ci = y.1.cls) (hO : zz_OV G l d2 y (.ref k :: as) E im q2) (hn : as.length = n) (hdd : d2 + 1 ≤ d) (hk : k < E.1) (hkd : E.2.1 k = (0, ci)) (hrs : (rest.map fun v => v.category).sum ≤ 8) (hst : as.reverse ++ .ref k :: rest = st) (hd : decode cc pc = .ok (.invokevirtual idx, 3)) (hq : pc + 3 = q)
    (kk : ∀ (im' : ZI), q2 im' → w q L rest z E im') : w pc L st z E im :=
  zz_virt S (hn ▸ hy) hlk hci hcn hO hdd hk hkd (fun h => h) (fun h => h) hrs hst hd hq (fun v E' im' h1 h2 => by obtain ⟨rfl, rfl, h⟩ := h2; exact kk im' h)
theorem zz_virtP {ci k : Nat} {f : Int32} (S : zz_S G l own cc nL d n0 mcT msT isI rt Qf w) {n : Nat} (hy : zz_YV y n) (hlk : Cond.methodLink own idx y.1 ∈ zz_t) (hci : ci < 9) (hcn : zz_cn ci = y.1.cls) (hO : zz_OP G l d2 y (.ref k :: as) E im f) (hn : as.length = n) (hdd : d2 + 1 ≤ d) (hk : k < E.1) (hkd : E.2.1 k = (0, ci)) (hrs : (rest.map fun v => v.category).sum ≤ 8) (hst : as.reverse ++ .ref k :: rest = st) (hd : decode cc pc = .ok (.invokevirtual idx, 3)) (hq : pc + 3 = q)
    (kk : w q L (.int f :: rest) z E im) : w pc L st z E im :=
  zz_virtI S hy hlk hci hcn hO hn hdd hk hkd hrs hst hd hq (fun r im' h => by obtain ⟨rfl, rfl⟩ := h; exact kk)
theorem zz_virtPL {ci k : Nat} {f : Int64} (S : zz_S G l own cc nL d n0 mcT msT isI rt Qf w) {n : Nat} (hy : zz_YV y n) (hlk : Cond.methodLink own idx y.1 ∈ zz_t) (hci : ci < 9) (hcn : zz_cn ci = y.1.cls) (hO : zz_OPL G l d2 y (.ref k :: as) E im f) (hn : as.length = n) (hdd : d2 + 1 ≤ d) (hk : k < E.1) (hkd : E.2.1 k = (0, ci)) (hrs : (rest.map fun v => v.category).sum ≤ 8) (hst : as.reverse ++ .ref k :: rest = st) (hd : decode cc pc = .ok (.invokevirtual idx, 3)) (hq : pc + 3 = q)
    (kk : w q L (.long f :: rest) z E im) : w pc L st z E im :=
  zz_virtL S hy hlk hci hcn hO hn hdd hk hkd hrs hst hd hq (fun r im' h => by obtain ⟨rfl, rfl⟩ := h; exact kk)
theorem zz_statI {q2 : Int32 → ZI → Prop} (S : zz_S G l own cc nL d n0 mcT msT isI rt Qf w) {n : Nat} (hy : zz_YS y n) (hlk : Cond.methodLink own idx y.1 ∈ zz_t) (hO : zz_OI G l d2 y as E im q2) (hn : as.length = n) (hdd : d2 + 1 ≤ d) (hrs : (rest.map fun v => v.category).sum ≤ 8) (hst : as.reverse ++ rest = st) (hd : decode cc pc = .ok (.invokestatic idx, 3)) (hq : pc + 3 = q)
    (kk : ∀ (r : Int32) (im' : ZI), q2 r im' → w q L (.int r :: rest) z E im') : w pc L st z E im :=
  zz_stat S (hn ▸ hy) hlk hO hdd (fun h => h) (fun h => h) hrs hst hd hq (fun v E' im' h1 h2 => by obtain ⟨r, rfl, rfl, h⟩ := h2; exact kk r im' h)
theorem zz_statP {f : Int32} (S : zz_S G l own cc nL d n0 mcT msT isI rt Qf w) {n : Nat} (hy : zz_YS y n) (hlk : Cond.methodLink own idx y.1 ∈ zz_t) (hO : zz_OP G l d2 y as E im f) (hn : as.length = n) (hdd : d2 + 1 ≤ d) (hrs : (rest.map fun v => v.category).sum ≤ 8) (hst : as.reverse ++ rest = st) (hd : decode cc pc = .ok (.invokestatic idx, 3)) (hq : pc + 3 = q)
    (kk : w q L (.int f :: rest) z E im) : w pc L st z E im :=
  zz_statI S hy hlk hO hn hdd hrs hst hd hq (fun r im' h => by obtain ⟨rfl, rfl⟩ := h; exact kk)
theorem zz_statPL {f : Int64} (S : zz_S G l own cc nL d n0 mcT msT isI rt Qf w) {n : Nat} (hy : zz_YS y n) (hlk : Cond.methodLink own idx y.1 ∈ zz_t) (hO : zz_OPL G l d2 y as E im f) (hn : as.length = n) (hdd : d2 + 1 ≤ d) (hrs : (rest.map fun v => v.category).sum ≤ 8) (hst : as.reverse ++ rest = st) (hd : decode cc pc = .ok (.invokestatic idx, 3)) (hq : pc + 3 = q)
    (kk : w q L (.long f :: rest) z E im) : w pc L st z E im :=
  zz_stat S (hn ▸ hy) hlk hO hdd (fun h => h) (fun h => h) hrs hst hd hq (fun v E' im' h1 h2 => by obtain ⟨r, rfl, rfl, rfl, rfl⟩ := h2; exact kk)
theorem zz_statNP {host : String} {f : Int32} (S : zz_S G l own cc nL d n0 mcT msT isI rt Qf w) {n : Nat} (hy : zz_YS y n) (hlk : Cond.methodLinkNest own idx y.1 host ∈ zz_nw) (hO : zz_OP G l d2 y as E im f) (hn : as.length = n) (hdd : d2 + 1 ≤ d) (hrs : (rest.map fun v => v.category).sum ≤ 8) (hst : as.reverse ++ rest = st) (hd : decode cc pc = .ok (.invokestatic idx, 3)) (hq : pc + 3 = q)
    (kk : w q L (.int f :: rest) z E im) : w pc L st z E im :=
  zz_statN S (hn ▸ hy) hlk hO hdd (fun h => h) (fun h => h) hrs hst hd hq (fun v E' im' h1 h2 => by obtain ⟨r, rfl, rfl, rfl, rfl⟩ := h2; exact kk)
theorem zz_statNPL {host : String} {f : Int64} (S : zz_S G l own cc nL d n0 mcT msT isI rt Qf w) {n : Nat} (hy : zz_YS y n) (hlk : Cond.methodLinkNest own idx y.1 host ∈ zz_nw) (hO : zz_OPL G l d2 y as E im f) (hn : as.length = n) (hdd : d2 + 1 ≤ d) (hrs : (rest.map fun v => v.category).sum ≤ 8) (hst : as.reverse ++ rest = st) (hd : decode cc pc = .ok (.invokestatic idx, 3)) (hq : pc + 3 = q)
    (kk : w q L (.long f :: rest) z E im) : w pc L st z E im :=
  zz_statN S (hn ▸ hy) hlk hO hdd (fun h => h) (fun h => h) hrs hst hd hq (fun v E' im' h1 h2 => by obtain ⟨r, rfl, rfl, rfl, rfl⟩ := h2; exact kk)
end ZK
/-- a boolean answer -/
theorem zz_bit {r : Int32} (h : r = 0 ∨ r = 1) : narrow .boolean (.int r) = .int r := by
  rcases h with rfl | rfl <;> rfl
theorem zz_ite01 {c : Prop} [Decidable c] : (if c then (1 : Int32) else 0) = 0 ∨ (if c then (1 : Int32) else 0) = 1 := by
  by_cases h : c
  · right; rw [if_pos h]
  · left; rw [if_neg h]
/-! THE LAYOUT: what cell is what, once all is made -/
def zk_shop (c : Nat) : Nat × Nat := if c = 0 then (0, 4) else if c = 1 then (4, 6) else if c = 2 then (1, 12) else if c = 3 then (1, 4) else if c = 4 then (5, 10) else if c < 11 then (0, 6) else (0, 0)
def zk_state (c : Nat) : Nat × Nat := if c = 0 then (0, 5) else if c < 22 then zk_shop (c - 1) else if c = 22 then (6, 2) else if c = 23 then (2, 2) else if c < 45 then zk_shop (c - 24) else zk_shop (c - 45)
def zk_x (c : Nat) : Nat × Nat := if c = 0 then (0, 7) else if c < 67 then zk_state (c - 1) else if c = 67 then (0, 2) else if c = 68 then (7, 6) else if c < 465 then zk_state ((c - 69) % 66) else if c = 465 then (0, 3) else if c = 466 then (3, 140) else if c = 467 then (1, 3) else if c = 468 then (0, 1) else (1, 721)
def zk_m (c : Nat) : Nat × Nat := if c = 0 then (0, 8) else if c = 1 then (1, 356) else if c = 2 then (1, 356) else if c = 3 then (1, 1780) else if c = 4 then (1, 140) else if c = 5 then (1, 3) else if c = 6 then (1, 721) else if c = 7 then (2, 721) else (1, 10)
def zk_0 (c : Nat) : Nat × Nat := if c < 470 then zk_x c else zk_m (c - 470)
def zo_shop (b c j : Nat) : Option Nat := if c = 0 then (if j < 4 then some (b + 1 + j) else none) else if c = 1 then (if j < 6 then some (b + 5 + j) else none) else if c = 4 then (if j < 10 then some (b + 11 + j) else none) else none
def zo_state (b c j : Nat) : Option Nat := if c = 0 then (if j = 0 then some (b + 1) else if j = 1 then some (b + 22) else if j = 2 then some (b + 23) else none) else if c < 22 then zo_shop (b + 1) (c - 1) j else if c = 22 then (if j < 2 then some (b + 24 + 21 * j) else none) else if c = 23 then none else if c < 45 then zo_shop (b + 24) (c - 24) j else zo_shop (b + 45) (c - 45) j
def zo_x (c j : Nat) : Option Nat := if c = 0 then (if j = 0 then some 1 else if j = 1 then some 67 else if j = 2 then some 465 else if j = 3 then some 468 else if j = 4 then some 2 else none) else if c < 67 then zo_state 1 (c - 1) j else if c = 67 then (if j = 0 then some 68 else none) else if c = 68 then (if j < 6 then some (69 + 66 * j) else none) else if c < 465 then zo_state (69 + 66 * ((c - 69) / 66)) ((c - 69) % 66) j else if c = 465 then (if j = 0 then some 466 else if j = 1 then some 467 else none) else if c = 468 then (if j = 0 then some 469 else none) else none
def zo_m (c j : Nat) : Option Nat := if c = 0 then (if j = 1 then some 471 else if j = 2 then some 472 else if j = 3 then some 473 else if j = 5 then some 474 else if j = 7 then some 475 else if j = 8 then some 476 else if j = 9 then some 477 else if j = 10 then some 478 else none) else none
def zo_0 (c j : Nat) : Option Nat := if c < 470 then zo_x c j else zo_m (c - 470) j
def zE : ZE := (479, zk_0, zo_0)
end
section
/-! numbers: times, and what the walk asks of them -/
section ZM
variable {G : ZG} {l : Launch} {own : String} {cc : ByteArray} {nL d n0 mcT msT : Nat} {isI : Bool} {rt : Option FieldType} {Qf : Option Value → ZE → ZI → Prop} {w : Nat → ZL → List Value → Nat → ZE → ZI → Prop}
variable {pc q t : Nat} {L L' : ZL} {st rest as : List Value} {z : Nat} {E : ZE} {im : ZI} {idx d2 : Nat} {y : ZY}
def zz_mask : List Bool → ZL → ZL
  | true :: bs, a :: M => a :: zz_mask bs M
  | false :: bs, _ :: M => none :: zz_mask bs M
  | _, _ => []
theorem zz_mask_len : ∀ (bs : List Bool) (M : ZL), (zz_mask bs M).length ≤ M.length
  | [], M => by simp [zz_mask]
  | true :: bs, [] => by simp [zz_mask]
  | false :: bs, [] => by simp [zz_mask]
  | true :: bs, a :: M => by simp [zz_mask, zz_mask_len bs M]
  | false :: bs, a :: M => by simp [zz_mask, zz_mask_len bs M]
theorem zz_mask_get : ∀ (bs : List Bool) (M : ZL) (k : Nat) (v : Value), (zz_mask bs M)[k]? = some (some v) → M[k]? = some (some v)
  | [], M, k, v => by simp [zz_mask]
  | true :: bs, [], k, v => by simp [zz_mask]
  | false :: bs, [], k, v => by simp [zz_mask]
  | true :: bs, a :: M, 0, v => by simp [zz_mask]
  | false :: bs, a :: M, 0, v => by simp [zz_mask]
  | true :: bs, a :: M, k + 1, v => by simpa [zz_mask] using zz_mask_get bs M k v
  | false :: bs, a :: M, k + 1, v => by simpa [zz_mask] using zz_mask_get bs M k v
/-- locals that are asked no more are forgotten -/
theorem zz_msk (S : zz_S G l own cc nL d n0 mcT msT isI rt Qf w) (bs : List Bool) (k : w pc (zz_mask bs L) st z E im) : w pc L st z E im :=
  zz_lok S (zz_mask_len bs L) (fun k v => zz_mask_get bs L k v) k
end ZM
/-- the time of the place i -/
def zs_t (i : Nat) : Int32 := nI i + (-360)
theorem zs_t0 : zs_t 0 = -360 := rfl
theorem zs_t_ix (i : Nat) : zs_t i + 360 = nI i := by
  unfold zs_t
  rw [Int32.add_assoc, show ((-360 : Int32) + 360) = 0 from rfl, Int32.add_zero]
theorem zs_t_add (i k : Nat) : zs_t i + nI k = zs_t (i + k) := by
  unfold zs_t
  rw [Int32.add_assoc, Int32.add_comm (-360) (nI k), ← Int32.add_assoc, nI_add]
theorem zs_t_i {i : Nat} (h : i < 100000) : (zs_t i).toInt = (i : Int) - 360 := by
  unfold zs_t
  rw [Int32.toInt_add, nI_toInt (by omega), show ((-360 : Int32)).toInt = -360 from rfl, Int.bmod_eq_of_le (by omega) (by omega)]
  omega
theorem zs_b0 {p : Prop} [Decidable p] : (if p then (0 : Int32) else 1) = 0 ↔ p := by
  by_cases h : p
  · simp [h]
  · simp [h]
theorem zs_b1 {p : Prop} [Decidable p] : (if p then (1 : Int32) else 0) = 0 ↔ ¬ p := by
  by_cases h : p
  · simp [h]
  · simp [h]
theorem zs_b0b {p : Prop} [Decidable p] : (if p then (0 : Int32) else 1) = 0 ∨ (if p then (0 : Int32) else 1) = 1 := by
  by_cases h : p
  · simp [h]
  · simp [h]
theorem zz_u_e (im : ZI) (k j : Nat) (v : Int32) : zz_u im k j v k j = v := by simp [zz_u]
theorem zz_u_n (im : ZI) {k j k' j' : Nat} (v : Int32) (h : k' ≠ k ∨ j' ≠ j) : zz_u im k j v k' j' = im k' j' := by
  unfold zz_u
  rw [if_neg]
  rintro ⟨a, b⟩
  rcases h with h | h
  · exact h a
  · exact h b
theorem zs_cl {x : Int32} {i : Nat} (h : x = nI i) (hi : i < 2 ^ 31) : x.toNatClampNeg = i := by rw [h]; exact nI_clamp hi
end
section
/-! THE REFERENCE: what it reckons with numbers alone -/
theorem co_in (G : ZG) (l : Launch) (v a b : Int32) (E : ZE) (im : ZI) : zz_OP G l 0 mX8_in [.int v, .int a, .int b] E im (if v ≥ a ∧ v ≤ b then 1 else 0) := by
  refine zz_intro (isI := false) (by decide) rfl (Nat.le_of_ble_eq_true rfl) (fun h => by cases h) (fun w S => ?_)
  refine zz_iload_0 S dX8_in_0 (q := 1) rfl ?_
  refine zz_iload_1 S dX8_in_1 (q := 2) rfl ?_
  refine zz_icmp_lt S dX8_in_2 (t := 14) (by decide) (q := 5) rfl (fun h1 => ?_) (fun h1 => ?_)
  · refine zz_iconst S (v := 0) rfl dX8_in_14 (q := 15) rfl ?_
    refine zz_zret S rfl dX8_in_15 ⟨rfl, _, rfl, rfl, ?_⟩
    refine ⟨?_, rfl⟩
    simp only [ge_iff_le, gt_iff_lt, Int32.lt_iff_toInt_lt, Int32.le_iff_toInt_le] at h1 ⊢
    try simp only [ge_iff_le, gt_iff_lt, Int32.lt_iff_toInt_lt, Int32.le_iff_toInt_le] at h2
    split <;> first | rfl | (exfalso; omega)
  · refine zz_iload_0 S dX8_in_5 (q := 6) rfl ?_
    refine zz_iload_2 S dX8_in_6 (q := 7) rfl ?_
    refine zz_icmp_gt S dX8_in_7 (t := 14) (by decide) (q := 10) rfl (fun h2 => ?_) (fun h2 => ?_)
    · refine zz_iconst S (v := 0) rfl dX8_in_14 (q := 15) rfl ?_
      refine zz_zret S rfl dX8_in_15 ⟨rfl, _, rfl, rfl, ?_⟩
      refine ⟨?_, rfl⟩
      simp only [ge_iff_le, gt_iff_lt, Int32.lt_iff_toInt_lt, Int32.le_iff_toInt_le] at h1 ⊢
      try simp only [ge_iff_le, gt_iff_lt, Int32.lt_iff_toInt_lt, Int32.le_iff_toInt_le] at h2
      split <;> first | rfl | (exfalso; omega)
    · refine zz_iconst S (v := 1) rfl dX8_in_10 (q := 11) rfl ?_
      refine zz_goto S dX8_in_11 (t := 15) (by decide) ?_
      refine zz_zret S rfl dX8_in_15 ⟨rfl, _, rfl, rfl, ?_⟩
      refine ⟨?_, rfl⟩
      simp only [ge_iff_le, gt_iff_lt, Int32.lt_iff_toInt_lt, Int32.le_iff_toInt_le] at h1 ⊢
      try simp only [ge_iff_le, gt_iff_lt, Int32.lt_iff_toInt_lt, Int32.le_iff_toInt_le] at h2
      split <;> first | rfl | (exfalso; omega)
def zs_size (v : Int32) : Int32 := if v ≥ 0 then v else -v
theorem co_size (G : ZG) (l : Launch) (v : Int32) (E : ZE) (im : ZI) : zz_OP G l 0 mX8_size [.int v] E im (zs_size v) := by
  refine zz_intro (isI := false) (by decide) rfl (Nat.le_of_ble_eq_true rfl) (fun h => by cases h) (fun w S => ?_)
  refine zz_iload_0 S dX8_size_0 (q := 1) rfl ?_
  refine zz_if_ge S dX8_size_1 (t := 9) (by decide) (q := 4) rfl (fun h1 => ?_) (fun h1 => ?_)
  · refine zz_iload_0 S dX8_size_9 (q := 10) rfl ?_
    refine zz_iret S dX8_size_10 ⟨rfl, _, rfl, rfl, ?_⟩
    exact ⟨by simp [zs_size, h1], rfl⟩
  · refine zz_iload_0 S dX8_size_4 (q := 5) rfl ?_
    refine zz_ineg S dX8_size_5 (q := 6) rfl ?_
    refine zz_goto S dX8_size_6 (t := 10) (by decide) ?_
    refine zz_iret S dX8_size_10 ⟨rfl, _, rfl, rfl, ?_⟩
    exact ⟨by simp [zs_size, h1], rfl⟩
/-- a quotient rounded, as the reference has it -/
def zs_rd (a b : Int64) : Int64 := if 0 ≤ a + a + b then (a + a + b) / (b + b) else if (a + a + b) / (b + b) * (b + b) = a + a + b then (a + a + b) / (b + b) else (a + a + b) / (b + b) - 1
theorem co_rounded (G : ZG) (l : Launch) (a b : Int64) (hb : ¬ b + b = 0) (E : ZE) (im : ZI) : zz_OPL G l 0 mX8_rounded [.long a, .long b] E im (zs_rd a b) := by
  refine zz_intro (isI := false) (by decide) rfl (Nat.le_of_ble_eq_true rfl) (fun h => by cases h) (fun w S => ?_)
  refine zz_lload_0 S dX8_rounded_0 (q := 1) rfl ?_
  refine zz_lload_0 S dX8_rounded_1 (q := 2) rfl ?_
  refine zz_ladd S dX8_rounded_2 (q := 3) rfl ?_
  refine zz_lload_2 S dX8_rounded_3 (q := 4) rfl ?_
  refine zz_ladd S dX8_rounded_4 (q := 5) rfl ?_
  refine zz_lstore_4 S rfl dX8_rounded_5 (q := 7) rfl ?_
  refine zz_lload_2 S dX8_rounded_7 (q := 8) rfl ?_
  refine zz_lload_2 S dX8_rounded_8 (q := 9) rfl ?_
  refine zz_ladd S dX8_rounded_9 (q := 10) rfl ?_
  refine zz_lstore_6 S rfl dX8_rounded_10 (q := 12) rfl ?_
  refine zz_lload_4 S dX8_rounded_12 (q := 14) rfl ?_
  refine zz_lload_6 S dX8_rounded_14 (q := 16) rfl ?_
  refine zz_ldiv S hb dX8_rounded_16 (q := 17) rfl ?_
  refine zz_lstore_8 S rfl dX8_rounded_17 (q := 19) rfl ?_
  refine zz_lload_4 S dX8_rounded_19 (q := 21) rfl ?_
  refine zz_lconst S (v := 0) rfl dX8_rounded_21 (q := 22) rfl ?_
  refine zz_lcmp S dX8_rounded_22 (q := 23) rfl ?_
  refine zz_if_ge S dX8_rounded_23 (t := 44) (by decide) (q := 26) rfl (fun h1 => ?_) (fun h1 => ?_)
  · refine zz_lload_8 S dX8_rounded_44 (q := 46) rfl ?_
    refine zz_lret S dX8_rounded_46 ⟨rfl, _, rfl, rfl, ?_⟩
    refine ⟨?_, rfl⟩
    rw [ge_iff_le, lg_cmp_ge] at h1
    unfold zs_rd
    first | rw [if_pos h1] | (rw [lg_cmp_eq] at h2; rw [if_neg h1, if_pos h2]) | (rw [lg_cmp_eq] at h2; rw [if_neg h1, if_neg h2])
  · refine zz_lload_8 S dX8_rounded_26 (q := 28) rfl ?_
    refine zz_lload_6 S dX8_rounded_28 (q := 30) rfl ?_
    refine zz_lmul S dX8_rounded_30 (q := 31) rfl ?_
    refine zz_lload_4 S dX8_rounded_31 (q := 33) rfl ?_
    refine zz_lcmp S dX8_rounded_33 (q := 34) rfl ?_
    refine zz_if_eq S dX8_rounded_34 (t := 44) (by decide) (q := 37) rfl (fun h2 => ?_) (fun h2 => ?_)
    · refine zz_lload_8 S dX8_rounded_44 (q := 46) rfl ?_
      refine zz_lret S dX8_rounded_46 ⟨rfl, _, rfl, rfl, ?_⟩
      refine ⟨?_, rfl⟩
      rw [ge_iff_le, lg_cmp_ge] at h1
      unfold zs_rd
      first | rw [if_pos h1] | (rw [lg_cmp_eq] at h2; rw [if_neg h1, if_pos h2]) | (rw [lg_cmp_eq] at h2; rw [if_neg h1, if_neg h2])
    · refine zz_lload_8 S dX8_rounded_37 (q := 39) rfl ?_
      refine zz_lconst S (v := 1) rfl dX8_rounded_39 (q := 40) rfl ?_
      refine zz_lsub S dX8_rounded_40 (q := 41) rfl ?_
      refine zz_goto S dX8_rounded_41 (t := 46) (by decide) ?_
      refine zz_lret S dX8_rounded_46 ⟨rfl, _, rfl, rfl, ?_⟩
      refine ⟨?_, rfl⟩
      rw [ge_iff_le, lg_cmp_ge] at h1
      unfold zs_rd
      first | rw [if_pos h1] | (rw [lg_cmp_eq] at h2; rw [if_neg h1, if_pos h2]) | (rw [lg_cmp_eq] at h2; rw [if_neg h1, if_neg h2])
def zs_abs (q : Int32) : Int32 := if q ≥ 0 then q else -q
def zs_prod (q : Int32) : Int64 := (zs_abs q).toInt64 * (720 - zs_abs q).toInt64
def zs_sine (q : Int32) : Int64 := if q ≥ 0 then zs_rd (40000 * zs_prod q) (648000 - zs_prod q) else -(zs_rd (40000 * zs_prod q) (648000 - zs_prod q))
/-- the reference's sine can be reckoned -/
def zs_ok (q : Int32) : Prop := ¬ (648000 - zs_prod q) + (648000 - zs_prod q) = 0
theorem co_sineOf (G : ZG) (l : Launch) (q : Int32) (hq : zs_ok q) (E : ZE) (im : ZI) : zz_OPL G l 1 mX8_sineOf [.int q] E im (zs_sine q) := by
  refine zz_intro (isI := false) (by decide) rfl (Nat.le_of_ble_eq_true rfl) (fun h => by cases h) (fun w S => ?_)
  refine zz_iload_0 S dX8_sineOf_0 (q := 1) rfl ?_
  refine zz_if_ge S dX8_sineOf_1 (t := 9) (by decide) (q := 4) rfl (fun h1 => ?_) (fun h1 => ?_)
  -- then 9 else 4
  · have e1 : zs_abs q = q := by simp only [zs_abs, if_pos h1]
    have e2 : zs_prod q = q.toInt64 * (720 - q).toInt64 := by simp only [zs_prod, e1]
    unfold zs_ok at hq
    rw [e2] at hq
    refine zz_iload_0 S dX8_sineOf_9 (q := 10) rfl ?_
    refine zz_istore_1 S rfl dX8_sineOf_10 (q := 11) rfl ?_
    refine zz_iload_1 S dX8_sineOf_11 (q := 12) rfl ?_
    refine zz_i2l S dX8_sineOf_12 (q := 13) rfl ?_
    refine zz_sipush S (v := 720) rfl dX8_sineOf_13 (q := 16) rfl ?_
    refine zz_iload_1 S dX8_sineOf_16 (q := 17) rfl ?_
    refine zz_isub S dX8_sineOf_17 (q := 18) rfl ?_
    refine zz_i2l S dX8_sineOf_18 (q := 19) rfl ?_
    refine zz_lmul S dX8_sineOf_19 (q := 20) rfl ?_
    refine zz_lstore_2 S rfl dX8_sineOf_20 (q := 21) rfl ?_
    refine zz_ldc2 S (v := 40000) kX8_42 dX8_sineOf_21 (q := 24) rfl ?_
    refine zz_lload_2 S dX8_sineOf_24 (q := 25) rfl ?_
    refine zz_lmul S dX8_sineOf_25 (q := 26) rfl ?_
    refine zz_ldc2 S (v := 648000) kX8_44 dX8_sineOf_26 (q := 29) rfl ?_
    refine zz_lload_2 S dX8_sineOf_29 (q := 30) rfl ?_
    refine zz_lsub S dX8_sineOf_30 (q := 31) rfl ?_
    refine zz_statPL S yy_X8_rounded lX8_46 (co_rounded G l (40000 * (q.toInt64 * (720 - q).toInt64)) (648000 - q.toInt64 * (720 - q).toInt64) hq E im) rfl (Nat.le_of_ble_eq_true rfl) (Nat.le_of_ble_eq_true rfl) rfl dX8_sineOf_31 (q := 34) rfl ?_
    refine zz_lstore_4 S rfl dX8_sineOf_34 (q := 36) rfl ?_
    refine zz_iload_0 S dX8_sineOf_36 (q := 37) rfl ?_
    refine zz_if_ge S dX8_sineOf_37 (t := 46) (by decide) (q := 40) rfl (fun k1 => ?_) (fun k1 => ?_)
    · refine zz_lload_4 S dX8_sineOf_46 (q := 48) rfl ?_
      refine zz_lret S dX8_sineOf_48 ⟨rfl, _, rfl, rfl, ?_⟩
      first | exact absurd h1 k1 | exact ⟨by rw [zs_sine, if_pos h1, e2], rfl⟩
    · refine zz_lload_4 S dX8_sineOf_40 (q := 42) rfl ?_
      refine zz_lneg S dX8_sineOf_42 (q := 43) rfl ?_
      refine zz_goto S dX8_sineOf_43 (t := 48) (by decide) ?_
      refine zz_lret S dX8_sineOf_48 ⟨rfl, _, rfl, rfl, ?_⟩
      first | exact absurd h1 k1 | exact ⟨by rw [zs_sine, if_pos h1, e2], rfl⟩
  · have e1 : zs_abs q = -q := by simp only [zs_abs, if_neg h1]
    have e2 : zs_prod q = (-q).toInt64 * (720 - -q).toInt64 := by simp only [zs_prod, e1]
    unfold zs_ok at hq
    rw [e2] at hq
    refine zz_iload_0 S dX8_sineOf_4 (q := 5) rfl ?_
    refine zz_ineg S dX8_sineOf_5 (q := 6) rfl ?_
    refine zz_goto S dX8_sineOf_6 (t := 10) (by decide) ?_
    refine zz_istore_1 S rfl dX8_sineOf_10 (q := 11) rfl ?_
    refine zz_iload_1 S dX8_sineOf_11 (q := 12) rfl ?_
    refine zz_i2l S dX8_sineOf_12 (q := 13) rfl ?_
    refine zz_sipush S (v := 720) rfl dX8_sineOf_13 (q := 16) rfl ?_
    refine zz_iload_1 S dX8_sineOf_16 (q := 17) rfl ?_
    refine zz_isub S dX8_sineOf_17 (q := 18) rfl ?_
    refine zz_i2l S dX8_sineOf_18 (q := 19) rfl ?_
    refine zz_lmul S dX8_sineOf_19 (q := 20) rfl ?_
    refine zz_lstore_2 S rfl dX8_sineOf_20 (q := 21) rfl ?_
    refine zz_ldc2 S (v := 40000) kX8_42 dX8_sineOf_21 (q := 24) rfl ?_
    refine zz_lload_2 S dX8_sineOf_24 (q := 25) rfl ?_
    refine zz_lmul S dX8_sineOf_25 (q := 26) rfl ?_
    refine zz_ldc2 S (v := 648000) kX8_44 dX8_sineOf_26 (q := 29) rfl ?_
    refine zz_lload_2 S dX8_sineOf_29 (q := 30) rfl ?_
    refine zz_lsub S dX8_sineOf_30 (q := 31) rfl ?_
    refine zz_statPL S yy_X8_rounded lX8_46 (co_rounded G l (40000 * ((-q).toInt64 * (720 - -q).toInt64)) (648000 - (-q).toInt64 * (720 - -q).toInt64) hq E im) rfl (Nat.le_of_ble_eq_true rfl) (Nat.le_of_ble_eq_true rfl) rfl dX8_sineOf_31 (q := 34) rfl ?_
    refine zz_lstore_4 S rfl dX8_sineOf_34 (q := 36) rfl ?_
    refine zz_iload_0 S dX8_sineOf_36 (q := 37) rfl ?_
    refine zz_if_ge S dX8_sineOf_37 (t := 46) (by decide) (q := 40) rfl (fun k1 => ?_) (fun k1 => ?_)
    · refine zz_lload_4 S dX8_sineOf_46 (q := 48) rfl ?_
      refine zz_lret S dX8_sineOf_48 ⟨rfl, _, rfl, rfl, ?_⟩
      first | exact absurd k1 h1 | exact ⟨by rw [zs_sine, if_neg h1, e2], rfl⟩
    · refine zz_lload_4 S dX8_sineOf_40 (q := 42) rfl ?_
      refine zz_lneg S dX8_sineOf_42 (q := 43) rfl ?_
      refine zz_goto S dX8_sineOf_43 (t := 48) (by decide) ?_
      refine zz_lret S dX8_sineOf_48 ⟨rfl, _, rfl, rfl, ?_⟩
      first | exact absurd k1 h1 | exact ⟨by rw [zs_sine, if_neg h1, e2], rfl⟩
theorem co_cosineOf (G : ZG) (l : Launch) (q : Int32) (hq : zs_ok (360 + q)) (E : ZE) (im : ZI) : zz_OPL G l 2 mX8_cosineOf [.int q] E im (zs_sine (360 + q)) := by
  refine zz_intro (isI := false) (by decide) rfl (Nat.le_of_ble_eq_true rfl) (fun h => by cases h) (fun w S => ?_)
  refine zz_sipush S (v := 360) rfl dX8_cosineOf_0 (q := 3) rfl ?_
  refine zz_iload_0 S dX8_cosineOf_3 (q := 4) rfl ?_
  refine zz_iadd S dX8_cosineOf_4 (q := 5) rfl ?_
  refine zz_statPL S yy_X8_sineOf lX8_50 (co_sineOf G l (360 + q) hq E im) rfl (Nat.le_of_ble_eq_true rfl) (Nat.le_of_ble_eq_true rfl) rfl dX8_cosineOf_5 (q := 8) rfl ?_
  refine zz_lret S dX8_cosineOf_8 ⟨rfl, _, rfl, rfl, ?_⟩
  exact ⟨rfl, rfl⟩
/-- side and front of the shadow -/
def zs_side (f v m : Int32) : Int64 := if v = 0 then zs_sine f * zs_sine m else 10000 * zs_sine (360 + f) * zs_sine m
def zs_front (f v d m : Int32) : Int64 := if v = 0 then 10000 * zs_sine (360 + m) else 10000 * zs_sine (360 + d) * zs_sine (360 + m) + zs_sine d * zs_sine f * zs_sine m
theorem co_sideOf (G : ZG) (l : Launch) (f v m : Int32) (h1 : zs_ok f) (h2 : zs_ok (360 + f)) (h3 : zs_ok m) (E : ZE) (im : ZI) : zz_OPL G l 3 mX8_sideOf [.int f, .int v, .int m] E im (zs_side f v m) := by
  refine zz_intro (isI := false) (by decide) rfl (Nat.le_of_ble_eq_true rfl) (fun h => by cases h) (fun w S => ?_)
  refine zz_iload_1 S dX8_sideOf_0 (q := 1) rfl ?_
  refine zz_if_eq S dX8_sideOf_1 (t := 20) (by decide) (q := 4) rfl (fun k1 => ?_) (fun k1 => ?_)
  · refine zz_iload_0 S dX8_sideOf_20 (q := 21) rfl ?_
    refine zz_statPL S yy_X8_sineOf lX8_50 (co_sineOf G l f h1 E im) rfl (Nat.le_of_ble_eq_true rfl) (Nat.le_of_ble_eq_true rfl) rfl dX8_sideOf_21 (q := 24) rfl ?_
    refine zz_iload_2 S dX8_sideOf_24 (q := 25) rfl ?_
    refine zz_statPL S yy_X8_sineOf lX8_50 (co_sineOf G l m h3 E im) rfl (Nat.le_of_ble_eq_true rfl) (Nat.le_of_ble_eq_true rfl) rfl dX8_sideOf_25 (q := 28) rfl ?_
    refine zz_lmul S dX8_sideOf_28 (q := 29) rfl ?_
    refine zz_lret S dX8_sideOf_29 ⟨rfl, _, rfl, rfl, ?_⟩
    exact ⟨by simp [zs_side, k1], rfl⟩
  · refine zz_ldc2 S (v := 10000) kX8_54 dX8_sideOf_4 (q := 7) rfl ?_
    refine zz_iload_0 S dX8_sideOf_7 (q := 8) rfl ?_
    refine zz_statPL S yy_X8_cosineOf lX8_56 (co_cosineOf G l f h2 E im) rfl (Nat.le_of_ble_eq_true rfl) (Nat.le_of_ble_eq_true rfl) rfl dX8_sideOf_8 (q := 11) rfl ?_
    refine zz_lmul S dX8_sideOf_11 (q := 12) rfl ?_
    refine zz_iload_2 S dX8_sideOf_12 (q := 13) rfl ?_
    refine zz_statPL S yy_X8_sineOf lX8_50 (co_sineOf G l m h3 E im) rfl (Nat.le_of_ble_eq_true rfl) (Nat.le_of_ble_eq_true rfl) rfl dX8_sideOf_13 (q := 16) rfl ?_
    refine zz_lmul S dX8_sideOf_16 (q := 17) rfl ?_
    refine zz_goto S dX8_sideOf_17 (t := 29) (by decide) ?_
    refine zz_lret S dX8_sideOf_29 ⟨rfl, _, rfl, rfl, ?_⟩
    exact ⟨by simp [zs_side, k1], rfl⟩
theorem co_frontOf (G : ZG) (l : Launch) (f v d m : Int32) (h1 : zs_ok f) (h2 : zs_ok (360 + d)) (h3 : zs_ok m) (h4 : zs_ok (360 + m)) (h5 : zs_ok d) (E : ZE) (im : ZI) : zz_OPL G l 3 mX8_frontOf [.int f, .int v, .int d, .int m] E im (zs_front f v d m) := by
  refine zz_intro (isI := false) (by decide) rfl (Nat.le_of_ble_eq_true rfl) (fun h => by cases h) (fun w S => ?_)
  refine zz_iload_1 S dX8_frontOf_0 (q := 1) rfl ?_
  refine zz_if_eq S dX8_frontOf_1 (t := 35) (by decide) (q := 4) rfl (fun k1 => ?_) (fun k1 => ?_)
  · refine zz_ldc2 S (v := 10000) kX8_54 dX8_frontOf_35 (q := 38) rfl ?_
    refine zz_iload_3 S dX8_frontOf_38 (q := 39) rfl ?_
    refine zz_statPL S yy_X8_cosineOf lX8_56 (co_cosineOf G l m h4 E im) rfl (Nat.le_of_ble_eq_true rfl) (Nat.le_of_ble_eq_true rfl) rfl dX8_frontOf_39 (q := 42) rfl ?_
    refine zz_lmul S dX8_frontOf_42 (q := 43) rfl ?_
    refine zz_lret S dX8_frontOf_43 ⟨rfl, _, rfl, rfl, ?_⟩
    exact ⟨by simp [zs_front, k1], rfl⟩
  · refine zz_ldc2 S (v := 10000) kX8_54 dX8_frontOf_4 (q := 7) rfl ?_
    refine zz_iload_2 S dX8_frontOf_7 (q := 8) rfl ?_
    refine zz_statPL S yy_X8_cosineOf lX8_56 (co_cosineOf G l d h2 E im) rfl (Nat.le_of_ble_eq_true rfl) (Nat.le_of_ble_eq_true rfl) rfl dX8_frontOf_8 (q := 11) rfl ?_
    refine zz_lmul S dX8_frontOf_11 (q := 12) rfl ?_
    refine zz_iload_3 S dX8_frontOf_12 (q := 13) rfl ?_
    refine zz_statPL S yy_X8_cosineOf lX8_56 (co_cosineOf G l m h4 E im) rfl (Nat.le_of_ble_eq_true rfl) (Nat.le_of_ble_eq_true rfl) rfl dX8_frontOf_13 (q := 16) rfl ?_
    refine zz_lmul S dX8_frontOf_16 (q := 17) rfl ?_
    refine zz_iload_2 S dX8_frontOf_17 (q := 18) rfl ?_
    refine zz_statPL S yy_X8_sineOf lX8_50 (co_sineOf G l d h5 E im) rfl (Nat.le_of_ble_eq_true rfl) (Nat.le_of_ble_eq_true rfl) rfl dX8_frontOf_18 (q := 21) rfl ?_
    refine zz_iload_0 S dX8_frontOf_21 (q := 22) rfl ?_
    refine zz_statPL S yy_X8_sineOf lX8_50 (co_sineOf G l f h1 E im) rfl (Nat.le_of_ble_eq_true rfl) (Nat.le_of_ble_eq_true rfl) rfl dX8_frontOf_22 (q := 25) rfl ?_
    refine zz_lmul S dX8_frontOf_25 (q := 26) rfl ?_
    refine zz_iload_3 S dX8_frontOf_26 (q := 27) rfl ?_
    refine zz_statPL S yy_X8_sineOf lX8_50 (co_sineOf G l m h3 E im) rfl (Nat.le_of_ble_eq_true rfl) (Nat.le_of_ble_eq_true rfl) rfl dX8_frontOf_27 (q := 30) rfl ?_
    refine zz_lmul S dX8_frontOf_30 (q := 31) rfl ?_
    refine zz_ladd S dX8_frontOf_31 (q := 32) rfl ?_
    refine zz_goto S dX8_frontOf_32 (t := 43) (by decide) ?_
    refine zz_lret S dX8_frontOf_43 ⟨rfl, _, rfl, rfl, ?_⟩
    exact ⟨by simp [zs_front, k1], rfl⟩
end
section
/-! THE REFERENCE: dials -/
theorem zs_okq {q : Int32} (h1 : -720 ≤ q.toInt) (h2 : q.toInt ≤ 720) : zs_ok q := by
  have key : ∀ i, i < 1441 → ¬ (648000 - zs_prod (nI i + (-720))) + (648000 - zs_prod (nI i + (-720))) = 0 := by
    have h : (List.range 1441).all (fun i => decide (¬ (648000 - zs_prod (nI i + (-720))) + (648000 - zs_prod (nI i + (-720))) = 0)) = true := by decide +kernel
    intro i hi
    have h9 := List.all_eq_true.mp h i (List.mem_range.mpr hi)
    exact of_decide_eq_true h9
  have e : q = nI (q.toInt + 720).toNat + (-720) := by
    apply Int32.toInt_inj.mp
    rw [Int32.toInt_add, nI_toInt (by omega), show ((-720 : Int32)).toInt = -720 from rfl, Int.bmod_eq_of_le (by omega) (by omega)]
    omega
  have h := key (q.toInt + 720).toNat (by omega)
  rw [← e] at h
  exact h
/-- the offset at a time, where it is on the dial -/
def zs_off (f v d m : Int32) : Int64 := zs_rd (1000 * zs_side f v m) (zs_front f v d m)
def zs_on (f v d m : Int32) : Prop := 0 < zs_front f v d m ∧ -3000 ≤ zs_off f v d m ∧ zs_off f v d m ≤ 3000
/-- a dial: the offset at each place, -100009 where there is none -/
def zs_dial (f v d : Int32) (i : Nat) : Int32 := if 0 < zs_front f v d (zs_t i) ∧ -3000 ≤ zs_off f v d (zs_t i) ∧ zs_off f v d (zs_t i) ≤ 3000 then (zs_off f v d (zs_t i)).toInt32 else -100009
theorem zs_i32 {x : Int64} (h1 : -3000 ≤ x) (h2 : x ≤ 3000) : (x.toInt32).toInt = x.toInt ∧ -3000 ≤ x.toInt ∧ x.toInt ≤ 3000 := by
  have a1 : -3000 ≤ x.toInt := by have := Int64.le_iff_toInt_le.mp h1; simpa using this
  have a2 : x.toInt ≤ 3000 := by have := Int64.le_iff_toInt_le.mp h2; simpa using this
  refine ⟨?_, a1, a2⟩
  rw [Int64.toInt_toInt32, Int.bmod_eq_of_le (by omega) (by omega)]
theorem zs_dial_on {f v d : Int32} {i : Nat} (h : 0 < zs_front f v d (zs_t i) ∧ -3000 ≤ zs_off f v d (zs_t i) ∧ zs_off f v d (zs_t i) ≤ 3000) : zs_dial f v d i = (zs_off f v d (zs_t i)).toInt32 ∧ zs_dial f v d i ≠ -100009 ∧ -3000 ≤ (zs_dial f v d i).toInt ∧ (zs_dial f v d i).toInt ≤ 3000 := by
  have e : zs_dial f v d i = (zs_off f v d (zs_t i)).toInt32 := by unfold zs_dial; rw [if_pos h]
  obtain ⟨h1, h2, h3⟩ := zs_i32 h.2.1 h.2.2
  rw [e]
  refine ⟨rfl, fun q => ?_, by omega, by omega⟩
  rw [q] at h1
  have : ((-100009 : Int32)).toInt = -100009 := rfl
  omega
/-- what offsets a dial may have -/
def zs_fine (c : Nat → Int32) : Prop := ∀ i, c i ≠ -100009 → -3000 ≤ (c i).toInt ∧ (c i).toInt ≤ 3000
theorem zs_dial_fine (f v d : Int32) : zs_fine (zs_dial f v d) := by
  intro i h
  by_cases hc : 0 < zs_front f v d (zs_t i) ∧ -3000 ≤ zs_off f v d (zs_t i) ∧ zs_off f v d (zs_t i) ≤ 3000
  · exact (zs_dial_on hc).2.2
  · exact absurd (by unfold zs_dial; rw [if_neg hc]) h
/-- the reference holds the dial c -/
def zm_at (im : ZI) (c : Nat → Int32) (i : Nat) : Prop := im 477 i = (if c i = -100009 then 0 else 1) ∧ im 476 i = (if c i = -100009 then 0 else c i)
def zm_dial (im : ZI) (c : Nat → Int32) : Prop := ∀ i, i < 721 → zm_at im c i
/-- what a method leaves as it was, but for some rows -/
def zz_keep (ks : List Nat) (im im' : ZI) : Prop := ∀ k, k ∉ ks → im' k = im k
theorem zz_keep.rf {ks : List Nat} {im : ZI} : zz_keep ks im im := fun _ _ => rfl
theorem zz_keep.u {ks : List Nat} {im im' : ZI} (h : zz_keep ks im im') {k j : Nat} {v : Int32} (hk : k ∈ ks) : zz_keep ks im (zz_u im' k j v) := fun q hq => by
  rw [zz_u_off _ _ _ _ (fun e => hq (by rw [e]; exact hk))]
  exact h q hq
theorem zz_keep.tr {ks ks' : List Nat} {im im1 im2 : ZI} (h1 : zz_keep ks im im1) (h2 : zz_keep ks' im1 im2) (hs : ∀ k, k ∈ ks' → k ∈ ks) : zz_keep ks im im2 := fun k hk => (h2 k (fun h => hk (hs k h))).trans (h1 k hk)
theorem zz_keep.le {ks ks' : List Nat} {im im1 : ZI} (h1 : zz_keep ks im im1) (hs : ∀ k, k ∈ ks → k ∈ ks') : zz_keep ks' im im1 := fun k hk => h1 k (fun h => hk (hs k h))
theorem zs_two {b : Int64} (h : 0 < b) : ¬ b + b = 0 := by
  intro e
  have h1 := congrArg Int64.toInt e
  rw [Int64.toInt_add] at h1
  have h2 : b.toInt < 2 ^ 63 := Int64.toInt_lt b
  have h3 : 0 < b.toInt := by have := Int64.lt_iff_toInt_lt.mp h; simpa using this
  have h4 : (0 : Int64).toInt = 0 := rfl
  rw [h4] at h1
  unfold Int.bmod at h1
  simp only at h1
  split at h1 <;> omega
section ZRECK
variable {G : ZG} {l : Launch}
set_option maxHeartbeats 4000000 in
theorem lo_reckon {n0 mcT msT : Nat} {isI : Bool} {Qf : Option Value → ZE → ZI → Prop} {w : Nat → ZL → List Value → Nat → ZE → ZI → Prop} {lat v dec : Int32} {z : Nat} {im0 : ZI} (S : zz_S G l RX8 cX8_reckon 12 4 n0 mcT msT isI none Qf w)
    (h1 : zs_ok (4 * lat)) (h2 : zs_ok (360 + 4 * lat)) (h3 : zs_ok (4 * dec)) (h4 : zs_ok (360 + 4 * dec))
    (hQ : ∀ im', zm_dial im' (zs_dial (4 * lat) v (4 * dec)) → zz_keep [476, 477] im0 im' → Qf none zE im') :
    ∀ (n i : Nat) (x : Int32) (im : ZI), i + n = 721 → x = zs_t i → (∀ j, j < i → zm_at im (zs_dial (4 * lat) v (4 * dec)) j) → zz_keep [476, 477] im0 im →
      w 15 [some (.ref 470), some (.int lat), some (.int v), some (.int dec), some (.int (4 * lat)), some (.int (4 * dec)), some (.int x), none, none, none, none, none] [] z zE im := by
  intro n
  induction n with
  | zero =>
    intro i x im hi hx hc hk
    have hi : i = 721 := by omega
    subst hi
    have hx1 := zs_t_i (i := 721) (by omega)
    refine zz_iload_6 S dX8_reckon_15 (q := 17) rfl ?_
    refine zz_sipush S (v := 360) rfl dX8_reckon_17 (q := 20) rfl ?_
    refine zz_icmp_gt S dX8_reckon_20 (t := 139) (by decide) (q := 23) rfl (fun a1 => ?_) (fun a1 => ?_)
    -- then 139 else 23
    · exact zz_vret S dX8_reckon_139 (hQ im hc hk)
    · exact absurd (by rw [hx, gt_iff_lt, Int32.lt_iff_toInt_lt, hx1]; decide) a1
  | succ n ih =>
    intro i x im hi hx hc hk
    have hx1 := zs_t_i (i := i) (by omega)
    have ht : zs_ok x := by rw [hx]; exact zs_okq (by omega) (by omega)
    have ht2 : zs_ok (360 + x) := by
      have e : 360 + x = nI i := by rw [hx, Int32.add_comm]; exact zs_t_ix i
      rw [e]
      exact zs_okq (by rw [nI_toInt (by omega)]; omega) (by rw [nI_toInt (by omega)]; omega)
    have hix : x + 360 = nI i := by rw [hx]; exact zs_t_ix i
    have hnx : x + Int32.ofInt 1 = zs_t (i + 1) := by rw [hx]; exact zs_t_add i 1
    -- the next round
    have step : ∀ (b o : Int32) (u1 u2 u3 u4 u5 : Option Value), b = (if zs_dial (4 * lat) v (4 * dec) i = -100009 then 0 else 1) → o = (if zs_dial (4 * lat) v (4 * dec) i = -100009 then 0 else zs_dial (4 * lat) v (4 * dec) i) →
        w 15 [some (.ref 470), some (.int lat), some (.int v), some (.int dec), some (.int (4 * lat)), some (.int (4 * dec)), some (.int (x + Int32.ofInt 1)), u1, u2, u3, u4, u5] [] z zE (zz_u (zz_u im 477 i b) 476 i o) := by
      intro b o u1 u2 u3 u4 u5 hb ho
      refine zz_msk S [true, true, true, true, true, true, true, false, false, false, false, false] ?_
      refine ih (i + 1) _ _ (by omega) hnx (fun j hj => ?_) ((hk.u (by simp)).u (by simp))
      by_cases hji : j = i
      · subst hji
        exact ⟨by rw [zz_u_n _ _ (by simp), zz_u_e, hb], by rw [zz_u_e, ho]⟩
      · have := hc j (by omega)
        exact ⟨by rw [zz_u_n _ _ (by simp), zz_u_n _ _ (by omega)]; exact this.1, by rw [zz_u_n _ _ (by omega), zz_u_n _ _ (by simp)]; exact this.2⟩
    have off : ¬ (0 < zs_front (4 * lat) v (4 * dec) x ∧ -3000 ≤ zs_off (4 * lat) v (4 * dec) x ∧ zs_off (4 * lat) v (4 * dec) x ≤ 3000) → zs_dial (4 * lat) v (4 * dec) i = -100009 := fun h => by
      unfold zs_dial
      rw [← hx, if_neg h]
    have nar0 : vp_nar .boolean 0 = 0 := rfl
    have nar1 : vp_nar .boolean 1 = 1 := rfl
    refine zz_iload_6 S dX8_reckon_15 (q := 17) rfl ?_
    refine zz_sipush S (v := 360) rfl dX8_reckon_17 (q := 20) rfl ?_
    refine zz_icmp_gt S dX8_reckon_20 (t := 139) (by decide) (q := 23) rfl (fun a1 => ?_) (fun a1 => ?_)
    -- then 139 else 23
    · exact absurd a1 (by rw [hx, gt_iff_lt, Int32.lt_iff_toInt_lt, hx1]; show ¬ (360 : Int) < _; omega)
    · refine zz_iload_4 S dX8_reckon_23 (q := 25) rfl ?_
      refine zz_iload_2 S dX8_reckon_25 (q := 26) rfl ?_
      refine zz_iload_5 S dX8_reckon_26 (q := 28) rfl ?_
      refine zz_iload_6 S dX8_reckon_28 (q := 30) rfl ?_
      -- at 30: invokestatic 59
      refine zz_statPL S yy_X8_frontOf lX8_59 (co_frontOf G l (4 * lat) v (4 * dec) x h1 h4 ht ht2 h3 zE im) rfl (Nat.le_of_ble_eq_true rfl) (Nat.le_of_ble_eq_true rfl) rfl dX8_reckon_30 (q := 33) rfl ?_
      refine zz_lstore_7 S rfl dX8_reckon_33 (q := 35) rfl ?_
      refine zz_lload_7 S dX8_reckon_35 (q := 37) rfl ?_
      refine zz_lconst S (v := 0) rfl dX8_reckon_37 (q := 38) rfl ?_
      refine zz_lcmp S dX8_reckon_38 (q := 39) rfl ?_
      refine zz_if_le S dX8_reckon_39 (t := 62) (by decide) (q := 42) rfl (fun a2 => ?_) (fun a2 => ?_)
      -- then 62 else 42
      · have a2' : ¬ 0 < zs_front (4 * lat) v (4 * dec) x := by
          have := (lg_cmp_le _ _).mp a2
          intro h
          rw [Int64.lt_iff_toInt_lt] at h
          rw [Int64.le_iff_toInt_le] at this
          omega
        have e0 := off (fun h => a2' h.1)
        refine zz_lconst S (v := 0) rfl dX8_reckon_62 (q := 63) rfl ?_
        refine zz_lstore_9 S rfl dX8_reckon_63 (q := 65) rfl ?_
        refine zz_lload_7 S dX8_reckon_65 (q := 67) rfl ?_
        refine zz_lconst S (v := 0) rfl dX8_reckon_67 (q := 68) rfl ?_
        refine zz_lcmp S dX8_reckon_68 (q := 69) rfl ?_
        refine zz_if_le S dX8_reckon_69 (t := 94) (by decide) (q := 72) rfl (fun a3 => ?_) (fun a3 => ?_)
        -- then 94 else 72
        · refine zz_iconst S (v := 0) rfl dX8_reckon_94 (q := 95) rfl ?_
          -- at 95
          refine zz_istore_11 S rfl dX8_reckon_95 (q := 97) rfl ?_
          refine zz_aload_0 S dX8_reckon_97 (q := 98) rfl ?_
          refine zz_getR S fX8_28 rfl (Nat.le_of_ble_eq_true rfl) rfl rfl dX8_reckon_98 (q := 101) rfl ?_
          refine zz_iload_6 S dX8_reckon_101 (q := 103) rfl ?_
          refine zz_sipush S (v := 360) rfl dX8_reckon_103 (q := 106) rfl ?_
          refine zz_iadd S dX8_reckon_106 (q := 107) rfl ?_
          refine zz_iload_11 S dX8_reckon_107 (q := 109) rfl ?_
          refine zz_zaS S (j := i) (Nat.le_of_ble_eq_true rfl) rfl (Nat.le_of_ble_eq_true rfl) hix (by omega) dX8_reckon_109 (q := 110) rfl ?_
          refine zz_aload_0 S dX8_reckon_110 (q := 111) rfl ?_
          refine zz_getR S fX8_25 rfl (Nat.le_of_ble_eq_true rfl) rfl rfl dX8_reckon_111 (q := 114) rfl ?_
          refine zz_iload_6 S dX8_reckon_114 (q := 116) rfl ?_
          refine zz_sipush S (v := 360) rfl dX8_reckon_116 (q := 119) rfl ?_
          refine zz_iadd S dX8_reckon_119 (q := 120) rfl ?_
          refine zz_iload_11 S dX8_reckon_120 (q := 122) rfl ?_
          refine zz_if_eq S dX8_reckon_122 (t := 131) (by decide) (q := 125) rfl (fun a4 => ?_) (fun a4 => ?_)
          -- then 131 else 125
          · refine zz_iconst S (v := 0) rfl dX8_reckon_131 (q := 132) rfl ?_
            refine zz_iaS S (j := i) (Nat.le_of_ble_eq_true rfl) rfl (Nat.le_of_ble_eq_true rfl) hix (by omega) dX8_reckon_132 (q := 133) rfl ?_
            refine zz_iinc_6 S rfl dX8_reckon_133 (q := 136) rfl ?_
            refine zz_goto S dX8_reckon_136 (t := 15) (by decide) ?_
            -- at 15
            exact step 0 0 _ _ _ _ _ (by rw [if_pos e0]) (by rw [if_pos e0])
          · exact absurd rfl a4
        · exact absurd a2 a3
      · have a2' : 0 < zs_front (4 * lat) v (4 * dec) x := by
          have a2b : ¬ lg_cmp (zs_front (4 * lat) v (4 * dec) x) 0 ≤ 0 := a2
          rw [lg_cmp_le] at a2b
          rw [Int64.lt_iff_toInt_lt]
          rw [Int64.le_iff_toInt_le] at a2b
          omega
        refine zz_ldc2 S (v := 1000) kX8_63 dX8_reckon_42 (q := 45) rfl ?_
        refine zz_iload_4 S dX8_reckon_45 (q := 47) rfl ?_
        refine zz_iload_2 S dX8_reckon_47 (q := 48) rfl ?_
        refine zz_iload_6 S dX8_reckon_48 (q := 50) rfl ?_
        -- at 50: invokestatic 65
        refine zz_statPL S yy_X8_sideOf lX8_65 (co_sideOf G l (4 * lat) v x h1 h2 ht zE im) rfl (Nat.le_of_ble_eq_true rfl) (Nat.le_of_ble_eq_true rfl) rfl dX8_reckon_50 (q := 53) rfl ?_
        refine zz_lmul S dX8_reckon_53 (q := 54) rfl ?_
        refine zz_lload_7 S dX8_reckon_54 (q := 56) rfl ?_
        -- at 56: invokestatic 46
        refine zz_statPL S yy_X8_rounded lX8_46 (co_rounded G l (1000 * zs_side (4 * lat) v x) (zs_front (4 * lat) v (4 * dec) x) (zs_two a2') zE im) rfl (Nat.le_of_ble_eq_true rfl) (Nat.le_of_ble_eq_true rfl) rfl dX8_reckon_56 (q := 59) rfl ?_
        refine zz_goto S dX8_reckon_59 (t := 63) (by decide) ?_
        refine zz_lstore_9 S rfl dX8_reckon_63 (q := 65) rfl ?_
        refine zz_lload_7 S dX8_reckon_65 (q := 67) rfl ?_
        refine zz_lconst S (v := 0) rfl dX8_reckon_67 (q := 68) rfl ?_
        refine zz_lcmp S dX8_reckon_68 (q := 69) rfl ?_
        refine zz_if_le S dX8_reckon_69 (t := 94) (by decide) (q := 72) rfl (fun a3 => ?_) (fun a3 => ?_)
        -- then 94 else 72
        · exact absurd a3 a2
        · refine zz_lload_9 S dX8_reckon_72 (q := 74) rfl ?_
          refine zz_ldc2 S (v := (-3000)) kX8_69 dX8_reckon_74 (q := 77) rfl ?_
          refine zz_lcmp S dX8_reckon_77 (q := 78) rfl ?_
          refine zz_if_lt S dX8_reckon_78 (t := 94) (by decide) (q := 81) rfl (fun a4 => ?_) (fun a4 => ?_)
          -- then 94 else 81
          · have e0 := off (fun h => by
              have b1 := (lg_cmp_lt _ _).mp a4
              have b2 := h.2.1
              rw [Int64.lt_iff_toInt_lt] at b1
              rw [Int64.le_iff_toInt_le] at b2
              exact absurd b2 (Int.not_le.mpr b1))
            refine zz_iconst S (v := 0) rfl dX8_reckon_94 (q := 95) rfl ?_
            refine zz_istore_11 S rfl dX8_reckon_95 (q := 97) rfl ?_
            refine zz_aload_0 S dX8_reckon_97 (q := 98) rfl ?_
            refine zz_getR S fX8_28 rfl (Nat.le_of_ble_eq_true rfl) rfl rfl dX8_reckon_98 (q := 101) rfl ?_
            refine zz_iload_6 S dX8_reckon_101 (q := 103) rfl ?_
            refine zz_sipush S (v := 360) rfl dX8_reckon_103 (q := 106) rfl ?_
            refine zz_iadd S dX8_reckon_106 (q := 107) rfl ?_
            refine zz_iload_11 S dX8_reckon_107 (q := 109) rfl ?_
            refine zz_zaS S (j := i) (Nat.le_of_ble_eq_true rfl) rfl (Nat.le_of_ble_eq_true rfl) hix (by omega) dX8_reckon_109 (q := 110) rfl ?_
            refine zz_aload_0 S dX8_reckon_110 (q := 111) rfl ?_
            refine zz_getR S fX8_25 rfl (Nat.le_of_ble_eq_true rfl) rfl rfl dX8_reckon_111 (q := 114) rfl ?_
            refine zz_iload_6 S dX8_reckon_114 (q := 116) rfl ?_
            refine zz_sipush S (v := 360) rfl dX8_reckon_116 (q := 119) rfl ?_
            refine zz_iadd S dX8_reckon_119 (q := 120) rfl ?_
            refine zz_iload_11 S dX8_reckon_120 (q := 122) rfl ?_
            refine zz_if_eq S dX8_reckon_122 (t := 131) (by decide) (q := 125) rfl (fun a5 => ?_) (fun a5 => ?_)
            -- then 131 else 125
            · refine zz_iconst S (v := 0) rfl dX8_reckon_131 (q := 132) rfl ?_
              refine zz_iaS S (j := i) (Nat.le_of_ble_eq_true rfl) rfl (Nat.le_of_ble_eq_true rfl) hix (by omega) dX8_reckon_132 (q := 133) rfl ?_
              refine zz_iinc_6 S rfl dX8_reckon_133 (q := 136) rfl ?_
              refine zz_goto S dX8_reckon_136 (t := 15) (by decide) ?_
              -- at 15
              exact step 0 0 _ _ _ _ _ (by rw [if_pos e0]) (by rw [if_pos e0])
            · exact absurd rfl a5
          · refine zz_lload_9 S dX8_reckon_81 (q := 83) rfl ?_
            refine zz_ldc2 S (v := 3000) kX8_71 dX8_reckon_83 (q := 86) rfl ?_
            refine zz_lcmp S dX8_reckon_86 (q := 87) rfl ?_
            refine zz_if_gt S dX8_reckon_87 (t := 94) (by decide) (q := 90) rfl (fun a5 => ?_) (fun a5 => ?_)
            -- then 94 else 90
            · have e0 := off (fun h => by
                have b1 := (lg_cmp_gt _ _).mp a5
                have b2 := h.2.2
                rw [Int64.lt_iff_toInt_lt] at b1
                rw [Int64.le_iff_toInt_le] at b2
                exact absurd b2 (Int.not_le.mpr b1))
              refine zz_iconst S (v := 0) rfl dX8_reckon_94 (q := 95) rfl ?_
              refine zz_istore_11 S rfl dX8_reckon_95 (q := 97) rfl ?_
              refine zz_aload_0 S dX8_reckon_97 (q := 98) rfl ?_
              refine zz_getR S fX8_28 rfl (Nat.le_of_ble_eq_true rfl) rfl rfl dX8_reckon_98 (q := 101) rfl ?_
              refine zz_iload_6 S dX8_reckon_101 (q := 103) rfl ?_
              refine zz_sipush S (v := 360) rfl dX8_reckon_103 (q := 106) rfl ?_
              refine zz_iadd S dX8_reckon_106 (q := 107) rfl ?_
              refine zz_iload_11 S dX8_reckon_107 (q := 109) rfl ?_
              refine zz_zaS S (j := i) (Nat.le_of_ble_eq_true rfl) rfl (Nat.le_of_ble_eq_true rfl) hix (by omega) dX8_reckon_109 (q := 110) rfl ?_
              refine zz_aload_0 S dX8_reckon_110 (q := 111) rfl ?_
              refine zz_getR S fX8_25 rfl (Nat.le_of_ble_eq_true rfl) rfl rfl dX8_reckon_111 (q := 114) rfl ?_
              refine zz_iload_6 S dX8_reckon_114 (q := 116) rfl ?_
              refine zz_sipush S (v := 360) rfl dX8_reckon_116 (q := 119) rfl ?_
              refine zz_iadd S dX8_reckon_119 (q := 120) rfl ?_
              refine zz_iload_11 S dX8_reckon_120 (q := 122) rfl ?_
              refine zz_if_eq S dX8_reckon_122 (t := 131) (by decide) (q := 125) rfl (fun a6 => ?_) (fun a6 => ?_)
              -- then 131 else 125
              · refine zz_iconst S (v := 0) rfl dX8_reckon_131 (q := 132) rfl ?_
                refine zz_iaS S (j := i) (Nat.le_of_ble_eq_true rfl) rfl (Nat.le_of_ble_eq_true rfl) hix (by omega) dX8_reckon_132 (q := 133) rfl ?_
                refine zz_iinc_6 S rfl dX8_reckon_133 (q := 136) rfl ?_
                refine zz_goto S dX8_reckon_136 (t := 15) (by decide) ?_
                -- at 15
                exact step 0 0 _ _ _ _ _ (by rw [if_pos e0]) (by rw [if_pos e0])
              · exact absurd rfl a6
            · have hon : 0 < zs_front (4 * lat) v (4 * dec) (zs_t i) ∧ -3000 ≤ zs_off (4 * lat) v (4 * dec) (zs_t i) ∧ zs_off (4 * lat) v (4 * dec) (zs_t i) ≤ 3000 := by
                rw [← hx]
                refine ⟨a2', ?_, ?_⟩
                · have b1 := mt (lg_cmp_lt _ _).mpr a4
                  rw [Int64.lt_iff_toInt_lt] at b1
                  rw [Int64.le_iff_toInt_le]
                  exact Int.not_lt.mp b1
                · have b1 := mt (lg_cmp_gt _ _).mpr a5
                  rw [Int64.lt_iff_toInt_lt] at b1
                  rw [Int64.le_iff_toInt_le]
                  exact Int.not_lt.mp b1
              obtain ⟨e0, e1, -⟩ := zs_dial_on hon
              refine zz_iconst S (v := 1) rfl dX8_reckon_90 (q := 91) rfl ?_
              refine zz_goto S dX8_reckon_91 (t := 95) (by decide) ?_
              refine zz_istore_11 S rfl dX8_reckon_95 (q := 97) rfl ?_
              refine zz_aload_0 S dX8_reckon_97 (q := 98) rfl ?_
              refine zz_getR S fX8_28 rfl (Nat.le_of_ble_eq_true rfl) rfl rfl dX8_reckon_98 (q := 101) rfl ?_
              refine zz_iload_6 S dX8_reckon_101 (q := 103) rfl ?_
              refine zz_sipush S (v := 360) rfl dX8_reckon_103 (q := 106) rfl ?_
              refine zz_iadd S dX8_reckon_106 (q := 107) rfl ?_
              refine zz_iload_11 S dX8_reckon_107 (q := 109) rfl ?_
              refine zz_zaS S (j := i) (Nat.le_of_ble_eq_true rfl) rfl (Nat.le_of_ble_eq_true rfl) hix (by omega) dX8_reckon_109 (q := 110) rfl ?_
              refine zz_aload_0 S dX8_reckon_110 (q := 111) rfl ?_
              refine zz_getR S fX8_25 rfl (Nat.le_of_ble_eq_true rfl) rfl rfl dX8_reckon_111 (q := 114) rfl ?_
              refine zz_iload_6 S dX8_reckon_114 (q := 116) rfl ?_
              refine zz_sipush S (v := 360) rfl dX8_reckon_116 (q := 119) rfl ?_
              refine zz_iadd S dX8_reckon_119 (q := 120) rfl ?_
              refine zz_iload_11 S dX8_reckon_120 (q := 122) rfl ?_
              refine zz_if_eq S dX8_reckon_122 (t := 131) (by decide) (q := 125) rfl (fun a6 => ?_) (fun a6 => ?_)
              -- then 131 else 125
              · exact absurd a6 (by decide)
              · refine zz_lload_9 S dX8_reckon_125 (q := 127) rfl ?_
                refine zz_l2i S dX8_reckon_127 (q := 128) rfl ?_
                refine zz_goto S dX8_reckon_128 (t := 132) (by decide) ?_
                refine zz_iaS S (j := i) (Nat.le_of_ble_eq_true rfl) rfl (Nat.le_of_ble_eq_true rfl) hix (by omega) dX8_reckon_132 (q := 133) rfl ?_
                refine zz_iinc_6 S rfl dX8_reckon_133 (q := 136) rfl ?_
                refine zz_goto S dX8_reckon_136 (t := 15) (by decide) ?_
                -- at 15
                exact step 1 _ _ _ _ _ _ (by rw [if_neg e1]) (by rw [if_neg e1, e0, ← hx]; rfl)
theorem co_reckon (lat v dec : Int32) (h1 : zs_ok (4 * lat)) (h2 : zs_ok (360 + 4 * lat)) (h3 : zs_ok (4 * dec)) (h4 : zs_ok (360 + 4 * dec)) (im : ZI) :
    zz_OV G l 4 mX8_reckon [.ref 470, .int lat, .int v, .int dec] zE im (fun im' => zm_dial im' (zs_dial (4 * lat) v (4 * dec)) ∧ zz_keep [476, 477] im im') := by
  refine zz_intro (isI := false) (by decide) rfl (Nat.le_of_ble_eq_true rfl) (fun h => by cases h) (fun w S => ?_)
  refine zz_iconst S (v := 4) rfl dX8_reckon_0 (q := 1) rfl ?_
  refine zz_iload_1 S dX8_reckon_1 (q := 2) rfl ?_
  refine zz_imul S dX8_reckon_2 (q := 3) rfl ?_
  refine zz_istore_4 S rfl dX8_reckon_3 (q := 5) rfl ?_
  refine zz_iconst S (v := 4) rfl dX8_reckon_5 (q := 6) rfl ?_
  refine zz_iload_3 S dX8_reckon_6 (q := 7) rfl ?_
  refine zz_imul S dX8_reckon_7 (q := 8) rfl ?_
  refine zz_istore_5 S rfl dX8_reckon_8 (q := 10) rfl ?_
  refine zz_sipush S (v := (-360)) rfl dX8_reckon_10 (q := 13) rfl ?_
  refine zz_istore_6 S rfl dX8_reckon_13 (q := 15) rfl ?_
  -- at 15
  exact lo_reckon S h1 h2 h3 h4 (fun im' a b => ⟨rfl, rfl, rfl, a, b⟩) 721 0 _ im (by omega) rfl (fun j hj => absurd hj (Nat.not_lt_zero j)) zz_keep.rf
/-- has, off -/
theorem co_has (x : Int32) (i : Nat) (c : Nat → Int32) (im : ZI) (hx : x + 360 = nI i) (hi : i < 721) (hc : zm_dial im c) : zz_OP G l 0 mX8_has [.ref 470, .int x] zE im (if c i = -100009 then 0 else 1) := by
  refine zz_intro (isI := false) (by decide) rfl (Nat.le_of_ble_eq_true rfl) (fun h => by cases h) (fun w S => ?_)
  refine zz_aload_0 S dX8_has_0 (q := 1) rfl ?_
  refine zz_getR S fX8_28 rfl (Nat.le_of_ble_eq_true rfl) rfl rfl dX8_has_1 (q := 4) rfl ?_
  refine zz_iload_1 S dX8_has_4 (q := 5) rfl ?_
  refine zz_sipush S (v := 360) rfl dX8_has_5 (q := 8) rfl ?_
  refine zz_iadd S dX8_has_8 (q := 9) rfl ?_
  refine zz_zaN S (j := i) (Nat.le_of_ble_eq_true rfl) rfl (Nat.le_of_ble_eq_true rfl) hx hi dX8_has_9 (q := 10) rfl ?_
  refine zz_zret S (zz_bit (by rw [(hc i hi).1]; exact zs_b0b)) dX8_has_10 ⟨rfl, _, rfl, rfl, ?_⟩
  exact ⟨(hc i hi).1, rfl⟩
theorem co_off (x : Int32) (i : Nat) (c : Nat → Int32) (im : ZI) (hx : x + 360 = nI i) (hi : i < 721) (hc : zm_dial im c) (hn : c i ≠ -100009) : zz_OP G l 0 mX8_off [.ref 470, .int x] zE im (c i) := by
  refine zz_intro (isI := false) (by decide) rfl (Nat.le_of_ble_eq_true rfl) (fun h => by cases h) (fun w S => ?_)
  refine zz_aload_0 S dX8_off_0 (q := 1) rfl ?_
  refine zz_getR S fX8_25 rfl (Nat.le_of_ble_eq_true rfl) rfl rfl dX8_off_1 (q := 4) rfl ?_
  refine zz_iload_1 S dX8_off_4 (q := 5) rfl ?_
  refine zz_sipush S (v := 360) rfl dX8_off_5 (q := 8) rfl ?_
  refine zz_iadd S dX8_off_8 (q := 9) rfl ?_
  refine zz_iaN S (j := i) (Nat.le_of_ble_eq_true rfl) rfl (Nat.le_of_ble_eq_true rfl) hx hi dX8_off_9 (q := 10) rfl ?_
  refine zz_iret S dX8_off_10 ⟨rfl, _, rfl, rfl, ?_⟩
  exact ⟨by rw [(hc i hi).2, if_neg hn], rfl⟩
end ZRECK
end
section
/-! THE REFERENCE: readings, and how far they are apart -/
def zs_by (c : Nat → Int32) (s : Int32) : Nat → Nat → Int32
  | 0, _ => -100009
  | n + 1, k => if c (60 * k) = -100009 ∨ c (60 * k + 60) = -100009 ∨ c (60 * k) > s ∨ s > c (60 * k + 60) then zs_by c s n (k + 1)
      else if c (60 * k + 60) - c (60 * k) = 0 then zs_t (60 * k)
      else ((zs_t (60 * k)).toInt64 + zs_rd (60 * (s - c (60 * k)).toInt64) (c (60 * k + 60) - c (60 * k)).toInt64).toInt32
def zs_byL (c : Nat → Int32) (s : Int32) : Int32 := zs_by c s 12 0
def zs_shG (c : Nat → Int32) (s : Int32) : Nat → Nat → Int32 → Int32 → Int32
  | 0, _, its, _ => its
  | n + 1, i, its, least => if c i = -100009 then zs_shG c s n (i + 1) its least
      else if its = -100009 ∨ zs_size (c i - s) < least then zs_shG c s n (i + 1) (zs_t i) (zs_size (c i - s))
      else zs_shG c s n (i + 1) its least
def zs_sh (c : Nat → Int32) (s : Int32) : Int32 := zs_shG c s 721 0 (-100009) 0
def zs_apG (c : Nat → Int32) : Nat → Nat → Int32 → Int32 → Int32 × Int32
  | 0, _, g, t => (g, t)
  | n + 1, i, g, t => if c i = -100009 ∨ zs_byL c (c i) = -100009 then zs_apG c n (i + 1) g t
      else if t = -100009 ∨ zs_size (zs_t i - zs_byL c (c i)) > g then zs_apG c n (i + 1) (zs_size (zs_t i - zs_byL c (c i))) (zs_t i)
      else zs_apG c n (i + 1) g t
def zs_ap (c : Nat → Int32) : Int32 × Int32 := zs_apG c 721 0 0 (-100009)
def zs_hlG (c : Nat → Int32) : Nat → Nat → Int32 → Int32
  | 0, _, m => m
  | n + 1, k, m => zs_hlG c n (k + 1) (m + (if c (60 * k) = -100009 then 0 else 1))
def zs_hl (c : Nat → Int32) : Int32 := zs_hlG c 13 0 0
theorem zs_ne (i : Nat) (h : i < 100000) : zs_t i ≠ -100009 := by
  intro e
  have h1 := zs_t_i h
  rw [e] at h1
  have h2 : ((-100009 : Int32)).toInt = -100009 := rfl
  omega
/-- a quotient by a number above 0, small numbers: the floor -/
theorem zs_rd_i {a b : Int64} (hb : 0 < b.toInt) (hb2 : b.toInt < 2 ^ 60) (ha : -2 ^ 60 < a.toInt) (ha2 : a.toInt < 2 ^ 60) : (zs_rd a b).toInt = (2 * a.toInt + b.toInt) / (2 * b.toInt) := by
  have e1 : (a + a + b).toInt = 2 * a.toInt + b.toInt := by
    rw [Int64.toInt_add, Int64.toInt_add, Int.bmod_eq_of_le (n := a.toInt + a.toInt) (by omega) (by omega), Int.bmod_eq_of_le (by omega) (by omega)]
    omega
  have e2 : (b + b).toInt = 2 * b.toInt := by
    rw [Int64.toInt_add, Int.bmod_eq_of_le (by omega) (by omega)]
    omega
  generalize hT : 2 * a.toInt + b.toInt = T at e1 ⊢
  generalize hY : 2 * b.toInt = Y at e2 ⊢
  have hY0 : 0 < Y := by omega
  have hY1 : Y < 2 ^ 61 := by omega
  have hT0 : -2 ^ 62 < T := by omega
  have hT1 : T < 2 ^ 62 := by omega
  clear hT hY
  have hn : (T.tdiv Y).natAbs ≤ T.natAbs := Int.natAbs_tdiv_le_natAbs _ _
  have ht : ((a + a + b) / (b + b)).toInt = T.tdiv Y := by
    rw [Int64.toInt_div, e1, e2]
    apply Int.bmod_eq_of_le <;> omega
  by_cases h0 : 0 ≤ a + a + b
  · unfold zs_rd
    rw [if_pos h0, ht, Int.tdiv_eq_ediv_of_nonneg]
    have := Int64.le_iff_toInt_le.mp h0
    rw [e1] at this
    simpa using this
  · have h1 : T < 0 := by
      rw [Int64.le_iff_toInt_le, e1] at h0
      have : (0 : Int64).toInt = 0 := rfl
      omega
    have hq := Int.tdiv_eq_ediv (a := T) (b := Y)
    have hsg : Y.sign = 1 := Int.sign_eq_one_of_pos hY0
    have hm : ((a + a + b) / (b + b) * (b + b)).toInt = T.tdiv Y * Y := by
      rw [Int64.toInt_mul, ht, e2]
      have h5 := Int.tmod_add_mul_tdiv T Y
      have h6 : (T.tmod Y).natAbs < Y.natAbs := by
        rw [Int.natAbs_tmod]
        exact Nat.mod_lt _ (by omega)
      rw [Int.mul_comm] at h5
      generalize T.tdiv Y * Y = P at h5 ⊢
      generalize T.tmod Y = M at h5 h6
      apply Int.bmod_eq_of_le <;> omega
    unfold zs_rd
    rw [if_neg h0]
    by_cases hd : Y ∣ T
    · have hz : (a + a + b) / (b + b) * (b + b) = a + a + b := by
        apply Int64.toInt_inj.mp
        rw [hm, e1]
        exact Int.tdiv_mul_cancel hd
      rw [if_pos hz, ht, hq, if_pos (Or.inr hd)]
      omega
    · have hz : ¬ (a + a + b) / (b + b) * (b + b) = a + a + b := by
        intro e
        have := congrArg Int64.toInt e
        rw [hm, e1] at this
        exact hd ⟨T.tdiv Y, by rw [Int.mul_comm]; exact this.symm⟩
      rw [if_neg (by rintro (h | h); omega; exact hd h), hsg] at hq
      rw [if_neg hz, Int64.toInt_sub, ht]
      have h1' : (1 : Int64).toInt = 1 := rfl
      have hs : T.tdiv Y - 1 = T / Y := by omega
      rw [h1', hs]
      apply Int.bmod_eq_of_le <;> omega
/-- a reading lies within -360 to 360 -/
theorem zs_by_in {c : Nat → Int32} (hc : zs_fine c) {s : Int32} : ∀ (n k : Nat), k + n = 12 → zs_by c s n k ≠ -100009 → -360 ≤ (zs_by c s n k).toInt ∧ (zs_by c s n k).toInt ≤ 360 := by
  intro n
  induction n with
  | zero => intro k _ h; exact absurd rfl h
  | succ n ih =>
    intro k hk
    rw [zs_by]
    split
    · exact ih (k + 1) (by omega)
    · rename_i h1
      have ha := hc (60 * k) (fun e => h1 (Or.inl e))
      have hb := hc (60 * k + 60) (fun e => h1 (Or.inr (Or.inl e)))
      have h2 : ¬ c (60 * k) > s := fun e => h1 (Or.inr (Or.inr (Or.inl e)))
      have h3 : ¬ s > c (60 * k + 60) := fun e => h1 (Or.inr (Or.inr (Or.inr e)))
      rw [gt_iff_lt, Int32.lt_iff_toInt_lt] at h2 h3
      have ht := zs_t_i (i := 60 * k) (by omega)
      split
      · intro _
        rw [ht]
        omega
      · rename_i h4
        intro _
        have d1 : (s - c (60 * k)).toInt = s.toInt - (c (60 * k)).toInt := by
          rw [Int32.toInt_sub, Int.bmod_eq_of_le (by omega) (by omega)]
        have d2 : (c (60 * k + 60) - c (60 * k)).toInt = (c (60 * k + 60)).toInt - (c (60 * k)).toInt := by
          rw [Int32.toInt_sub, Int.bmod_eq_of_le (by omega) (by omega)]
        have d3 : (c (60 * k + 60) - c (60 * k)).toInt ≠ 0 := by
          intro e
          exact h4 (Int32.toInt_inj.mp (by rw [e]; rfl))
        have d4 : ((60 : Int64) * (s - c (60 * k)).toInt64).toInt = 60 * (s - c (60 * k)).toInt := by
          rw [Int64.toInt_mul, Int32.toInt_toInt64, show ((60 : Int64)).toInt = 60 from rfl, Int.bmod_eq_of_le (by omega) (by omega)]
        have d5 : (c (60 * k + 60) - c (60 * k)).toInt64.toInt = (c (60 * k + 60) - c (60 * k)).toInt := Int32.toInt_toInt64 _
        have hr := zs_rd_i (a := 60 * (s - c (60 * k)).toInt64) (b := (c (60 * k + 60) - c (60 * k)).toInt64) (by omega) (by omega) (by omega) (by omega)
        rw [d4, d5, d1, d2] at hr
        have lo : 0 ≤ (zs_rd (60 * (s - c (60 * k)).toInt64) (c (60 * k + 60) - c (60 * k)).toInt64).toInt := by
          rw [hr]
          apply Int.ediv_nonneg <;> omega
        have hi : (zs_rd (60 * (s - c (60 * k)).toInt64) (c (60 * k + 60) - c (60 * k)).toInt64).toInt ≤ 60 := by
          rw [hr]
          apply Int.le_of_lt_add_one
          apply Int.ediv_lt_of_lt_mul <;> omega
        rw [Int64.toInt_toInt32, Int64.toInt_add, Int32.toInt_toInt64, ht]
        generalize (zs_rd (60 * (s - c (60 * k)).toInt64) (c (60 * k + 60) - c (60 * k)).toInt64).toInt = Z at lo hi
        rw [Int.bmod_eq_of_le (n := ((60 * k : Nat) : Int) - 360 + Z) (by omega) (by omega), Int.bmod_eq_of_le (by omega) (by omega)]
        omega
theorem zs_wide {a b : Int32} (h : ¬ a - b = 0) : ¬ (a - b).toInt64 + (a - b).toInt64 = 0 := by
  intro e
  have h1 := congrArg Int64.toInt e
  have h2 := Int32.toInt_lt (a - b)
  have h3 := Int32.le_toInt (a - b)
  rw [Int64.toInt_add, Int32.toInt_toInt64, Int.bmod_eq_of_le (by omega) (by omega)] at h1
  have h4 : (0 : Int64).toInt = 0 := rfl
  rw [h4] at h1
  exact h (Int32.toInt_inj.mp (by show _ = 0; omega))
section ZLINES
variable {G : ZG} {l : Launch}
theorem zs_t_60 (k : Nat) : zs_t (60 * k) + 60 = zs_t (60 * k + 60) := zs_t_add (60 * k) 60
set_option maxHeartbeats 4000000 in
theorem lo_byLines {n0 mcT msT : Nat} {isI : Bool} {Qf : Option Value → ZE → ZI → Prop} {w : Nat → ZL → List Value → Nat → ZE → ZI → Prop} {s : Int32} {z : Nat} {im : ZI} {c : Nat → Int32} (S : zz_S G l RX8 cX8_byLines 4 1 n0 mcT msT isI (some .int) Qf w)
    (hc : zm_dial im c) (hQ : Qf (some (.int (zs_byL c s))) zE im) :
    ∀ (n k : Nat) (x : Int32), k + n = 12 → x = zs_t (60 * k) → zs_byL c s = zs_by c s n k → w 4 [some (.ref 470), some (.int s), some (.int x), none] [] z zE im := by
  intro n
  induction n with
  | zero =>
    intro k x hk hx hF
    have hk : k = 12 := by omega
    subst hk
    have hx1 := zs_t_i (i := 60 * 12) (by omega)
    refine zz_iload_2 S dX8_byLines_4 (q := 5) rfl ?_
    refine zz_sipush S (v := 360) rfl dX8_byLines_5 (q := 8) rfl ?_
    refine zz_icmp_ge S dX8_byLines_8 (t := 102) (by decide) (q := 11) rfl (fun a1 => ?_) (fun a1 => ?_)
    -- then 102 else 11
    · refine zz_ldc S (v := (-100009)) kX8_83 dX8_byLines_102 (q := 104) rfl ?_
      -- at 104: ireturn 
      exact zz_iret S dX8_byLines_104 (by rw [hF] at hQ; exact hQ)
    · exact absurd (by rw [hx, ge_iff_le, Int32.le_iff_toInt_le, hx1]; decide) a1
  | succ n ih =>
    intro k x hk hx hF
    have hx1 := zs_t_i (i := 60 * k) (by omega)
    have i1 : x + 360 = nI (60 * k) := by rw [hx]; exact zs_t_ix _
    have i2 : x + 60 + 360 = nI (60 * k + 60) := by rw [hx, zs_t_60]; exact zs_t_ix _
    have step : (c (60 * k) = -100009 ∨ c (60 * k + 60) = -100009 ∨ c (60 * k) > s ∨ s > c (60 * k + 60)) → w 96 [some (.ref 470), some (.int s), some (.int x), none] [] z zE im := fun h => by
      refine zz_iinc_2 S rfl dX8_byLines_96 (q := 99) rfl ?_
      refine zz_goto S dX8_byLines_99 (t := 4) (by decide) ?_
      -- at 4
      exact ih (k + 1) _ (by omega) (by rw [hx]; exact zs_t_60 k) (by rw [hF, zs_by, if_pos h])
    refine zz_iload_2 S dX8_byLines_4 (q := 5) rfl ?_
    refine zz_sipush S (v := 360) rfl dX8_byLines_5 (q := 8) rfl ?_
    refine zz_icmp_ge S dX8_byLines_8 (t := 102) (by decide) (q := 11) rfl (fun a1 => ?_) (fun a1 => ?_)
    -- then 102 else 11
    · exact absurd a1 (by rw [hx, ge_iff_le, Int32.le_iff_toInt_le, hx1]; show ¬ (360 : Int) ≤ _; omega)
    · refine zz_aload_0 S dX8_byLines_11 (q := 12) rfl ?_
      refine zz_iload_2 S dX8_byLines_12 (q := 13) rfl ?_
      refine zz_virtP S yy_X8_has lX8_73 (ci := 8) (by decide) rfl (co_has x (60 * k) c im i1 (by omega) hc) rfl (Nat.le_of_ble_eq_true rfl) (Nat.le_of_ble_eq_true rfl) rfl (Nat.le_of_ble_eq_true rfl) rfl dX8_byLines_13 (q := 16) rfl ?_
      refine zz_if_eq S dX8_byLines_16 (t := 96) (by decide) (q := 19) rfl (fun b1 => ?_) (fun b1 => ?_)
      · first | exact step (Or.inl (zs_b0.mp b1)) | exact step (Or.inr (Or.inl (zs_b0.mp b2))) | exact step (Or.inr (Or.inr (Or.inl b3))) | exact step (Or.inr (Or.inr (Or.inr b4)))
      · refine zz_aload_0 S dX8_byLines_19 (q := 20) rfl ?_
        refine zz_iload_2 S dX8_byLines_20 (q := 21) rfl ?_
        refine zz_bipush S (v := 60) rfl dX8_byLines_21 (q := 23) rfl ?_
        refine zz_iadd S dX8_byLines_23 (q := 24) rfl ?_
        refine zz_virtP S yy_X8_has lX8_73 (ci := 8) (by decide) rfl (co_has (x + 60) (60 * k + 60) c im i2 (by omega) hc) rfl (Nat.le_of_ble_eq_true rfl) (Nat.le_of_ble_eq_true rfl) rfl (Nat.le_of_ble_eq_true rfl) rfl dX8_byLines_24 (q := 27) rfl ?_
        refine zz_if_eq S dX8_byLines_27 (t := 96) (by decide) (q := 30) rfl (fun b2 => ?_) (fun b2 => ?_)
        · first | exact step (Or.inl (zs_b0.mp b1)) | exact step (Or.inr (Or.inl (zs_b0.mp b2))) | exact step (Or.inr (Or.inr (Or.inl b3))) | exact step (Or.inr (Or.inr (Or.inr b4)))
        · refine zz_aload_0 S dX8_byLines_30 (q := 31) rfl ?_
          refine zz_iload_2 S dX8_byLines_31 (q := 32) rfl ?_
          refine zz_virtP S yy_X8_off lX8_77 (ci := 8) (by decide) rfl (co_off x (60 * k) c im i1 (by omega) hc (fun e => b1 (zs_b0.mpr e))) rfl (Nat.le_of_ble_eq_true rfl) (Nat.le_of_ble_eq_true rfl) rfl (Nat.le_of_ble_eq_true rfl) rfl dX8_byLines_32 (q := 35) rfl ?_
          refine zz_iload_1 S dX8_byLines_35 (q := 36) rfl ?_
          refine zz_icmp_gt S dX8_byLines_36 (t := 96) (by decide) (q := 39) rfl (fun b3 => ?_) (fun b3 => ?_)
          · first | exact step (Or.inl (zs_b0.mp b1)) | exact step (Or.inr (Or.inl (zs_b0.mp b2))) | exact step (Or.inr (Or.inr (Or.inl b3))) | exact step (Or.inr (Or.inr (Or.inr b4)))
          · refine zz_iload_1 S dX8_byLines_39 (q := 40) rfl ?_
            refine zz_aload_0 S dX8_byLines_40 (q := 41) rfl ?_
            refine zz_iload_2 S dX8_byLines_41 (q := 42) rfl ?_
            refine zz_bipush S (v := 60) rfl dX8_byLines_42 (q := 44) rfl ?_
            refine zz_iadd S dX8_byLines_44 (q := 45) rfl ?_
            refine zz_virtP S yy_X8_off lX8_77 (ci := 8) (by decide) rfl (co_off (x + 60) (60 * k + 60) c im i2 (by omega) hc (fun e => b2 (zs_b0.mpr e))) rfl (Nat.le_of_ble_eq_true rfl) (Nat.le_of_ble_eq_true rfl) rfl (Nat.le_of_ble_eq_true rfl) rfl dX8_byLines_45 (q := 48) rfl ?_
            refine zz_icmp_gt S dX8_byLines_48 (t := 96) (by decide) (q := 51) rfl (fun b4 => ?_) (fun b4 => ?_)
            · first | exact step (Or.inl (zs_b0.mp b1)) | exact step (Or.inr (Or.inl (zs_b0.mp b2))) | exact step (Or.inr (Or.inr (Or.inl b3))) | exact step (Or.inr (Or.inr (Or.inr b4)))
            · refine zz_aload_0 S dX8_byLines_51 (q := 52) rfl ?_
              refine zz_iload_2 S dX8_byLines_52 (q := 53) rfl ?_
              refine zz_bipush S (v := 60) rfl dX8_byLines_53 (q := 55) rfl ?_
              refine zz_iadd S dX8_byLines_55 (q := 56) rfl ?_
              refine zz_virtP S yy_X8_off lX8_77 (ci := 8) (by decide) rfl (co_off (x + 60) (60 * k + 60) c im i2 (by omega) hc (fun e => b2 (zs_b0.mpr e))) rfl (Nat.le_of_ble_eq_true rfl) (Nat.le_of_ble_eq_true rfl) rfl (Nat.le_of_ble_eq_true rfl) rfl dX8_byLines_56 (q := 59) rfl ?_
              refine zz_aload_0 S dX8_byLines_59 (q := 60) rfl ?_
              refine zz_iload_2 S dX8_byLines_60 (q := 61) rfl ?_
              refine zz_virtP S yy_X8_off lX8_77 (ci := 8) (by decide) rfl (co_off x (60 * k) c im i1 (by omega) hc (fun e => b1 (zs_b0.mpr e))) rfl (Nat.le_of_ble_eq_true rfl) (Nat.le_of_ble_eq_true rfl) rfl (Nat.le_of_ble_eq_true rfl) rfl dX8_byLines_61 (q := 64) rfl ?_
              refine zz_isub S dX8_byLines_64 (q := 65) rfl ?_
              refine zz_istore_3 S rfl dX8_byLines_65 (q := 66) rfl ?_
              refine zz_iload_3 S dX8_byLines_66 (q := 67) rfl ?_
              refine zz_if_ne S dX8_byLines_67 (t := 74) (by decide) (q := 70) rfl (fun b5 => ?_) (fun b5 => ?_)
              · refine zz_iload_2 S dX8_byLines_74 (q := 75) rfl ?_
                refine zz_i2l S dX8_byLines_75 (q := 76) rfl ?_
                refine zz_ldc2 S (v := 60) kX8_81 dX8_byLines_76 (q := 79) rfl ?_
                refine zz_iload_1 S dX8_byLines_79 (q := 80) rfl ?_
                refine zz_aload_0 S dX8_byLines_80 (q := 81) rfl ?_
                refine zz_iload_2 S dX8_byLines_81 (q := 82) rfl ?_
                refine zz_virtP S yy_X8_off lX8_77 (ci := 8) (by decide) rfl (co_off x (60 * k) c im i1 (by omega) hc (fun e => b1 (zs_b0.mpr e))) rfl (Nat.le_of_ble_eq_true rfl) (Nat.le_of_ble_eq_true rfl) rfl (Nat.le_of_ble_eq_true rfl) rfl dX8_byLines_82 (q := 85) rfl ?_
                refine zz_isub S dX8_byLines_85 (q := 86) rfl ?_
                refine zz_i2l S dX8_byLines_86 (q := 87) rfl ?_
                refine zz_lmul S dX8_byLines_87 (q := 88) rfl ?_
                refine zz_iload_3 S dX8_byLines_88 (q := 89) rfl ?_
                refine zz_i2l S dX8_byLines_89 (q := 90) rfl ?_
                refine zz_statPL S yy_X8_rounded lX8_46 (co_rounded G l (60 * (s - c (60 * k)).toInt64) (c (60 * k + 60) - c (60 * k)).toInt64 (zs_wide b5) zE im) rfl (Nat.le_of_ble_eq_true rfl) (Nat.le_of_ble_eq_true rfl) rfl dX8_byLines_90 (q := 93) rfl ?_
                refine zz_ladd S dX8_byLines_93 (q := 94) rfl ?_
                refine zz_l2i S dX8_byLines_94 (q := 95) rfl ?_
                refine zz_iret S dX8_byLines_95 ?_
                rw [hF, zs_by, if_neg (by rintro (h | h | h | h); exact b1 (zs_b0.mpr h); exact b2 (zs_b0.mpr h); exact b3 h; exact b4 h)] at hQ
                first | (rw [if_pos b5, ← hx] at hQ; exact hQ) | (rw [if_neg b5, ← hx] at hQ; exact hQ)
              · refine zz_iload_2 S dX8_byLines_70 (q := 71) rfl ?_
                refine zz_goto S dX8_byLines_71 (t := 95) (by decide) ?_
                refine zz_iret S dX8_byLines_95 ?_
                rw [hF, zs_by, if_neg (by rintro (h | h | h | h); exact b1 (zs_b0.mpr h); exact b2 (zs_b0.mpr h); exact b3 h; exact b4 h)] at hQ
                first | (rw [if_pos b5, ← hx] at hQ; exact hQ) | (rw [if_neg b5, ← hx] at hQ; exact hQ)
theorem co_byLines (s : Int32) (c : Nat → Int32) (im : ZI) (hc : zm_dial im c) : zz_OP G l 1 mX8_byLines [.ref 470, .int s] zE im (zs_byL c s) := by
  refine zz_intro (isI := false) (by decide) rfl (Nat.le_of_ble_eq_true rfl) (fun h => by cases h) (fun w S => ?_)
  refine zz_sipush S (v := (-360)) rfl dX8_byLines_0 (q := 3) rfl ?_
  refine zz_istore_2 S rfl dX8_byLines_3 (q := 4) rfl ?_
  -- at 4
  exact lo_byLines S hc ⟨rfl, _, rfl, rfl, rfl, rfl⟩ 12 0 _ rfl rfl rfl
set_option maxHeartbeats 4000000 in
theorem lo_byShadow {n0 mcT msT : Nat} {isI : Bool} {Qf : Option Value → ZE → ZI → Prop} {w : Nat → ZL → List Value → Nat → ZE → ZI → Prop} {s : Int32} {z : Nat} {im : ZI} {c : Nat → Int32} (S : zz_S G l RX8 cX8_byShadow 7 1 n0 mcT msT isI (some .int) Qf w)
    (hc : zm_dial im c) (hQ : Qf (some (.int (zs_sh c s))) zE im) :
    ∀ (n i : Nat) (x its least : Int32), i + n = 721 → x = zs_t i → zs_sh c s = zs_shG c s n i its least → w 10 [some (.ref 470), some (.int s), some (.int its), some (.int least), some (.int x), none, none] [] z zE im := by
  intro n
  induction n with
  | zero =>
    intro i x its least hi hx hF
    have hi : i = 721 := by omega
    subst hi
    have hx1 := zs_t_i (i := 721) (by omega)
    refine zz_iload_4 S dX8_byShadow_10 (q := 12) rfl ?_
    refine zz_sipush S (v := 360) rfl dX8_byShadow_12 (q := 15) rfl ?_
    refine zz_icmp_gt S dX8_byShadow_15 (t := 89) (by decide) (q := 18) rfl (fun a1 => ?_) (fun a1 => ?_)
    -- then 89 else 18
    · refine zz_iload_2 S dX8_byShadow_89 (q := 90) rfl ?_
      -- at 90: ireturn 
      exact zz_iret S dX8_byShadow_90 (by rw [hF] at hQ; exact hQ)
    · exact absurd (by rw [hx, gt_iff_lt, Int32.lt_iff_toInt_lt, hx1]; decide) a1
  | succ n ih =>
    intro i x its least hi hx hF
    have hx1 := zs_t_i (i := i) (by omega)
    have i1 : x + 360 = nI i := by rw [hx]; exact zs_t_ix _
    have step : ∀ (its' least' : Int32) (u5 u6 : Option Value), zs_shG c s (n + 1) i its least = zs_shG c s n (i + 1) its' least' → w 83 [some (.ref 470), some (.int s), some (.int its'), some (.int least'), some (.int x), u5, u6] [] z zE im := fun its' least' u5 u6 h => by
      refine zz_iinc_4 S rfl dX8_byShadow_83 (q := 86) rfl ?_
      refine zz_goto S dX8_byShadow_86 (t := 10) (by decide) ?_
      -- at 10
      refine zz_msk S [true, true, true, true, true, false, false] ?_
      exact ih (i + 1) _ _ _ (by omega) (by rw [hx]; exact zs_t_add i 1) (by rw [hF, h])
    refine zz_iload_4 S dX8_byShadow_10 (q := 12) rfl ?_
    refine zz_sipush S (v := 360) rfl dX8_byShadow_12 (q := 15) rfl ?_
    refine zz_icmp_gt S dX8_byShadow_15 (t := 89) (by decide) (q := 18) rfl (fun a1 => ?_) (fun a1 => ?_)
    -- then 89 else 18
    · exact absurd a1 (by rw [hx, gt_iff_lt, Int32.lt_iff_toInt_lt, hx1]; show ¬ (360 : Int) < _; omega)
    · refine zz_aload_0 S dX8_byShadow_18 (q := 19) rfl ?_
      refine zz_iload_4 S dX8_byShadow_19 (q := 21) rfl ?_
      refine zz_virtP S yy_X8_has lX8_73 (ci := 8) (by decide) rfl (co_has x i c im i1 (by omega) hc) rfl (Nat.le_of_ble_eq_true rfl) (Nat.le_of_ble_eq_true rfl) rfl (Nat.le_of_ble_eq_true rfl) rfl dX8_byShadow_21 (q := 24) rfl ?_
      refine zz_if_eq S dX8_byShadow_24 (t := 83) (by decide) (q := 27) rfl (fun b1 => ?_) (fun b1 => ?_)
      · first | exact absurd b5 (by decide) | exact step _ _ _ _ (by rw [zs_shG, if_pos (zs_b0.mp b1)]) | exact absurd b3 (by decide) | exact absurd b4 (by decide) | exact absurd rfl b3 | exact absurd rfl b4 | exact step _ _ _ _ (by rw [zs_shG, if_neg (fun e => b1 (zs_b0.mpr e)), if_pos (Or.inl b2), ← hx]) | exact step _ _ _ _ (by rw [zs_shG, if_neg (fun e => b1 (zs_b0.mpr e)), if_pos (Or.inr (Int32.not_le.mp b3)), ← hx]) | exact step _ _ _ _ (by rw [zs_shG, if_neg (fun e => b1 (zs_b0.mpr e)), if_neg (by rintro (h | h); exact b2 h; exact absurd b3 (Int32.not_le.mpr h))])
      · refine zz_aload_0 S dX8_byShadow_27 (q := 28) rfl ?_
        refine zz_iload_4 S dX8_byShadow_28 (q := 30) rfl ?_
        refine zz_virtP S yy_X8_off lX8_77 (ci := 8) (by decide) rfl (co_off x i c im i1 (by omega) hc (fun e => b1 (zs_b0.mpr e))) rfl (Nat.le_of_ble_eq_true rfl) (Nat.le_of_ble_eq_true rfl) rfl (Nat.le_of_ble_eq_true rfl) rfl dX8_byShadow_30 (q := 33) rfl ?_
        refine zz_iload_1 S dX8_byShadow_33 (q := 34) rfl ?_
        refine zz_isub S dX8_byShadow_34 (q := 35) rfl ?_
        refine zz_statP S yy_X8_size lX8_84 (co_size G l (c i - s) zE im) rfl (Nat.le_of_ble_eq_true rfl) (Nat.le_of_ble_eq_true rfl) rfl dX8_byShadow_35 (q := 38) rfl ?_
        refine zz_istore_5 S rfl dX8_byShadow_38 (q := 40) rfl ?_
        refine zz_iload_2 S dX8_byShadow_40 (q := 41) rfl ?_
        refine zz_ldc S (v := (-100009)) kX8_83 dX8_byShadow_41 (q := 43) rfl ?_
        refine zz_icmp_eq S dX8_byShadow_43 (t := 52) (by decide) (q := 46) rfl (fun b2 => ?_) (fun b2 => ?_)
        · refine zz_iconst S (v := 1) rfl dX8_byShadow_52 (q := 53) rfl ?_
          refine zz_goto S dX8_byShadow_53 (t := 57) (by decide) ?_
          refine zz_istore_6 S rfl dX8_byShadow_57 (q := 59) rfl ?_
          refine zz_iload_6 S dX8_byShadow_59 (q := 61) rfl ?_
          refine zz_if_eq S dX8_byShadow_61 (t := 69) (by decide) (q := 64) rfl (fun b3 => ?_) (fun b3 => ?_)
          · refine zz_iload_2 S dX8_byShadow_69 (q := 70) rfl ?_
            refine zz_istore_2 S rfl dX8_byShadow_70 (q := 71) rfl ?_
            refine zz_iload_6 S dX8_byShadow_71 (q := 73) rfl ?_
            refine zz_if_eq S dX8_byShadow_73 (t := 81) (by decide) (q := 76) rfl (fun b4 => ?_) (fun b4 => ?_)
            · refine zz_iload_3 S dX8_byShadow_81 (q := 82) rfl ?_
              refine zz_istore_3 S rfl dX8_byShadow_82 (q := 83) rfl ?_
              first | exact absurd b5 (by decide) | exact step _ _ _ _ (by rw [zs_shG, if_pos (zs_b0.mp b1)]) | exact absurd b3 (by decide) | exact absurd b4 (by decide) | exact absurd rfl b3 | exact absurd rfl b4 | exact step _ _ _ _ (by rw [zs_shG, if_neg (fun e => b1 (zs_b0.mpr e)), if_pos (Or.inl b2), ← hx]) | exact step _ _ _ _ (by rw [zs_shG, if_neg (fun e => b1 (zs_b0.mpr e)), if_pos (Or.inr (Int32.not_le.mp b3)), ← hx]) | exact step _ _ _ _ (by rw [zs_shG, if_neg (fun e => b1 (zs_b0.mpr e)), if_neg (by rintro (h | h); exact b2 h; exact absurd b3 (Int32.not_le.mpr h))])
            · refine zz_iload_5 S dX8_byShadow_76 (q := 78) rfl ?_
              refine zz_goto S dX8_byShadow_78 (t := 82) (by decide) ?_
              refine zz_istore_3 S rfl dX8_byShadow_82 (q := 83) rfl ?_
              first | exact absurd b5 (by decide) | exact step _ _ _ _ (by rw [zs_shG, if_pos (zs_b0.mp b1)]) | exact absurd b3 (by decide) | exact absurd b4 (by decide) | exact absurd rfl b3 | exact absurd rfl b4 | exact step _ _ _ _ (by rw [zs_shG, if_neg (fun e => b1 (zs_b0.mpr e)), if_pos (Or.inl b2), ← hx]) | exact step _ _ _ _ (by rw [zs_shG, if_neg (fun e => b1 (zs_b0.mpr e)), if_pos (Or.inr (Int32.not_le.mp b3)), ← hx]) | exact step _ _ _ _ (by rw [zs_shG, if_neg (fun e => b1 (zs_b0.mpr e)), if_neg (by rintro (h | h); exact b2 h; exact absurd b3 (Int32.not_le.mpr h))])
          · refine zz_iload_4 S dX8_byShadow_64 (q := 66) rfl ?_
            refine zz_goto S dX8_byShadow_66 (t := 70) (by decide) ?_
            refine zz_istore_2 S rfl dX8_byShadow_70 (q := 71) rfl ?_
            refine zz_iload_6 S dX8_byShadow_71 (q := 73) rfl ?_
            refine zz_if_eq S dX8_byShadow_73 (t := 81) (by decide) (q := 76) rfl (fun b4 => ?_) (fun b4 => ?_)
            · refine zz_iload_3 S dX8_byShadow_81 (q := 82) rfl ?_
              refine zz_istore_3 S rfl dX8_byShadow_82 (q := 83) rfl ?_
              first | exact absurd b5 (by decide) | exact step _ _ _ _ (by rw [zs_shG, if_pos (zs_b0.mp b1)]) | exact absurd b3 (by decide) | exact absurd b4 (by decide) | exact absurd rfl b3 | exact absurd rfl b4 | exact step _ _ _ _ (by rw [zs_shG, if_neg (fun e => b1 (zs_b0.mpr e)), if_pos (Or.inl b2), ← hx]) | exact step _ _ _ _ (by rw [zs_shG, if_neg (fun e => b1 (zs_b0.mpr e)), if_pos (Or.inr (Int32.not_le.mp b3)), ← hx]) | exact step _ _ _ _ (by rw [zs_shG, if_neg (fun e => b1 (zs_b0.mpr e)), if_neg (by rintro (h | h); exact b2 h; exact absurd b3 (Int32.not_le.mpr h))])
            · refine zz_iload_5 S dX8_byShadow_76 (q := 78) rfl ?_
              refine zz_goto S dX8_byShadow_78 (t := 82) (by decide) ?_
              refine zz_istore_3 S rfl dX8_byShadow_82 (q := 83) rfl ?_
              first | exact absurd b5 (by decide) | exact step _ _ _ _ (by rw [zs_shG, if_pos (zs_b0.mp b1)]) | exact absurd b3 (by decide) | exact absurd b4 (by decide) | exact absurd rfl b3 | exact absurd rfl b4 | exact step _ _ _ _ (by rw [zs_shG, if_neg (fun e => b1 (zs_b0.mpr e)), if_pos (Or.inl b2), ← hx]) | exact step _ _ _ _ (by rw [zs_shG, if_neg (fun e => b1 (zs_b0.mpr e)), if_pos (Or.inr (Int32.not_le.mp b3)), ← hx]) | exact step _ _ _ _ (by rw [zs_shG, if_neg (fun e => b1 (zs_b0.mpr e)), if_neg (by rintro (h | h); exact b2 h; exact absurd b3 (Int32.not_le.mpr h))])
        · refine zz_iload_5 S dX8_byShadow_46 (q := 48) rfl ?_
          refine zz_iload_3 S dX8_byShadow_48 (q := 49) rfl ?_
          refine zz_icmp_ge S dX8_byShadow_49 (t := 56) (by decide) (q := 52) rfl (fun b3 => ?_) (fun b3 => ?_)
          · refine zz_iconst S (v := 0) rfl dX8_byShadow_56 (q := 57) rfl ?_
            refine zz_istore_6 S rfl dX8_byShadow_57 (q := 59) rfl ?_
            refine zz_iload_6 S dX8_byShadow_59 (q := 61) rfl ?_
            refine zz_if_eq S dX8_byShadow_61 (t := 69) (by decide) (q := 64) rfl (fun b4 => ?_) (fun b4 => ?_)
            · refine zz_iload_2 S dX8_byShadow_69 (q := 70) rfl ?_
              refine zz_istore_2 S rfl dX8_byShadow_70 (q := 71) rfl ?_
              refine zz_iload_6 S dX8_byShadow_71 (q := 73) rfl ?_
              refine zz_if_eq S dX8_byShadow_73 (t := 81) (by decide) (q := 76) rfl (fun b5 => ?_) (fun b5 => ?_)
              · refine zz_iload_3 S dX8_byShadow_81 (q := 82) rfl ?_
                refine zz_istore_3 S rfl dX8_byShadow_82 (q := 83) rfl ?_
                first | exact absurd b5 (by decide) | exact step _ _ _ _ (by rw [zs_shG, if_pos (zs_b0.mp b1)]) | exact absurd b3 (by decide) | exact absurd b4 (by decide) | exact absurd rfl b3 | exact absurd rfl b4 | exact step _ _ _ _ (by rw [zs_shG, if_neg (fun e => b1 (zs_b0.mpr e)), if_pos (Or.inl b2), ← hx]) | exact step _ _ _ _ (by rw [zs_shG, if_neg (fun e => b1 (zs_b0.mpr e)), if_pos (Or.inr (Int32.not_le.mp b3)), ← hx]) | exact step _ _ _ _ (by rw [zs_shG, if_neg (fun e => b1 (zs_b0.mpr e)), if_neg (by rintro (h | h); exact b2 h; exact absurd b3 (Int32.not_le.mpr h))])
              · refine zz_iload_5 S dX8_byShadow_76 (q := 78) rfl ?_
                refine zz_goto S dX8_byShadow_78 (t := 82) (by decide) ?_
                refine zz_istore_3 S rfl dX8_byShadow_82 (q := 83) rfl ?_
                first | exact absurd b5 (by decide) | exact step _ _ _ _ (by rw [zs_shG, if_pos (zs_b0.mp b1)]) | exact absurd b3 (by decide) | exact absurd b4 (by decide) | exact absurd rfl b3 | exact absurd rfl b4 | exact step _ _ _ _ (by rw [zs_shG, if_neg (fun e => b1 (zs_b0.mpr e)), if_pos (Or.inl b2), ← hx]) | exact step _ _ _ _ (by rw [zs_shG, if_neg (fun e => b1 (zs_b0.mpr e)), if_pos (Or.inr (Int32.not_le.mp b3)), ← hx]) | exact step _ _ _ _ (by rw [zs_shG, if_neg (fun e => b1 (zs_b0.mpr e)), if_neg (by rintro (h | h); exact b2 h; exact absurd b3 (Int32.not_le.mpr h))])
            · refine zz_iload_4 S dX8_byShadow_64 (q := 66) rfl ?_
              refine zz_goto S dX8_byShadow_66 (t := 70) (by decide) ?_
              refine zz_istore_2 S rfl dX8_byShadow_70 (q := 71) rfl ?_
              refine zz_iload_6 S dX8_byShadow_71 (q := 73) rfl ?_
              refine zz_if_eq S dX8_byShadow_73 (t := 81) (by decide) (q := 76) rfl (fun b5 => ?_) (fun b5 => ?_)
              · refine zz_iload_3 S dX8_byShadow_81 (q := 82) rfl ?_
                refine zz_istore_3 S rfl dX8_byShadow_82 (q := 83) rfl ?_
                first | exact absurd b5 (by decide) | exact step _ _ _ _ (by rw [zs_shG, if_pos (zs_b0.mp b1)]) | exact absurd b3 (by decide) | exact absurd b4 (by decide) | exact absurd rfl b3 | exact absurd rfl b4 | exact step _ _ _ _ (by rw [zs_shG, if_neg (fun e => b1 (zs_b0.mpr e)), if_pos (Or.inl b2), ← hx]) | exact step _ _ _ _ (by rw [zs_shG, if_neg (fun e => b1 (zs_b0.mpr e)), if_pos (Or.inr (Int32.not_le.mp b3)), ← hx]) | exact step _ _ _ _ (by rw [zs_shG, if_neg (fun e => b1 (zs_b0.mpr e)), if_neg (by rintro (h | h); exact b2 h; exact absurd b3 (Int32.not_le.mpr h))])
              · refine zz_iload_5 S dX8_byShadow_76 (q := 78) rfl ?_
                refine zz_goto S dX8_byShadow_78 (t := 82) (by decide) ?_
                refine zz_istore_3 S rfl dX8_byShadow_82 (q := 83) rfl ?_
                first | exact absurd b5 (by decide) | exact step _ _ _ _ (by rw [zs_shG, if_pos (zs_b0.mp b1)]) | exact absurd b3 (by decide) | exact absurd b4 (by decide) | exact absurd rfl b3 | exact absurd rfl b4 | exact step _ _ _ _ (by rw [zs_shG, if_neg (fun e => b1 (zs_b0.mpr e)), if_pos (Or.inl b2), ← hx]) | exact step _ _ _ _ (by rw [zs_shG, if_neg (fun e => b1 (zs_b0.mpr e)), if_pos (Or.inr (Int32.not_le.mp b3)), ← hx]) | exact step _ _ _ _ (by rw [zs_shG, if_neg (fun e => b1 (zs_b0.mpr e)), if_neg (by rintro (h | h); exact b2 h; exact absurd b3 (Int32.not_le.mpr h))])
          · refine zz_iconst S (v := 1) rfl dX8_byShadow_52 (q := 53) rfl ?_
            refine zz_goto S dX8_byShadow_53 (t := 57) (by decide) ?_
            refine zz_istore_6 S rfl dX8_byShadow_57 (q := 59) rfl ?_
            refine zz_iload_6 S dX8_byShadow_59 (q := 61) rfl ?_
            refine zz_if_eq S dX8_byShadow_61 (t := 69) (by decide) (q := 64) rfl (fun b4 => ?_) (fun b4 => ?_)
            · refine zz_iload_2 S dX8_byShadow_69 (q := 70) rfl ?_
              refine zz_istore_2 S rfl dX8_byShadow_70 (q := 71) rfl ?_
              refine zz_iload_6 S dX8_byShadow_71 (q := 73) rfl ?_
              refine zz_if_eq S dX8_byShadow_73 (t := 81) (by decide) (q := 76) rfl (fun b5 => ?_) (fun b5 => ?_)
              · refine zz_iload_3 S dX8_byShadow_81 (q := 82) rfl ?_
                refine zz_istore_3 S rfl dX8_byShadow_82 (q := 83) rfl ?_
                first | exact absurd b5 (by decide) | exact step _ _ _ _ (by rw [zs_shG, if_pos (zs_b0.mp b1)]) | exact absurd b3 (by decide) | exact absurd b4 (by decide) | exact absurd rfl b3 | exact absurd rfl b4 | exact step _ _ _ _ (by rw [zs_shG, if_neg (fun e => b1 (zs_b0.mpr e)), if_pos (Or.inl b2), ← hx]) | exact step _ _ _ _ (by rw [zs_shG, if_neg (fun e => b1 (zs_b0.mpr e)), if_pos (Or.inr (Int32.not_le.mp b3)), ← hx]) | exact step _ _ _ _ (by rw [zs_shG, if_neg (fun e => b1 (zs_b0.mpr e)), if_neg (by rintro (h | h); exact b2 h; exact absurd b3 (Int32.not_le.mpr h))])
              · refine zz_iload_5 S dX8_byShadow_76 (q := 78) rfl ?_
                refine zz_goto S dX8_byShadow_78 (t := 82) (by decide) ?_
                refine zz_istore_3 S rfl dX8_byShadow_82 (q := 83) rfl ?_
                first | exact absurd b5 (by decide) | exact step _ _ _ _ (by rw [zs_shG, if_pos (zs_b0.mp b1)]) | exact absurd b3 (by decide) | exact absurd b4 (by decide) | exact absurd rfl b3 | exact absurd rfl b4 | exact step _ _ _ _ (by rw [zs_shG, if_neg (fun e => b1 (zs_b0.mpr e)), if_pos (Or.inl b2), ← hx]) | exact step _ _ _ _ (by rw [zs_shG, if_neg (fun e => b1 (zs_b0.mpr e)), if_pos (Or.inr (Int32.not_le.mp b3)), ← hx]) | exact step _ _ _ _ (by rw [zs_shG, if_neg (fun e => b1 (zs_b0.mpr e)), if_neg (by rintro (h | h); exact b2 h; exact absurd b3 (Int32.not_le.mpr h))])
            · refine zz_iload_4 S dX8_byShadow_64 (q := 66) rfl ?_
              refine zz_goto S dX8_byShadow_66 (t := 70) (by decide) ?_
              refine zz_istore_2 S rfl dX8_byShadow_70 (q := 71) rfl ?_
              refine zz_iload_6 S dX8_byShadow_71 (q := 73) rfl ?_
              refine zz_if_eq S dX8_byShadow_73 (t := 81) (by decide) (q := 76) rfl (fun b5 => ?_) (fun b5 => ?_)
              · refine zz_iload_3 S dX8_byShadow_81 (q := 82) rfl ?_
                refine zz_istore_3 S rfl dX8_byShadow_82 (q := 83) rfl ?_
                first | exact absurd b5 (by decide) | exact step _ _ _ _ (by rw [zs_shG, if_pos (zs_b0.mp b1)]) | exact absurd b3 (by decide) | exact absurd b4 (by decide) | exact absurd rfl b3 | exact absurd rfl b4 | exact step _ _ _ _ (by rw [zs_shG, if_neg (fun e => b1 (zs_b0.mpr e)), if_pos (Or.inl b2), ← hx]) | exact step _ _ _ _ (by rw [zs_shG, if_neg (fun e => b1 (zs_b0.mpr e)), if_pos (Or.inr (Int32.not_le.mp b3)), ← hx]) | exact step _ _ _ _ (by rw [zs_shG, if_neg (fun e => b1 (zs_b0.mpr e)), if_neg (by rintro (h | h); exact b2 h; exact absurd b3 (Int32.not_le.mpr h))])
              · refine zz_iload_5 S dX8_byShadow_76 (q := 78) rfl ?_
                refine zz_goto S dX8_byShadow_78 (t := 82) (by decide) ?_
                refine zz_istore_3 S rfl dX8_byShadow_82 (q := 83) rfl ?_
                first | exact absurd b5 (by decide) | exact step _ _ _ _ (by rw [zs_shG, if_pos (zs_b0.mp b1)]) | exact absurd b3 (by decide) | exact absurd b4 (by decide) | exact absurd rfl b3 | exact absurd rfl b4 | exact step _ _ _ _ (by rw [zs_shG, if_neg (fun e => b1 (zs_b0.mpr e)), if_pos (Or.inl b2), ← hx]) | exact step _ _ _ _ (by rw [zs_shG, if_neg (fun e => b1 (zs_b0.mpr e)), if_pos (Or.inr (Int32.not_le.mp b3)), ← hx]) | exact step _ _ _ _ (by rw [zs_shG, if_neg (fun e => b1 (zs_b0.mpr e)), if_neg (by rintro (h | h); exact b2 h; exact absurd b3 (Int32.not_le.mpr h))])
theorem co_byShadow (s : Int32) (c : Nat → Int32) (im : ZI) (hc : zm_dial im c) : zz_OP G l 1 mX8_byShadow [.ref 470, .int s] zE im (zs_sh c s) := by
  refine zz_intro (isI := false) (by decide) rfl (Nat.le_of_ble_eq_true rfl) (fun h => by cases h) (fun w S => ?_)
  refine zz_ldc S (v := (-100009)) kX8_83 dX8_byShadow_0 (q := 2) rfl ?_
  refine zz_istore_2 S rfl dX8_byShadow_2 (q := 3) rfl ?_
  refine zz_iconst S (v := 0) rfl dX8_byShadow_3 (q := 4) rfl ?_
  refine zz_istore_3 S rfl dX8_byShadow_4 (q := 5) rfl ?_
  refine zz_sipush S (v := (-360)) rfl dX8_byShadow_5 (q := 8) rfl ?_
  refine zz_istore_4 S rfl dX8_byShadow_8 (q := 10) rfl ?_
  -- at 10
  exact lo_byShadow S hc ⟨rfl, _, rfl, rfl, rfl, rfl⟩ 721 0 _ _ _ rfl rfl rfl
theorem zs_size_i {v : Int32} (h : -1000000 ≤ v.toInt) : 0 ≤ (zs_size v).toInt := by
  unfold zs_size
  split
  · rename_i h1
    rw [ge_iff_le, Int32.le_iff_toInt_le] at h1
    exact h1
  · rename_i h1
    rw [ge_iff_le, Int32.le_iff_toInt_le] at h1
    have h2 : (0 : Int32).toInt = 0 := rfl
    have h3 := Int32.toInt_lt v
    rw [Int32.toInt_neg, Int.bmod_eq_of_le (by omega) (by omega)]
    omega
theorem zs_ap_nn {c : Nat → Int32} (hf : zs_fine c) {i : Nat} (hi : i < 721) (h : zs_byL c (c i) ≠ -100009) : 0 ≤ (zs_size (zs_t i - zs_byL c (c i))).toInt := by
  have h1 := zs_by_in hf (s := c i) 12 0 rfl h
  have h2 := zs_t_i (i := i) (by omega)
  apply zs_size_i
  rw [Int32.toInt_sub, h2]
  unfold zs_byL
  rw [Int.bmod_eq_of_le (by omega) (by omega)]
  omega
set_option maxHeartbeats 4000000 in
theorem lo_apartOf {n0 mcT msT : Nat} {isI : Bool} {Qf : Option Value → ZE → ZI → Prop} {w : Nat → ZL → List Value → Nat → ZE → ZI → Prop} {what : Int32} {z : Nat} {im : ZI} {c : Nat → Int32} (S : zz_S G l RX8 cX8_apartOf 7 2 n0 mcT msT isI (some .int) Qf w)
    (hc : zm_dial im c) (hf : zs_fine c) (hQ : Qf (some (.int (if what = 0 then (zs_ap c).1 else (zs_ap c).2))) zE im) :
    ∀ (n i : Nat) (x g t : Int32), i + n = 721 → x = zs_t i → (t = -100009 → g = 0) → zs_ap c = zs_apG c n i g t → w 10 [some (.ref 470), some (.int what), some (.int g), some (.int t), some (.int x), none, none] [] z zE im := by
  intro n
  induction n with
  | zero =>
    intro i x g t hi hx hg hF
    have hi : i = 721 := by omega
    subst hi
    have hx1 := zs_t_i (i := 721) (by omega)
    rw [hF] at hQ
    refine zz_iload_4 S dX8_apartOf_10 (q := 12) rfl ?_
    refine zz_sipush S (v := 360) rfl dX8_apartOf_12 (q := 15) rfl ?_
    refine zz_icmp_gt S dX8_apartOf_15 (t := 99) (by decide) (q := 18) rfl (fun a1 => ?_) (fun a1 => ?_)
    -- then 99 else 18
    · refine zz_iload_1 S dX8_apartOf_99 (q := 100) rfl ?_
      refine zz_if_ne S dX8_apartOf_100 (t := 107) (by decide) (q := 103) rfl (fun b1 => ?_) (fun b1 => ?_)
      · refine zz_iload_3 S dX8_apartOf_107 (q := 108) rfl ?_
        refine zz_iret S dX8_apartOf_108 ?_
        first | (rw [if_pos b1] at hQ; exact hQ) | (rw [if_neg b1] at hQ; exact hQ)
      · refine zz_iload_2 S dX8_apartOf_103 (q := 104) rfl ?_
        refine zz_goto S dX8_apartOf_104 (t := 108) (by decide) ?_
        refine zz_iret S dX8_apartOf_108 ?_
        first | (rw [if_pos b1] at hQ; exact hQ) | (rw [if_neg b1] at hQ; exact hQ)
    · exact absurd (by rw [hx, gt_iff_lt, Int32.lt_iff_toInt_lt, hx1]; decide) a1
  | succ n ih =>
    intro i x g t hi hx hg hF
    have hx1 := zs_t_i (i := i) (by omega)
    have i1 : x + 360 = nI i := by rw [hx]; exact zs_t_ix _
    have step : ∀ (g' t' : Int32) (u5 u6 : Option Value), zs_apG c (n + 1) i g t = zs_apG c n (i + 1) g' t' → (t' = -100009 → g' = 0) → w 93 [some (.ref 470), some (.int what), some (.int g'), some (.int t'), some (.int x), u5, u6] [] z zE im := fun g' t' u5 u6 h hg' => by
      refine zz_iinc_4 S rfl dX8_apartOf_93 (q := 96) rfl ?_
      refine zz_goto S dX8_apartOf_96 (t := 10) (by decide) ?_
      -- at 10
      refine zz_msk S [true, true, true, true, true, false, false] ?_
      exact ih (i + 1) _ _ _ (by omega) (by rw [hx]; exact zs_t_add i 1) hg' (by rw [hF, h])
    have hne : x ≠ -100009 := by rw [hx]; exact zs_ne i (by omega)
    have same : c i = -100009 ∨ zs_byL c (c i) = -100009 → zs_apG c (n + 1) i g t = zs_apG c n (i + 1) g t := fun h => by rw [zs_apG, if_pos h]
    have upd1 : ¬ c i = -100009 → ¬ zs_byL c (c i) = -100009 → t = -100009 ∨ zs_size (x - zs_byL c (c i)) > g → zs_apG c (n + 1) i g t = zs_apG c n (i + 1) (zs_size (x - zs_byL c (c i))) x := fun h1 h2 h3 => by
      rw [hx] at h3
      rw [zs_apG, if_neg (by rintro (h | h); exact h1 h; exact h2 h), if_pos h3, ← hx]
    have upd2 : ¬ c i = -100009 → ¬ zs_byL c (c i) = -100009 → ¬ t = -100009 → ¬ zs_size (x - zs_byL c (c i)) > g → zs_apG c (n + 1) i g t = zs_apG c n (i + 1) g t := fun h1 h2 h3 h4 => by
      rw [hx] at h4
      rw [zs_apG, if_neg (by rintro (h | h); exact h1 h; exact h2 h), if_neg (by rintro (h | h); exact h3 h; exact h4 h)]
    have zero : ¬ zs_byL c (c i) = -100009 → t = -100009 → zs_size (x - zs_byL c (c i)) ≤ g → zs_size (x - zs_byL c (c i)) = g := fun h1 h2 h3 => by
      have h4 := zs_ap_nn hf (by omega) h1
      rw [← hx] at h4
      rw [hg h2] at h3 ⊢
      rw [Int32.le_iff_toInt_le] at h3
      have h5 : (0 : Int32).toInt = 0 := rfl
      exact Int32.toInt_inj.mp (by omega)
    refine zz_iload_4 S dX8_apartOf_10 (q := 12) rfl ?_
    refine zz_sipush S (v := 360) rfl dX8_apartOf_12 (q := 15) rfl ?_
    refine zz_icmp_gt S dX8_apartOf_15 (t := 99) (by decide) (q := 18) rfl (fun a1 => ?_) (fun a1 => ?_)
    -- then 99 else 18
    · exact absurd a1 (by rw [hx, gt_iff_lt, Int32.lt_iff_toInt_lt, hx1]; show ¬ (360 : Int) < _; omega)
    · refine zz_aload_0 S dX8_apartOf_18 (q := 19) rfl ?_
      refine zz_iload_4 S dX8_apartOf_19 (q := 21) rfl ?_
      -- at 21: invokevirtual 73
      refine zz_virtP S yy_X8_has lX8_73 (ci := 8) (by decide) rfl (co_has x i c im i1 (by omega) hc) rfl (Nat.le_of_ble_eq_true rfl) (Nat.le_of_ble_eq_true rfl) rfl (Nat.le_of_ble_eq_true rfl) rfl dX8_apartOf_21 (q := 24) rfl ?_
      refine zz_if_eq S dX8_apartOf_24 (t := 40) (by decide) (q := 27) rfl (fun b1 => ?_) (fun b1 => ?_)
      -- then 40 else 27
      · refine zz_ldc S (v := (-100009)) kX8_83 dX8_apartOf_40 (q := 42) rfl ?_
        refine zz_istore_5 S rfl dX8_apartOf_42 (q := 44) rfl ?_
        refine zz_iload_5 S dX8_apartOf_44 (q := 46) rfl ?_
        refine zz_ldc S (v := (-100009)) kX8_83 dX8_apartOf_46 (q := 48) rfl ?_
        refine zz_icmp_eq S dX8_apartOf_48 (t := 93) (by decide) (q := 51) rfl (fun b2 => ?_) (fun b2 => ?_)
        -- then 93 else 51
        · exact step _ _ _ _ (same (Or.inl (zs_b0.mp b1))) hg
        · exact absurd rfl b2
      · have c1 : ¬ c i = -100009 := fun e => b1 (zs_b0.mpr e)
        refine zz_aload_0 S dX8_apartOf_27 (q := 28) rfl ?_
        refine zz_aload_0 S dX8_apartOf_28 (q := 29) rfl ?_
        refine zz_iload_4 S dX8_apartOf_29 (q := 31) rfl ?_
        -- at 31: invokevirtual 77
        refine zz_virtP S yy_X8_off lX8_77 (ci := 8) (by decide) rfl (co_off x i c im i1 (by omega) hc c1) rfl (Nat.le_of_ble_eq_true rfl) (Nat.le_of_ble_eq_true rfl) rfl (Nat.le_of_ble_eq_true rfl) rfl dX8_apartOf_31 (q := 34) rfl ?_
        refine zz_virtP S yy_X8_byLines lX8_87 (ci := 8) (by decide) rfl (co_byLines (c i) c im hc) rfl (Nat.le_of_ble_eq_true rfl) (Nat.le_of_ble_eq_true rfl) rfl (Nat.le_of_ble_eq_true rfl) rfl dX8_apartOf_34 (q := 37) rfl ?_
        refine zz_goto S dX8_apartOf_37 (t := 42) (by decide) ?_
        refine zz_istore_5 S rfl dX8_apartOf_42 (q := 44) rfl ?_
        refine zz_iload_5 S dX8_apartOf_44 (q := 46) rfl ?_
        refine zz_ldc S (v := (-100009)) kX8_83 dX8_apartOf_46 (q := 48) rfl ?_
        refine zz_icmp_eq S dX8_apartOf_48 (t := 93) (by decide) (q := 51) rfl (fun b2 => ?_) (fun b2 => ?_)
        -- then 93 else 51
        · exact step _ _ _ _ (same (Or.inr b2)) hg
        · refine zz_iload_4 S dX8_apartOf_51 (q := 53) rfl ?_
          refine zz_iload_5 S dX8_apartOf_53 (q := 55) rfl ?_
          refine zz_isub S dX8_apartOf_55 (q := 56) rfl ?_
          -- at 56: invokestatic 84
          refine zz_statP S yy_X8_size lX8_84 (co_size G l (x - zs_byL c (c i)) zE im) rfl (Nat.le_of_ble_eq_true rfl) (Nat.le_of_ble_eq_true rfl) rfl dX8_apartOf_56 (q := 59) rfl ?_
          refine zz_istore_6 S rfl dX8_apartOf_59 (q := 61) rfl ?_
          refine zz_iload_3 S dX8_apartOf_61 (q := 62) rfl ?_
          refine zz_ldc S (v := (-100009)) kX8_83 dX8_apartOf_62 (q := 64) rfl ?_
          refine zz_icmp_eq S dX8_apartOf_64 (t := 73) (by decide) (q := 67) rfl (fun b3 => ?_) (fun b3 => ?_)
          -- then 73 else 67
          · refine zz_iload_4 S dX8_apartOf_73 (q := 75) rfl ?_
            refine zz_goto S dX8_apartOf_75 (t := 79) (by decide) ?_
            refine zz_istore_3 S rfl dX8_apartOf_79 (q := 80) rfl ?_
            refine zz_iload_6 S dX8_apartOf_80 (q := 82) rfl ?_
            refine zz_iload_2 S dX8_apartOf_82 (q := 83) rfl ?_
            refine zz_icmp_le S dX8_apartOf_83 (t := 91) (by decide) (q := 86) rfl (fun b4 => ?_) (fun b4 => ?_)
            -- then 91 else 86
            · refine zz_iload_2 S dX8_apartOf_91 (q := 92) rfl ?_
              refine zz_istore_2 S rfl dX8_apartOf_92 (q := 93) rfl ?_
              -- at 93
              have e := zero b2 b3 b4
              have e2 := upd1 c1 b2 (Or.inl b3)
              rw [e] at e2
              exact step _ _ _ _ e2 (fun h => absurd h hne)
            · refine zz_iload_6 S dX8_apartOf_86 (q := 88) rfl ?_
              refine zz_goto S dX8_apartOf_88 (t := 92) (by decide) ?_
              refine zz_istore_2 S rfl dX8_apartOf_92 (q := 93) rfl ?_
              -- at 93
              exact step _ _ _ _ (upd1 c1 b2 (Or.inl b3)) (fun h => absurd h hne)
          · refine zz_iload_6 S dX8_apartOf_67 (q := 69) rfl ?_
            refine zz_iload_2 S dX8_apartOf_69 (q := 70) rfl ?_
            refine zz_icmp_le S dX8_apartOf_70 (t := 78) (by decide) (q := 73) rfl (fun b4 => ?_) (fun b4 => ?_)
            -- then 78 else 73
            · refine zz_iload_3 S dX8_apartOf_78 (q := 79) rfl ?_
              refine zz_istore_3 S rfl dX8_apartOf_79 (q := 80) rfl ?_
              refine zz_iload_6 S dX8_apartOf_80 (q := 82) rfl ?_
              refine zz_iload_2 S dX8_apartOf_82 (q := 83) rfl ?_
              refine zz_icmp_le S dX8_apartOf_83 (t := 91) (by decide) (q := 86) rfl (fun b5 => ?_) (fun b5 => ?_)
              -- then 91 else 86
              · refine zz_iload_2 S dX8_apartOf_91 (q := 92) rfl ?_
                refine zz_istore_2 S rfl dX8_apartOf_92 (q := 93) rfl ?_
                -- at 93
                exact step _ _ _ _ (upd2 c1 b2 b3 (fun h => absurd b4 (Int32.not_le.mpr h))) hg
              · exact absurd b4 b5
            · refine zz_iload_4 S dX8_apartOf_73 (q := 75) rfl ?_
              refine zz_goto S dX8_apartOf_75 (t := 79) (by decide) ?_
              refine zz_istore_3 S rfl dX8_apartOf_79 (q := 80) rfl ?_
              refine zz_iload_6 S dX8_apartOf_80 (q := 82) rfl ?_
              refine zz_iload_2 S dX8_apartOf_82 (q := 83) rfl ?_
              refine zz_icmp_le S dX8_apartOf_83 (t := 91) (by decide) (q := 86) rfl (fun b5 => ?_) (fun b5 => ?_)
              -- then 91 else 86
              · exact absurd b5 b4
              · refine zz_iload_6 S dX8_apartOf_86 (q := 88) rfl ?_
                refine zz_goto S dX8_apartOf_88 (t := 92) (by decide) ?_
                refine zz_istore_2 S rfl dX8_apartOf_92 (q := 93) rfl ?_
                -- at 93
                exact step _ _ _ _ (upd1 c1 b2 (Or.inr (Int32.not_le.mp b4))) (fun h => absurd h hne)
theorem co_apartOf (what : Int32) (c : Nat → Int32) (im : ZI) (hc : zm_dial im c) (hf : zs_fine c) : zz_OP G l 2 mX8_apartOf [.ref 470, .int what] zE im (if what = 0 then (zs_ap c).1 else (zs_ap c).2) := by
  refine zz_intro (isI := false) (by decide) rfl (Nat.le_of_ble_eq_true rfl) (fun h => by cases h) (fun w S => ?_)
  refine zz_iconst S (v := 0) rfl dX8_apartOf_0 (q := 1) rfl ?_
  refine zz_istore_2 S rfl dX8_apartOf_1 (q := 2) rfl ?_
  refine zz_ldc S (v := (-100009)) kX8_83 dX8_apartOf_2 (q := 4) rfl ?_
  refine zz_istore_3 S rfl dX8_apartOf_4 (q := 5) rfl ?_
  refine zz_sipush S (v := (-360)) rfl dX8_apartOf_5 (q := 8) rfl ?_
  refine zz_istore_4 S rfl dX8_apartOf_8 (q := 10) rfl ?_
  -- at 10
  exact lo_apartOf S hc hf ⟨rfl, _, rfl, rfl, rfl, rfl⟩ 721 0 _ _ _ rfl rfl (fun _ => rfl) rfl
set_option maxHeartbeats 4000000 in
theorem lo_hourLines {n0 mcT msT : Nat} {isI : Bool} {Qf : Option Value → ZE → ZI → Prop} {w : Nat → ZL → List Value → Nat → ZE → ZI → Prop} {z : Nat} {im : ZI} {c : Nat → Int32} (S : zz_S G l RX8 cX8_hourLines 3 1 n0 mcT msT isI (some .int) Qf w)
    (hc : zm_dial im c) (hQ : Qf (some (.int (zs_hl c))) zE im) :
    ∀ (n k : Nat) (x m : Int32), k + n = 13 → x = zs_t (60 * k) → zs_hl c = zs_hlG c n k m → w 6 [some (.ref 470), some (.int m), some (.int x)] [] z zE im := by
  intro n
  induction n with
  | zero =>
    intro k x m hk hx hF
    have hk : k = 13 := by omega
    subst hk
    have hx1 := zs_t_i (i := 60 * 13) (by omega)
    refine zz_iload_2 S dX8_hourLines_6 (q := 7) rfl ?_
    refine zz_sipush S (v := 360) rfl dX8_hourLines_7 (q := 10) rfl ?_
    refine zz_icmp_gt S dX8_hourLines_10 (t := 35) (by decide) (q := 13) rfl (fun a1 => ?_) (fun a1 => ?_)
    -- then 35 else 13
    · refine zz_iload_1 S dX8_hourLines_35 (q := 36) rfl ?_
      -- at 36: ireturn 
      exact zz_iret S dX8_hourLines_36 (by rw [hF] at hQ; exact hQ)
    · exact absurd (by rw [hx, gt_iff_lt, Int32.lt_iff_toInt_lt, hx1]; decide) a1
  | succ n ih =>
    intro k x m hk hx hF
    have hx1 := zs_t_i (i := 60 * k) (by omega)
    have i1 : x + 360 = nI (60 * k) := by rw [hx]; exact zs_t_ix _
    refine zz_iload_2 S dX8_hourLines_6 (q := 7) rfl ?_
    refine zz_sipush S (v := 360) rfl dX8_hourLines_7 (q := 10) rfl ?_
    refine zz_icmp_gt S dX8_hourLines_10 (t := 35) (by decide) (q := 13) rfl (fun a1 => ?_) (fun a1 => ?_)
    -- then 35 else 13
    · exact absurd a1 (by rw [hx, gt_iff_lt, Int32.lt_iff_toInt_lt, hx1]; show ¬ (360 : Int) < _; omega)
    · refine zz_iload_1 S dX8_hourLines_13 (q := 14) rfl ?_
      refine zz_aload_0 S dX8_hourLines_14 (q := 15) rfl ?_
      refine zz_iload_2 S dX8_hourLines_15 (q := 16) rfl ?_
      refine zz_virtP S yy_X8_has lX8_73 (ci := 8) (by decide) rfl (co_has x (60 * k) c im i1 (by omega) hc) rfl (Nat.le_of_ble_eq_true rfl) (Nat.le_of_ble_eq_true rfl) rfl (Nat.le_of_ble_eq_true rfl) rfl dX8_hourLines_16 (q := 19) rfl ?_
      refine zz_if_eq S dX8_hourLines_19 (t := 26) (by decide) (q := 22) rfl (fun b1 => ?_) (fun b1 => ?_)
      · refine zz_iconst S (v := 0) rfl dX8_hourLines_26 (q := 27) rfl ?_
        refine zz_iadd S dX8_hourLines_27 (q := 28) rfl ?_
        refine zz_istore_1 S rfl dX8_hourLines_28 (q := 29) rfl ?_
        refine zz_iinc_2 S rfl dX8_hourLines_29 (q := 32) rfl ?_
        refine zz_goto S dX8_hourLines_32 (t := 6) (by decide) ?_
        refine ih (k + 1) _ _ (by omega) (by rw [hx]; exact zs_t_60 k) ?_
        rw [hF, zs_hlG]
        first | rw [if_pos (zs_b0.mp b1)] | rw [if_neg (fun e => b1 (zs_b0.mpr e))]
      · refine zz_iconst S (v := 1) rfl dX8_hourLines_22 (q := 23) rfl ?_
        refine zz_goto S dX8_hourLines_23 (t := 27) (by decide) ?_
        refine zz_iadd S dX8_hourLines_27 (q := 28) rfl ?_
        refine zz_istore_1 S rfl dX8_hourLines_28 (q := 29) rfl ?_
        refine zz_iinc_2 S rfl dX8_hourLines_29 (q := 32) rfl ?_
        refine zz_goto S dX8_hourLines_32 (t := 6) (by decide) ?_
        refine ih (k + 1) _ _ (by omega) (by rw [hx]; exact zs_t_60 k) ?_
        rw [hF, zs_hlG]
        first | rw [if_pos (zs_b0.mp b1)] | rw [if_neg (fun e => b1 (zs_b0.mpr e))]
theorem co_hourLines (c : Nat → Int32) (im : ZI) (hc : zm_dial im c) : zz_OP G l 1 mX8_hourLines [.ref 470] zE im (zs_hl c) := by
  refine zz_intro (isI := false) (by decide) rfl (Nat.le_of_ble_eq_true rfl) (fun h => by cases h) (fun w S => ?_)
  refine zz_iconst S (v := 0) rfl dX8_hourLines_0 (q := 1) rfl ?_
  refine zz_istore_1 S rfl dX8_hourLines_1 (q := 2) rfl ?_
  refine zz_sipush S (v := (-360)) rfl dX8_hourLines_2 (q := 5) rfl ?_
  refine zz_istore_2 S rfl dX8_hourLines_5 (q := 6) rfl ?_
  -- at 6
  exact lo_hourLines S hc ⟨rfl, _, rfl, rfl, rfl, rfl⟩ 13 0 _ _ rfl rfl rfl
end ZLINES
end
