section
-- ===== PART A: goes FIRST, ahead of the names: the tables' words, and 'selects' of the private methods out of them =====
/-- a private method of a class that the tables say can be made, by its rows of tables_1 -/
def lw_okq (q : MethodName × Nat) : Prop := (q.1.cls ≠ "java/lang/invoke/MethodHandle" ∧ q.1.cls ≠ "java/lang/invoke/VarHandle") ∧ Cond.instantiable q.1.cls q.2 ∈ tables_1 ∧ Cond.privateMethod q.1 ∈ tables_1 ∧ Cond.instanceMethod q.1 ∈ tables_1
theorem lw_p0 : lw_okq (⟨"SundialWorks", "recorded", "(I)I"⟩, 5) := ⟨⟨by decide +kernel, by decide +kernel⟩, List.mem_of_getElem? (i := 18) (by decide +kernel), List.mem_of_getElem? (i := 269) (by decide +kernel), List.mem_of_getElem? (i := 270) (by decide +kernel)⟩
theorem lw_p1 : lw_okq (⟨"SundialWorks", "judge", "(I)I"⟩, 5) := ⟨⟨by decide +kernel, by decide +kernel⟩, List.mem_of_getElem? (i := 18) (by decide +kernel), List.mem_of_getElem? (i := 339) (by decide +kernel), List.mem_of_getElem? (i := 340) (by decide +kernel)⟩
theorem lw_p2 : lw_okq (⟨"SundialWorks", "layDial", "(I)Z"⟩, 5) := ⟨⟨by decide +kernel, by decide +kernel⟩, List.mem_of_getElem? (i := 18) (by decide +kernel), List.mem_of_getElem? (i := 347) (by decide +kernel), List.mem_of_getElem? (i := 348) (by decide +kernel)⟩
theorem lw_p3 : lw_okq (⟨"SundialWorks", "failedAt", "(I)I"⟩, 5) := ⟨⟨by decide +kernel, by decide +kernel⟩, List.mem_of_getElem? (i := 18) (by decide +kernel), List.mem_of_getElem? (i := 609) (by decide +kernel), List.mem_of_getElem? (i := 610) (by decide +kernel)⟩
theorem lw_p4 : lw_okq (⟨"SundialWorks", "perform", "(I)I"⟩, 5) := ⟨⟨by decide +kernel, by decide +kernel⟩, List.mem_of_getElem? (i := 18) (by decide +kernel), List.mem_of_getElem? (i := 614) (by decide +kernel), List.mem_of_getElem? (i := 615) (by decide +kernel)⟩
theorem lw_p5 : lw_okq (⟨"SundialWorksModel", "act", "()V"⟩, 15) := ⟨⟨by decide +kernel, by decide +kernel⟩, List.mem_of_getElem? (i := 702) (by decide +kernel), List.mem_of_getElem? (i := 762) (by decide +kernel), List.mem_of_getElem? (i := 763) (by decide +kernel)⟩
theorem lw_p6 : lw_okq (⟨"SundialWorksModel", "wallCode", "()I"⟩, 15) := ⟨⟨by decide +kernel, by decide +kernel⟩, List.mem_of_getElem? (i := 702) (by decide +kernel), List.mem_of_getElem? (i := 780) (by decide +kernel), List.mem_of_getElem? (i := 781) (by decide +kernel)⟩
theorem lw_p7 : lw_okq (⟨"SundialWorksModel", "wallNow", "()I"⟩, 15) := ⟨⟨by decide +kernel, by decide +kernel⟩, List.mem_of_getElem? (i := 702) (by decide +kernel), List.mem_of_getElem? (i := 785) (by decide +kernel), List.mem_of_getElem? (i := 786) (by decide +kernel)⟩
theorem lw_p8 : lw_okq (⟨"SundialWorksModel", "measureCode", "(II)I"⟩, 15) := ⟨⟨by decide +kernel, by decide +kernel⟩, List.mem_of_getElem? (i := 702) (by decide +kernel), List.mem_of_getElem? (i := 794) (by decide +kernel), List.mem_of_getElem? (i := 795) (by decide +kernel)⟩
theorem lw_p9 : lw_okq (⟨"SundialWorksModel", "isWall", "(I)Z"⟩, 15) := ⟨⟨by decide +kernel, by decide +kernel⟩, List.mem_of_getElem? (i := 702) (by decide +kernel), List.mem_of_getElem? (i := 798) (by decide +kernel), List.mem_of_getElem? (i := 799) (by decide +kernel)⟩
theorem lw_p10 : lw_okq (⟨"SundialWorksModel", "measureNow", "(II)I"⟩, 15) := ⟨⟨by decide +kernel, by decide +kernel⟩, List.mem_of_getElem? (i := 702) (by decide +kernel), List.mem_of_getElem? (i := 802) (by decide +kernel), List.mem_of_getElem? (i := 803) (by decide +kernel)⟩
theorem lw_p11 : lw_okq (⟨"SundialWorksModel", "declinationOfWall", "(I)I"⟩, 15) := ⟨⟨by decide +kernel, by decide +kernel⟩, List.mem_of_getElem? (i := 702) (by decide +kernel), List.mem_of_getElem? (i := 806) (by decide +kernel), List.mem_of_getElem? (i := 807) (by decide +kernel)⟩
theorem lw_p12 : lw_okq (⟨"SundialWorksModel", "askCode", "(IIII)I"⟩, 15) := ⟨⟨by decide +kernel, by decide +kernel⟩, List.mem_of_getElem? (i := 702) (by decide +kernel), List.mem_of_getElem? (i := 821) (by decide +kernel), List.mem_of_getElem? (i := 822) (by decide +kernel)⟩
theorem lw_p13 : lw_okq (⟨"SundialWorksModel", "askNow", "(IIII)I"⟩, 15) := ⟨⟨by decide +kernel, by decide +kernel⟩, List.mem_of_getElem? (i := 702) (by decide +kernel), List.mem_of_getElem? (i := 825) (by decide +kernel), List.mem_of_getElem? (i := 826) (by decide +kernel)⟩
theorem lw_p14 : lw_okq (⟨"SundialWorksModel", "put", "(III)V"⟩, 15) := ⟨⟨by decide +kernel, by decide +kernel⟩, List.mem_of_getElem? (i := 702) (by decide +kernel), List.mem_of_getElem? (i := 829) (by decide +kernel), List.mem_of_getElem? (i := 830) (by decide +kernel)⟩
theorem lw_p15 : lw_okq (⟨"SundialWorksModel", "stateCode", "(II)I"⟩, 15) := ⟨⟨by decide +kernel, by decide +kernel⟩, List.mem_of_getElem? (i := 702) (by decide +kernel), List.mem_of_getElem? (i := 837) (by decide +kernel), List.mem_of_getElem? (i := 838) (by decide +kernel)⟩
def lw_privs_1 : List (MethodName × Nat) := [(⟨"SundialWorks", "recorded", "(I)I"⟩, 5), (⟨"SundialWorks", "judge", "(I)I"⟩, 5), (⟨"SundialWorks", "layDial", "(I)Z"⟩, 5), (⟨"SundialWorks", "failedAt", "(I)I"⟩, 5), (⟨"SundialWorks", "perform", "(I)I"⟩, 5), (⟨"SundialWorksModel", "act", "()V"⟩, 15), (⟨"SundialWorksModel", "wallCode", "()I"⟩, 15), (⟨"SundialWorksModel", "wallNow", "()I"⟩, 15), (⟨"SundialWorksModel", "measureCode", "(II)I"⟩, 15), (⟨"SundialWorksModel", "isWall", "(I)Z"⟩, 15), (⟨"SundialWorksModel", "measureNow", "(II)I"⟩, 15), (⟨"SundialWorksModel", "declinationOfWall", "(I)I"⟩, 15), (⟨"SundialWorksModel", "askCode", "(IIII)I"⟩, 15), (⟨"SundialWorksModel", "askNow", "(IIII)I"⟩, 15), (⟨"SundialWorksModel", "put", "(III)V"⟩, 15), (⟨"SundialWorksModel", "stateCode", "(II)I"⟩, 15)]
theorem lw_r1 : ∀ q ∈ lw_privs_1, lw_okq q := List.forall_mem_cons.mpr ⟨lw_p0, List.forall_mem_cons.mpr ⟨lw_p1, List.forall_mem_cons.mpr ⟨lw_p2, List.forall_mem_cons.mpr ⟨lw_p3, List.forall_mem_cons.mpr ⟨lw_p4, List.forall_mem_cons.mpr ⟨lw_p5, List.forall_mem_cons.mpr ⟨lw_p6, List.forall_mem_cons.mpr ⟨lw_p7, List.forall_mem_cons.mpr ⟨lw_p8, List.forall_mem_cons.mpr ⟨lw_p9, List.forall_mem_cons.mpr ⟨lw_p10, List.forall_mem_cons.mpr ⟨lw_p11, List.forall_mem_cons.mpr ⟨lw_p12, List.forall_mem_cons.mpr ⟨lw_p13, List.forall_mem_cons.mpr ⟨lw_p14, List.forall_mem_cons.mpr ⟨lw_p15, fun _ h => absurd h List.not_mem_nil⟩⟩⟩⟩⟩⟩⟩⟩⟩⟩⟩⟩⟩⟩⟩⟩
theorem lw_p16 : lw_okq (⟨"SundialWorksModel", "isCommission", "(I)Z"⟩, 15) := ⟨⟨by decide +kernel, by decide +kernel⟩, List.mem_of_getElem? (i := 702) (by decide +kernel), List.mem_of_getElem? (i := 841) (by decide +kernel), List.mem_of_getElem? (i := 842) (by decide +kernel)⟩
theorem lw_p17 : lw_okq (⟨"SundialWorksModel", "of", "(II)I"⟩, 15) := ⟨⟨by decide +kernel, by decide +kernel⟩, List.mem_of_getElem? (i := 702) (by decide +kernel), List.mem_of_getElem? (i := 845) (by decide +kernel), List.mem_of_getElem? (i := 846) (by decide +kernel)⟩
theorem lw_p18 : lw_okq (⟨"SundialWorksModel", "decideNow", "(I)I"⟩, 15) := ⟨⟨by decide +kernel, by decide +kernel⟩, List.mem_of_getElem? (i := 702) (by decide +kernel), List.mem_of_getElem? (i := 850) (by decide +kernel), List.mem_of_getElem? (i := 851) (by decide +kernel)⟩
theorem lw_p19 : lw_okq (⟨"SundialWorksModel", "reasonFor", "(I)I"⟩, 15) := ⟨⟨by decide +kernel, by decide +kernel⟩, List.mem_of_getElem? (i := 702) (by decide +kernel), List.mem_of_getElem? (i := 854) (by decide +kernel), List.mem_of_getElem? (i := 855) (by decide +kernel)⟩
theorem lw_p20 : lw_okq (⟨"SundialWorksModel", "takeDial", "(I)Z"⟩, 15) := ⟨⟨by decide +kernel, by decide +kernel⟩, List.mem_of_getElem? (i := 702) (by decide +kernel), List.mem_of_getElem? (i := 858) (by decide +kernel), List.mem_of_getElem? (i := 859) (by decide +kernel)⟩
theorem lw_p21 : lw_okq (⟨"SundialWorksModel", "declinationOf", "(I)I"⟩, 15) := ⟨⟨by decide +kernel, by decide +kernel⟩, List.mem_of_getElem? (i := 702) (by decide +kernel), List.mem_of_getElem? (i := 862) (by decide +kernel), List.mem_of_getElem? (i := 863) (by decide +kernel)⟩
theorem lw_p22 : lw_okq (⟨"SundialWorksModel", "reckon", "(IZI)V"⟩, 15) := ⟨⟨by decide +kernel, by decide +kernel⟩, List.mem_of_getElem? (i := 702) (by decide +kernel), List.mem_of_getElem? (i := 866) (by decide +kernel), List.mem_of_getElem? (i := 867) (by decide +kernel)⟩
theorem lw_p23 : lw_okq (⟨"SundialWorksModel", "hourLines", "()I"⟩, 15) := ⟨⟨by decide +kernel, by decide +kernel⟩, List.mem_of_getElem? (i := 702) (by decide +kernel), List.mem_of_getElem? (i := 888) (by decide +kernel), List.mem_of_getElem? (i := 889) (by decide +kernel)⟩
theorem lw_p24 : lw_okq (⟨"SundialWorksModel", "has", "(I)Z"⟩, 15) := ⟨⟨by decide +kernel, by decide +kernel⟩, List.mem_of_getElem? (i := 702) (by decide +kernel), List.mem_of_getElem? (i := 892) (by decide +kernel), List.mem_of_getElem? (i := 893) (by decide +kernel)⟩
theorem lw_p25 : lw_okq (⟨"SundialWorksModel", "apartOf", "(I)I"⟩, 15) := ⟨⟨by decide +kernel, by decide +kernel⟩, List.mem_of_getElem? (i := 702) (by decide +kernel), List.mem_of_getElem? (i := 896) (by decide +kernel), List.mem_of_getElem? (i := 897) (by decide +kernel)⟩
theorem lw_p26 : lw_okq (⟨"SundialWorksModel", "off", "(I)I"⟩, 15) := ⟨⟨by decide +kernel, by decide +kernel⟩, List.mem_of_getElem? (i := 702) (by decide +kernel), List.mem_of_getElem? (i := 900) (by decide +kernel), List.mem_of_getElem? (i := 901) (by decide +kernel)⟩
theorem lw_p27 : lw_okq (⟨"SundialWorksModel", "byLines", "(I)I"⟩, 15) := ⟨⟨by decide +kernel, by decide +kernel⟩, List.mem_of_getElem? (i := 702) (by decide +kernel), List.mem_of_getElem? (i := 904) (by decide +kernel), List.mem_of_getElem? (i := 905) (by decide +kernel)⟩
theorem lw_p28 : lw_okq (⟨"SundialWorksModel", "weightOf", "(I)I"⟩, 15) := ⟨⟨by decide +kernel, by decide +kernel⟩, List.mem_of_getElem? (i := 702) (by decide +kernel), List.mem_of_getElem? (i := 909) (by decide +kernel), List.mem_of_getElem? (i := 910) (by decide +kernel)⟩
theorem lw_p29 : lw_okq (⟨"SundialWorksModel", "castCode", "()I"⟩, 15) := ⟨⟨by decide +kernel, by decide +kernel⟩, List.mem_of_getElem? (i := 702) (by decide +kernel), List.mem_of_getElem? (i := 922) (by decide +kernel), List.mem_of_getElem? (i := 923) (by decide +kernel)⟩
theorem lw_p30 : lw_okq (⟨"SundialWorksModel", "takeStates", "()V"⟩, 15) := ⟨⟨by decide +kernel, by decide +kernel⟩, List.mem_of_getElem? (i := 702) (by decide +kernel), List.mem_of_getElem? (i := 926) (by decide +kernel), List.mem_of_getElem? (i := 927) (by decide +kernel)⟩
theorem lw_p31 : lw_okq (⟨"SundialWorksModel", "melt", "()I"⟩, 15) := ⟨⟨by decide +kernel, by decide +kernel⟩, List.mem_of_getElem? (i := 702) (by decide +kernel), List.mem_of_getElem? (i := 930) (by decide +kernel), List.mem_of_getElem? (i := 931) (by decide +kernel)⟩
def lw_privs_2 : List (MethodName × Nat) := [(⟨"SundialWorksModel", "isCommission", "(I)Z"⟩, 15), (⟨"SundialWorksModel", "of", "(II)I"⟩, 15), (⟨"SundialWorksModel", "decideNow", "(I)I"⟩, 15), (⟨"SundialWorksModel", "reasonFor", "(I)I"⟩, 15), (⟨"SundialWorksModel", "takeDial", "(I)Z"⟩, 15), (⟨"SundialWorksModel", "declinationOf", "(I)I"⟩, 15), (⟨"SundialWorksModel", "reckon", "(IZI)V"⟩, 15), (⟨"SundialWorksModel", "hourLines", "()I"⟩, 15), (⟨"SundialWorksModel", "has", "(I)Z"⟩, 15), (⟨"SundialWorksModel", "apartOf", "(I)I"⟩, 15), (⟨"SundialWorksModel", "off", "(I)I"⟩, 15), (⟨"SundialWorksModel", "byLines", "(I)I"⟩, 15), (⟨"SundialWorksModel", "weightOf", "(I)I"⟩, 15), (⟨"SundialWorksModel", "castCode", "()I"⟩, 15), (⟨"SundialWorksModel", "takeStates", "()V"⟩, 15), (⟨"SundialWorksModel", "melt", "()I"⟩, 15)]
theorem lw_r2 : ∀ q ∈ lw_privs_2, lw_okq q := List.forall_mem_cons.mpr ⟨lw_p16, List.forall_mem_cons.mpr ⟨lw_p17, List.forall_mem_cons.mpr ⟨lw_p18, List.forall_mem_cons.mpr ⟨lw_p19, List.forall_mem_cons.mpr ⟨lw_p20, List.forall_mem_cons.mpr ⟨lw_p21, List.forall_mem_cons.mpr ⟨lw_p22, List.forall_mem_cons.mpr ⟨lw_p23, List.forall_mem_cons.mpr ⟨lw_p24, List.forall_mem_cons.mpr ⟨lw_p25, List.forall_mem_cons.mpr ⟨lw_p26, List.forall_mem_cons.mpr ⟨lw_p27, List.forall_mem_cons.mpr ⟨lw_p28, List.forall_mem_cons.mpr ⟨lw_p29, List.forall_mem_cons.mpr ⟨lw_p30, List.forall_mem_cons.mpr ⟨lw_p31, fun _ h => absurd h List.not_mem_nil⟩⟩⟩⟩⟩⟩⟩⟩⟩⟩⟩⟩⟩⟩⟩⟩
theorem lw_p32 : lw_okq (⟨"SundialWorksModel", "castNow", "()I"⟩, 15) := ⟨⟨by decide +kernel, by decide +kernel⟩, List.mem_of_getElem? (i := 702) (by decide +kernel), List.mem_of_getElem? (i := 934) (by decide +kernel), List.mem_of_getElem? (i := 935) (by decide +kernel)⟩
theorem lw_p33 : lw_okq (⟨"SundialWorksModel", "deliverNow", "(I)I"⟩, 15) := ⟨⟨by decide +kernel, by decide +kernel⟩, List.mem_of_getElem? (i := 702) (by decide +kernel), List.mem_of_getElem? (i := 942) (by decide +kernel), List.mem_of_getElem? (i := 943) (by decide +kernel)⟩
theorem lw_p34 : lw_okq (⟨"SundialWorksModel", "inState", "(I)I"⟩, 15) := ⟨⟨by decide +kernel, by decide +kernel⟩, List.mem_of_getElem? (i := 702) (by decide +kernel), List.mem_of_getElem? (i := 946) (by decide +kernel), List.mem_of_getElem? (i := 947) (by decide +kernel)⟩
theorem lw_p35 : lw_okq (⟨"SundialWorksModel", "next", "()V"⟩, 15) := ⟨⟨by decide +kernel, by decide +kernel⟩, List.mem_of_getElem? (i := 702) (by decide +kernel), List.mem_of_getElem? (i := 980) (by decide +kernel), List.mem_of_getElem? (i := 981) (by decide +kernel)⟩
theorem lw_p36 : lw_okq (⟨"SundialWorksModel", "at", "(I)I"⟩, 15) := ⟨⟨by decide +kernel, by decide +kernel⟩, List.mem_of_getElem? (i := 702) (by decide +kernel), List.mem_of_getElem? (i := 984) (by decide +kernel), List.mem_of_getElem? (i := 985) (by decide +kernel)⟩
theorem lw_p37 : lw_okq (⟨"SundialWorksModel", "command", "()I"⟩, 15) := ⟨⟨by decide +kernel, by decide +kernel⟩, List.mem_of_getElem? (i := 702) (by decide +kernel), List.mem_of_getElem? (i := 988) (by decide +kernel), List.mem_of_getElem? (i := 989) (by decide +kernel)⟩
theorem lw_p38 : lw_okq (⟨"SundialWorksModel", "wordHere", "()I"⟩, 15) := ⟨⟨by decide +kernel, by decide +kernel⟩, List.mem_of_getElem? (i := 702) (by decide +kernel), List.mem_of_getElem? (i := 992) (by decide +kernel), List.mem_of_getElem? (i := 993) (by decide +kernel)⟩
theorem lw_p39 : lw_okq (⟨"SundialWorksModel", "isWord", "(I)Z"⟩, 15) := ⟨⟨by decide +kernel, by decide +kernel⟩, List.mem_of_getElem? (i := 702) (by decide +kernel), List.mem_of_getElem? (i := 996) (by decide +kernel), List.mem_of_getElem? (i := 997) (by decide +kernel)⟩
theorem lw_p40 : lw_okq (⟨"SundialWorksModel", "fail", "(I)V"⟩, 15) := ⟨⟨by decide +kernel, by decide +kernel⟩, List.mem_of_getElem? (i := 702) (by decide +kernel), List.mem_of_getElem? (i := 1006) (by decide +kernel), List.mem_of_getElem? (i := 1007) (by decide +kernel)⟩
theorem lw_p41 : lw_okq (⟨"SundialWorksModel", "readNumber", "(II)V"⟩, 15) := ⟨⟨by decide +kernel, by decide +kernel⟩, List.mem_of_getElem? (i := 702) (by decide +kernel), List.mem_of_getElem? (i := 1013) (by decide +kernel), List.mem_of_getElem? (i := 1014) (by decide +kernel)⟩
theorem lw_p42 : lw_okq (⟨"SundialWorksModel", "codeOf", "(IIII)I"⟩, 15) := ⟨⟨by decide +kernel, by decide +kernel⟩, List.mem_of_getElem? (i := 702) (by decide +kernel), List.mem_of_getElem? (i := 1017) (by decide +kernel), List.mem_of_getElem? (i := 1018) (by decide +kernel)⟩
theorem lw_p43 : lw_okq (⟨"SundialWorksModel", "carry", "(IIII)I"⟩, 15) := ⟨⟨by decide +kernel, by decide +kernel⟩, List.mem_of_getElem? (i := 702) (by decide +kernel), List.mem_of_getElem? (i := 1021) (by decide +kernel), List.mem_of_getElem? (i := 1022) (by decide +kernel)⟩
theorem lw_p44 : lw_okq (⟨"SundialWorksModel", "knownWalls", "()I"⟩, 15) := ⟨⟨by decide +kernel, by decide +kernel⟩, List.mem_of_getElem? (i := 702) (by decide +kernel), List.mem_of_getElem? (i := 1029) (by decide +kernel), List.mem_of_getElem? (i := 1030) (by decide +kernel)⟩
theorem lw_p45 : lw_okq (⟨"SundialWorksModel", "commissionsFor", "(I)I"⟩, 15) := ⟨⟨by decide +kernel, by decide +kernel⟩, List.mem_of_getElem? (i := 702) (by decide +kernel), List.mem_of_getElem? (i := 1037) (by decide +kernel), List.mem_of_getElem? (i := 1038) (by decide +kernel)⟩
theorem lw_p46 : lw_okq (⟨"SundialWorksModel", "byShadow", "(I)I"⟩, 15) := ⟨⟨by decide +kernel, by decide +kernel⟩, List.mem_of_getElem? (i := 702) (by decide +kernel), List.mem_of_getElem? (i := 1065) (by decide +kernel), List.mem_of_getElem? (i := 1066) (by decide +kernel)⟩
def lw_privs_3 : List (MethodName × Nat) := [(⟨"SundialWorksModel", "castNow", "()I"⟩, 15), (⟨"SundialWorksModel", "deliverNow", "(I)I"⟩, 15), (⟨"SundialWorksModel", "inState", "(I)I"⟩, 15), (⟨"SundialWorksModel", "next", "()V"⟩, 15), (⟨"SundialWorksModel", "at", "(I)I"⟩, 15), (⟨"SundialWorksModel", "command", "()I"⟩, 15), (⟨"SundialWorksModel", "wordHere", "()I"⟩, 15), (⟨"SundialWorksModel", "isWord", "(I)Z"⟩, 15), (⟨"SundialWorksModel", "fail", "(I)V"⟩, 15), (⟨"SundialWorksModel", "readNumber", "(II)V"⟩, 15), (⟨"SundialWorksModel", "codeOf", "(IIII)I"⟩, 15), (⟨"SundialWorksModel", "carry", "(IIII)I"⟩, 15), (⟨"SundialWorksModel", "knownWalls", "()I"⟩, 15), (⟨"SundialWorksModel", "commissionsFor", "(I)I"⟩, 15), (⟨"SundialWorksModel", "byShadow", "(I)I"⟩, 15)]
theorem lw_r3 : ∀ q ∈ lw_privs_3, lw_okq q := List.forall_mem_cons.mpr ⟨lw_p32, List.forall_mem_cons.mpr ⟨lw_p33, List.forall_mem_cons.mpr ⟨lw_p34, List.forall_mem_cons.mpr ⟨lw_p35, List.forall_mem_cons.mpr ⟨lw_p36, List.forall_mem_cons.mpr ⟨lw_p37, List.forall_mem_cons.mpr ⟨lw_p38, List.forall_mem_cons.mpr ⟨lw_p39, List.forall_mem_cons.mpr ⟨lw_p40, List.forall_mem_cons.mpr ⟨lw_p41, List.forall_mem_cons.mpr ⟨lw_p42, List.forall_mem_cons.mpr ⟨lw_p43, List.forall_mem_cons.mpr ⟨lw_p44, List.forall_mem_cons.mpr ⟨lw_p45, List.forall_mem_cons.mpr ⟨lw_p46, fun _ h => absurd h List.not_mem_nil⟩⟩⟩⟩⟩⟩⟩⟩⟩⟩⟩⟩⟩⟩⟩
def lw_privs : List (MethodName × Nat) := lw_privs_1 ++ (lw_privs_2 ++ (lw_privs_3))
def lw_tbl : List Cond := k2_sels lw_privs ++ tables_1
theorem lw_privs_ok : ∀ q ∈ lw_privs, lw_okq q := by
  show ∀ q ∈ lw_privs_1 ++ (lw_privs_2 ++ (lw_privs_3)), lw_okq q
  exact List.forall_mem_append.mpr ⟨lw_r1, List.forall_mem_append.mpr ⟨lw_r2, lw_r3⟩⟩
def RX0 : String := "SundialWorks$Commission"
def TX0 : u_T := fun k => match k with
  | 0 => ("SundialWorks$Commission", "latitude", "I", false)
  | 1 => ("SundialWorks$Commission", "wall", "I", false)
  | 2 => ("SundialWorks$Commission", "size", "I", false)
  | 3 => ("SundialWorks$Commission", "longitude", "I", false)
  | 4 => ("SundialWorks$Commission", "state", "I", false)
  | 5 => ("SundialWorks$Commission", "keptDeclination", "I", false)
  | 6 => ("SundialWorks$Commission", "casting", "I", false)
  | _ => ("SundialWorks$Commission", "refusal", "I", false)
def tyX0 : Nat → FieldType := fun k => match k with
  | 0 => .int
  | 1 => .int
  | 2 => .int
  | 3 => .int
  | 4 => .int
  | 5 => .int
  | 6 => .int
  | _ => .int
abbrev wsX00 : List Cond := u_ws RX0 TX0 8
theorem nmX0 : ∀ a, a < 8 → ∀ b, b < 8 → a ≠ b → (TX0 a).2.1 ≠ (TX0 b).2.1 := by decide +kernel
theorem tyX0_ok : ∀ k, k < 8 → parseFieldDescriptor (TX0 k).2.2.1 = some (tyX0 k) := by decide +kernel
abbrev cX0_init : ByteArray := prog_2_method_1_code
def yX0_init : MethodName := ⟨RX0, "<init>", "()V"⟩
abbrev cX0_copyFrom : ByteArray := prog_2_method_2_code
def yX0_copyFrom : MethodName := ⟨RX0, "copyFrom", "(LSundialWorks$Commission;)V"⟩
abbrev cX0_weight : ByteArray := prog_2_method_3_code
def yX0_weight : MethodName := ⟨RX0, "weight", "()I"⟩
abbrev cX0_isByWallNow : ByteArray := prog_2_method_4_code
def yX0_isByWallNow : MethodName := ⟨RX0, "isByWallNow", "()Z"⟩
def RX1 : String := "SundialWorks$Dial"
def TX1 : u_T := fun k => match k with
  | 0 => ("SundialWorks$Dial", "offsets", "[I", true)
  | 1 => ("SundialWorks$Dial", "farthest", "I", false)
  | _ => ("SundialWorks$Dial", "farthestTime", "I", false)
def tyX1 : Nat → FieldType := fun k => match k with
  | 0 => .array .int
  | 1 => .int
  | _ => .int
abbrev wsX10 : List Cond := u_ws RX1 TX1 3
theorem nmX1 : ∀ a, a < 3 → ∀ b, b < 3 → a ≠ b → (TX1 a).2.1 ≠ (TX1 b).2.1 := by decide +kernel
theorem tyX1_ok : ∀ k, k < 3 → parseFieldDescriptor (TX1 k).2.2.1 = some (tyX1 k) := by decide +kernel
abbrev cX1_init : ByteArray := prog_3_method_1_code
def yX1_init : MethodName := ⟨RX1, "<init>", "()V"⟩
abbrev cX1_lay : ByteArray := prog_3_method_2_code
def yX1_lay : MethodName := ⟨RX1, "lay", "(ZII)V"⟩
abbrev cX1_offsetOfShadow : ByteArray := prog_3_method_3_code
def yX1_offsetOfShadow : MethodName := ⟨RX1, "offsetOfShadow", "(JJ)I"⟩
abbrev cX1_offsetAt : ByteArray := prog_3_method_4_code
def yX1_offsetAt : MethodName := ⟨RX1, "offsetAt", "(I)I"⟩
abbrev cX1_countLines : ByteArray := prog_3_method_5_code
def yX1_countLines : MethodName := ⟨RX1, "countLines", "()I"⟩
abbrev cX1_firstLine : ByteArray := prog_3_method_6_code
def yX1_firstLine : MethodName := ⟨RX1, "firstLine", "()I"⟩
abbrev cX1_lastLine : ByteArray := prog_3_method_7_code
def yX1_lastLine : MethodName := ⟨RX1, "lastLine", "()I"⟩
abbrev cX1_readingByLines : ByteArray := prog_3_method_8_code
def yX1_readingByLines : MethodName := ⟨RX1, "readingByLines", "(I)I"⟩
abbrev cX1_readingByShadow : ByteArray := prog_3_method_9_code
def yX1_readingByShadow : MethodName := ⟨RX1, "readingByShadow", "(I)I"⟩
abbrev cX1_compareReadings : ByteArray := prog_3_method_10_code
def yX1_compareReadings : MethodName := ⟨RX1, "compareReadings", "()V"⟩
def RX2 : String := "SundialWorks$History"
def TX2 : u_T := fun k => match k with
  | 0 => ("SundialWorks$History", "ring", "[LSundialWorks$State;", true)
  | 1 => ("SundialWorks$History", "free", "I", false)
  | _ => ("SundialWorks$History", "kept", "I", false)
def tyX2 : Nat → FieldType := fun k => match k with
  | 0 => .array (.object "SundialWorks$State")
  | 1 => .int
  | _ => .int
abbrev wsX20 : List Cond := u_ws RX2 TX2 3
theorem nmX2 : ∀ a, a < 3 → ∀ b, b < 3 → a ≠ b → (TX2 a).2.1 ≠ (TX2 b).2.1 := by decide +kernel
theorem tyX2_ok : ∀ k, k < 3 → parseFieldDescriptor (TX2 k).2.2.1 = some (tyX2 k) := by decide +kernel
abbrev cX2_init : ByteArray := prog_4_method_1_code
def yX2_init : MethodName := ⟨RX2, "<init>", "()V"⟩
abbrev cX2_mark : ByteArray := prog_4_method_2_code
def yX2_mark : MethodName := ⟨RX2, "mark", "(LSundialWorks$State;)V"⟩
abbrev cX2_keepMarked : ByteArray := prog_4_method_3_code
def yX2_keepMarked : MethodName := ⟨RX2, "keepMarked", "()V"⟩
abbrev cX2_returnToMarked : ByteArray := prog_4_method_4_code
def yX2_returnToMarked : MethodName := ⟨RX2, "returnToMarked", "(LSundialWorks$State;)V"⟩
abbrev cX2_stepBack : ByteArray := prog_4_method_5_code
def yX2_stepBack : MethodName := ⟨RX2, "stepBack", "(LSundialWorks$State;)V"⟩
def RX3 : String := "SundialWorks$Program"
def TX3 : u_T := fun k => match k with
  | 0 => ("SundialWorks$Program", "text", "[C", true)
  | 1 => ("SundialWorks$Program", "numbers", "[I", true)
  | 2 => ("SundialWorks$Program", "length", "I", false)
  | 3 => ("SundialWorks$Program", "tokenStart", "I", false)
  | _ => ("SundialWorks$Program", "tokenEnd", "I", false)
def tyX3 : Nat → FieldType := fun k => match k with
  | 0 => .array .char
  | 1 => .array .int
  | 2 => .int
  | 3 => .int
  | _ => .int
abbrev wsX30 : List Cond := u_ws RX3 TX3 5
theorem nmX3 : ∀ a, a < 5 → ∀ b, b < 5 → a ≠ b → (TX3 a).2.1 ≠ (TX3 b).2.1 := by decide +kernel
theorem tyX3_ok : ∀ k, k < 5 → parseFieldDescriptor (TX3 k).2.2.1 = some (tyX3 k) := by decide +kernel
abbrev cX3_init : ByteArray := prog_5_method_1_code
def yX3_init : MethodName := ⟨RX3, "<init>", "()V"⟩
abbrev cX3_add : ByteArray := prog_5_method_2_code
def yX3_add : MethodName := ⟨RX3, "add", "(I)I"⟩
abbrev cX3_empty : ByteArray := prog_5_method_3_code
def yX3_empty : MethodName := ⟨RX3, "empty", "()I"⟩
abbrev cX3_rewind : ByteArray := prog_5_method_4_code
def yX3_rewind : MethodName := ⟨RX3, "rewind", "()V"⟩
abbrev cX3_advance : ByteArray := prog_5_method_5_code
def yX3_advance : MethodName := ⟨RX3, "advance", "()Z"⟩
abbrev cX3_kindOf : ByteArray := prog_5_method_6_code
def yX3_kindOf : MethodName := ⟨RX3, "kindOf", "(C)I"⟩
abbrev cX3_parseCommand : ByteArray := prog_5_method_7_code
def yX3_parseCommand : MethodName := ⟨RX3, "parseCommand", "()I"⟩
abbrev cX3_commandOfToken : ByteArray := prog_5_method_8_code
def yX3_commandOfToken : MethodName := ⟨RX3, "commandOfToken", "()I"⟩
abbrev cX3_wordOf : ByteArray := prog_5_method_9_code
def yX3_wordOf : MethodName := ⟨RX3, "wordOf", "(I)Ljava/lang/String;"⟩
abbrev cX3_tokenIs : ByteArray := prog_5_method_10_code
def yX3_tokenIs : MethodName := ⟨RX3, "tokenIs", "(Ljava/lang/String;)Z"⟩
abbrev cX3_numberOfToken : ByteArray := prog_5_method_11_code
def yX3_numberOfToken : MethodName := ⟨RX3, "numberOfToken", "()I"⟩
def RX4 : String := "SundialWorks$Shop"
def TX4 : u_T := fun k => match k with
  | 0 => ("SundialWorks$Shop", "walls", "[LSundialWorks$Wall;", true)
  | 1 => ("SundialWorks$Shop", "corrections", "[I", true)
  | 2 => ("SundialWorks$Shop", "settings", "[I", true)
  | 3 => ("SundialWorks$Shop", "commissions", "[LSundialWorks$Commission;", true)
  | 4 => ("SundialWorks$Shop", "wallCount", "I", false)
  | 5 => ("SundialWorks$Shop", "commissionCount", "I", false)
  | 6 => ("SundialWorks$Shop", "castings", "I", false)
  | _ => ("SundialWorks$Shop", "kilograms", "I", false)
def tyX4 : Nat → FieldType := fun k => match k with
  | 0 => .array (.object "SundialWorks$Wall")
  | 1 => .array .int
  | 2 => .array .int
  | 3 => .array (.object "SundialWorks$Commission")
  | 4 => .int
  | 5 => .int
  | 6 => .int
  | _ => .int
abbrev wsX40 : List Cond := u_ws RX4 TX4 8
theorem nmX4 : ∀ a, a < 8 → ∀ b, b < 8 → a ≠ b → (TX4 a).2.1 ≠ (TX4 b).2.1 := by decide +kernel
theorem tyX4_ok : ∀ k, k < 8 → parseFieldDescriptor (TX4 k).2.2.1 = some (tyX4 k) := by decide +kernel
abbrev cX4_init : ByteArray := prog_6_method_1_code
def yX4_init : MethodName := ⟨RX4, "<init>", "()V"⟩
abbrev cX4_copyFrom : ByteArray := prog_6_method_2_code
def yX4_copyFrom : MethodName := ⟨RX4, "copyFrom", "(LSundialWorks$Shop;)V"⟩
abbrev cX4_hasWall : ByteArray := prog_6_method_3_code
def yX4_hasWall : MethodName := ⟨RX4, "hasWall", "(I)Z"⟩
abbrev cX4_hasCommission : ByteArray := prog_6_method_4_code
def yX4_hasCommission : MethodName := ⟨RX4, "hasCommission", "(I)Z"⟩
abbrev cX4_changeCorrection : ByteArray := prog_6_method_5_code
def yX4_changeCorrection : MethodName := ⟨RX4, "changeCorrection", "(II)I"⟩
abbrev cX4_changeSetting : ByteArray := prog_6_method_6_code
def yX4_changeSetting : MethodName := ⟨RX4, "changeSetting", "(II)I"⟩
abbrev cX4_openWall : ByteArray := prog_6_method_7_code
def yX4_openWall : MethodName := ⟨RX4, "openWall", "()I"⟩
abbrev cX4_measureWall : ByteArray := prog_6_method_8_code
def yX4_measureWall : MethodName := ⟨RX4, "measureWall", "(II)I"⟩
abbrev cX4_openCommission : ByteArray := prog_6_method_9_code
def yX4_openCommission : MethodName := ⟨RX4, "openCommission", "(IIII)I"⟩
abbrev cX4_conclude : ByteArray := prog_6_method_10_code
def yX4_conclude : MethodName := ⟨RX4, "conclude", "(II)I"⟩
abbrev cX4_reopen : ByteArray := prog_6_method_11_code
def yX4_reopen : MethodName := ⟨RX4, "reopen", "(II)I"⟩
abbrev cX4_castMelt : ByteArray := prog_6_method_12_code
def yX4_castMelt : MethodName := ⟨RX4, "castMelt", "()I"⟩
abbrev cX4_meltsNeeded : ByteArray := prog_6_method_13_code
def yX4_meltsNeeded : MethodName := ⟨RX4, "meltsNeeded", "()I"⟩
abbrev cX4_acceptedOnes : ByteArray := prog_6_method_14_code
def yX4_acceptedOnes : MethodName := ⟨RX4, "acceptedOnes", "()I"⟩
abbrev cX4_nextMelt : ByteArray := prog_6_method_15_code
def yX4_nextMelt : MethodName := ⟨RX4, "nextMelt", "(I)I"⟩
abbrev cX4_handOver : ByteArray := prog_6_method_16_code
def yX4_handOver : MethodName := ⟨RX4, "handOver", "(I)I"⟩
abbrev cX4_knownWalls : ByteArray := prog_6_method_17_code
def yX4_knownWalls : MethodName := ⟨RX4, "knownWalls", "()I"⟩
abbrev cX4_commissionsInState : ByteArray := prog_6_method_18_code
def yX4_commissionsInState : MethodName := ⟨RX4, "commissionsInState", "(I)I"⟩
abbrev cX4_commissionsForWall : ByteArray := prog_6_method_19_code
def yX4_commissionsForWall : MethodName := ⟨RX4, "commissionsForWall", "(I)I"⟩
abbrev cX4_declinationOfWall : ByteArray := prog_6_method_20_code
def yX4_declinationOfWall : MethodName := ⟨RX4, "declinationOfWall", "(I)I"⟩
abbrev cX4_declinationOfDial : ByteArray := prog_6_method_21_code
def yX4_declinationOfDial : MethodName := ⟨RX4, "declinationOfDial", "(I)I"⟩
def RX5 : String := "SundialWorks$State"
def TX5 : u_T := fun k => match k with
  | 0 => ("SundialWorks$State", "shop", "LSundialWorks$Shop;", true)
  | 1 => ("SundialWorks$State", "slots", "[LSundialWorks$Shop;", true)
  | _ => ("SundialWorks$State", "filled", "[Z", true)
def tyX5 : Nat → FieldType := fun k => match k with
  | 0 => .object "SundialWorks$Shop"
  | 1 => .array (.object "SundialWorks$Shop")
  | _ => .array .boolean
abbrev wsX50 : List Cond := u_ws RX5 TX5 3
theorem nmX5 : ∀ a, a < 3 → ∀ b, b < 3 → a ≠ b → (TX5 a).2.1 ≠ (TX5 b).2.1 := by decide +kernel
theorem tyX5_ok : ∀ k, k < 3 → parseFieldDescriptor (TX5 k).2.2.1 = some (tyX5 k) := by decide +kernel
abbrev cX5_init : ByteArray := prog_7_method_1_code
def yX5_init : MethodName := ⟨RX5, "<init>", "()V"⟩
abbrev cX5_copyFrom : ByteArray := prog_7_method_2_code
def yX5_copyFrom : MethodName := ⟨RX5, "copyFrom", "(LSundialWorks$State;)V"⟩
abbrev cX5_keepSnapshot : ByteArray := prog_7_method_3_code
def yX5_keepSnapshot : MethodName := ⟨RX5, "keepSnapshot", "(I)I"⟩
abbrev cX5_fetchSnapshot : ByteArray := prog_7_method_4_code
def yX5_fetchSnapshot : MethodName := ⟨RX5, "fetchSnapshot", "(I)I"⟩
abbrev cX5_snapshots : ByteArray := prog_7_method_5_code
def yX5_snapshots : MethodName := ⟨RX5, "snapshots", "()I"⟩
def RX6 : String := "SundialWorks$Wall"
def TX6 : u_T := fun k => match k with
  | 0 => ("SundialWorks$Wall", "latest", "I", false)
  | _ => ("SundialWorks$Wall", "earlier", "I", false)
def tyX6 : Nat → FieldType := fun k => match k with
  | 0 => .int
  | _ => .int
abbrev wsX60 : List Cond := u_ws RX6 TX6 2
theorem nmX6 : ∀ a, a < 2 → ∀ b, b < 2 → a ≠ b → (TX6 a).2.1 ≠ (TX6 b).2.1 := by decide +kernel
theorem tyX6_ok : ∀ k, k < 2 → parseFieldDescriptor (TX6 k).2.2.1 = some (tyX6 k) := by decide +kernel
abbrev cX6_init : ByteArray := prog_8_method_1_code
def yX6_init : MethodName := ⟨RX6, "<init>", "()V"⟩
abbrev cX6_copyFrom : ByteArray := prog_8_method_2_code
def yX6_copyFrom : MethodName := ⟨RX6, "copyFrom", "(LSundialWorks$Wall;)V"⟩
abbrev cX6_isKnown : ByteArray := prog_8_method_3_code
def yX6_isKnown : MethodName := ⟨RX6, "isKnown", "(I)Z"⟩
def RX7 : String := "SundialWorks"
def TX7 : u_T := fun k => match k with
  | 0 => ("SundialWorks", "state", "LSundialWorks$State;", true)
  | 1 => ("SundialWorks", "history", "LSundialWorks$History;", true)
  | 2 => ("SundialWorks", "program", "LSundialWorks$Program;", true)
  | 3 => ("SundialWorks", "dial", "LSundialWorks$Dial;", true)
  | _ => ("SundialWorks", "shop", "LSundialWorks$Shop;", true)
def tyX7 : Nat → FieldType := fun k => match k with
  | 0 => .object "SundialWorks$State"
  | 1 => .object "SundialWorks$History"
  | 2 => .object "SundialWorks$Program"
  | 3 => .object "SundialWorks$Dial"
  | _ => .object "SundialWorks$Shop"
abbrev wsX70 : List Cond := u_ws RX7 TX7 5
theorem nmX7 : ∀ a, a < 5 → ∀ b, b < 5 → a ≠ b → (TX7 a).2.1 ≠ (TX7 b).2.1 := by decide +kernel
theorem tyX7_ok : ∀ k, k < 5 → parseFieldDescriptor (TX7 k).2.2.1 = some (tyX7 k) := by decide +kernel
abbrev cX7_init : ByteArray := prog_1_method_1_code
def yX7_init : MethodName := ⟨RX7, "<init>", "()V"⟩
abbrev cX7_setCorrection : ByteArray := prog_1_method_2_code
def yX7_setCorrection : MethodName := ⟨RX7, "setCorrection", "(II)I"⟩
abbrev cX7_set : ByteArray := prog_1_method_3_code
def yX7_set : MethodName := ⟨RX7, "set", "(II)I"⟩
abbrev cX7_addWall : ByteArray := prog_1_method_4_code
def yX7_addWall : MethodName := ⟨RX7, "addWall", "()I"⟩
abbrev cX7_measure : ByteArray := prog_1_method_5_code
def yX7_measure : MethodName := ⟨RX7, "measure", "(II)I"⟩
abbrev cX7_ask : ByteArray := prog_1_method_6_code
def yX7_ask : MethodName := ⟨RX7, "ask", "(IIII)I"⟩
abbrev cX7_decide : ByteArray := prog_1_method_7_code
def yX7_decide : MethodName := ⟨RX7, "decide", "(I)I"⟩
abbrev cX7_askAgain : ByteArray := prog_1_method_8_code
def yX7_askAgain : MethodName := ⟨RX7, "askAgain", "(I)I"⟩
abbrev cX7_cast : ByteArray := prog_1_method_9_code
def yX7_cast : MethodName := ⟨RX7, "cast", "()I"⟩
abbrev cX7_deliver : ByteArray := prog_1_method_10_code
def yX7_deliver : MethodName := ⟨RX7, "deliver", "(I)I"⟩
abbrev cX7_take : ByteArray := prog_1_method_11_code
def yX7_take : MethodName := ⟨RX7, "take", "(I)I"⟩
abbrev cX7_restore : ByteArray := prog_1_method_12_code
def yX7_restore : MethodName := ⟨RX7, "restore", "(I)I"⟩
abbrev cX7_undo : ByteArray := prog_1_method_13_code
def yX7_undo : MethodName := ⟨RX7, "undo", "()I"⟩
abbrev cX7_append : ByteArray := prog_1_method_14_code
def yX7_append : MethodName := ⟨RX7, "append", "(I)I"⟩
abbrev cX7_clearText : ByteArray := prog_1_method_15_code
def yX7_clearText : MethodName := ⟨RX7, "clearText", "()I"⟩
abbrev cX7_run : ByteArray := prog_1_method_16_code
def yX7_run : MethodName := ⟨RX7, "run", "()I"⟩
abbrev cX7_count : ByteArray := prog_1_method_17_code
def yX7_count : MethodName := ⟨RX7, "count", "(I)I"⟩
abbrev cX7_wall : ByteArray := prog_1_method_18_code
def yX7_wall : MethodName := ⟨RX7, "wall", "(II)I"⟩
abbrev cX7_commission : ByteArray := prog_1_method_19_code
def yX7_commission : MethodName := ⟨RX7, "commission", "(II)I"⟩
abbrev cX7_correction : ByteArray := prog_1_method_20_code
def yX7_correction : MethodName := ⟨RX7, "correction", "(I)I"⟩
abbrev cX7_sine : ByteArray := prog_1_method_21_code
def yX7_sine : MethodName := ⟨RX7, "sine", "(I)I"⟩
abbrev cX7_offset : ByteArray := prog_1_method_22_code
def yX7_offset : MethodName := ⟨RX7, "offset", "(II)I"⟩
abbrev cX7_lines : ByteArray := prog_1_method_23_code
def yX7_lines : MethodName := ⟨RX7, "lines", "(II)I"⟩
abbrev cX7_read : ByteArray := prog_1_method_24_code
def yX7_read : MethodName := ⟨RX7, "read", "(IIII)I"⟩
abbrev cX7_apart : ByteArray := prog_1_method_25_code
def yX7_apart : MethodName := ⟨RX7, "apart", "(II)I"⟩
abbrev cX7_reason : ByteArray := prog_1_method_26_code
def yX7_reason : MethodName := ⟨RX7, "reason", "(I)I"⟩
abbrev cX7_bestLatitude : ByteArray := prog_1_method_27_code
def yX7_bestLatitude : MethodName := ⟨RX7, "bestLatitude", "(I)I"⟩
abbrev cX7_melts : ByteArray := prog_1_method_28_code
def yX7_melts : MethodName := ⟨RX7, "melts", "()I"⟩
abbrev cX7_recorded : ByteArray := prog_1_method_29_code
def yX7_recorded : MethodName := ⟨RX7, "recorded", "(I)I"⟩
abbrev cX7_failedAt : ByteArray := prog_1_method_30_code
def yX7_failedAt : MethodName := ⟨RX7, "failedAt", "(I)I"⟩
abbrev cX7_perform : ByteArray := prog_1_method_31_code
def yX7_perform : MethodName := ⟨RX7, "perform", "(I)I"⟩
abbrev cX7_judge : ByteArray := prog_1_method_32_code
def yX7_judge : MethodName := ⟨RX7, "judge", "(I)I"⟩
abbrev cX7_layDial : ByteArray := prog_1_method_33_code
def yX7_layDial : MethodName := ⟨RX7, "layDial", "(I)Z"⟩
abbrev cX7_isError : ByteArray := prog_1_method_34_code
def yX7_isError : MethodName := ⟨RX7, "isError", "(I)Z"⟩
abbrev cX7_isWithin : ByteArray := prog_1_method_35_code
def yX7_isWithin : MethodName := ⟨RX7, "isWithin", "(III)Z"⟩
abbrev cX7_rounded : ByteArray := prog_1_method_36_code
def yX7_rounded : MethodName := ⟨RX7, "rounded", "(JJ)J"⟩
abbrev cX7_sineOf : ByteArray := prog_1_method_37_code
def yX7_sineOf : MethodName := ⟨RX7, "sineOf", "(I)I"⟩
def RX8 : String := "SundialWorksModel"
def TX8 : u_T := fun k => match k with
  | 0 => ("SundialWorksModel", "thrown", "I", false)
  | 1 => ("SundialWorksModel", "s", "[I", true)
  | 2 => ("SundialWorksModel", "aside", "[I", true)
  | 3 => ("SundialWorksModel", "saved", "[I", true)
  | 4 => ("SundialWorksModel", "savedMany", "I", false)
  | 5 => ("SundialWorksModel", "text", "[I", true)
  | 6 => ("SundialWorksModel", "length", "I", false)
  | 7 => ("SundialWorksModel", "numbers", "[I", true)
  | 8 => ("SundialWorksModel", "offsets", "[I", true)
  | 9 => ("SundialWorksModel", "isOn", "[Z", true)
  | 10 => ("SundialWorksModel", "states", "[I", true)
  | 11 => ("SundialWorksModel", "token", "I", false)
  | 12 => ("SundialWorksModel", "from", "I", false)
  | 13 => ("SundialWorksModel", "till", "I", false)
  | _ => ("SundialWorksModel", "fault", "I", false)
def tyX8 : Nat → FieldType := fun k => match k with
  | 0 => .int
  | 1 => .array .int
  | 2 => .array .int
  | 3 => .array .int
  | 4 => .int
  | 5 => .array .int
  | 6 => .int
  | 7 => .array .int
  | 8 => .array .int
  | 9 => .array .boolean
  | 10 => .array .int
  | 11 => .int
  | 12 => .int
  | 13 => .int
  | _ => .int
abbrev wsX80 : List Cond := u_ws RX8 TX8 15
theorem nmX8 : ∀ a, a < 15 → ∀ b, b < 15 → a ≠ b → (TX8 a).2.1 ≠ (TX8 b).2.1 := by decide +kernel
theorem tyX8_ok : ∀ k, k < 15 → parseFieldDescriptor (TX8 k).2.2.1 = some (tyX8 k) := by decide +kernel
abbrev cX8_init : ByteArray := prog_10_method_1_code
def yX8_init : MethodName := ⟨RX8, "<init>", "()V"⟩
abbrev cX8_in : ByteArray := prog_10_method_3_code
def yX8_in : MethodName := ⟨RX8, "in", "(III)Z"⟩
abbrev cX8_size : ByteArray := prog_10_method_4_code
def yX8_size : MethodName := ⟨RX8, "size", "(I)I"⟩
abbrev cX8_act : ByteArray := prog_10_method_5_code
def yX8_act : MethodName := ⟨RX8, "act", "()V"⟩
abbrev cX8_rounded : ByteArray := prog_10_method_6_code
def yX8_rounded : MethodName := ⟨RX8, "rounded", "(JJ)J"⟩
abbrev cX8_sineOf : ByteArray := prog_10_method_7_code
def yX8_sineOf : MethodName := ⟨RX8, "sineOf", "(I)J"⟩
abbrev cX8_cosineOf : ByteArray := prog_10_method_8_code
def yX8_cosineOf : MethodName := ⟨RX8, "cosineOf", "(I)J"⟩
abbrev cX8_sideOf : ByteArray := prog_10_method_9_code
def yX8_sideOf : MethodName := ⟨RX8, "sideOf", "(IZI)J"⟩
abbrev cX8_frontOf : ByteArray := prog_10_method_10_code
def yX8_frontOf : MethodName := ⟨RX8, "frontOf", "(IZII)J"⟩
abbrev cX8_reckon : ByteArray := prog_10_method_11_code
def yX8_reckon : MethodName := ⟨RX8, "reckon", "(IZI)V"⟩
abbrev cX8_has : ByteArray := prog_10_method_12_code
def yX8_has : MethodName := ⟨RX8, "has", "(I)Z"⟩
abbrev cX8_off : ByteArray := prog_10_method_13_code
def yX8_off : MethodName := ⟨RX8, "off", "(I)I"⟩
abbrev cX8_byLines : ByteArray := prog_10_method_14_code
def yX8_byLines : MethodName := ⟨RX8, "byLines", "(I)I"⟩
abbrev cX8_byShadow : ByteArray := prog_10_method_15_code
def yX8_byShadow : MethodName := ⟨RX8, "byShadow", "(I)I"⟩
abbrev cX8_apartOf : ByteArray := prog_10_method_16_code
def yX8_apartOf : MethodName := ⟨RX8, "apartOf", "(I)I"⟩
abbrev cX8_hourLines : ByteArray := prog_10_method_17_code
def yX8_hourLines : MethodName := ⟨RX8, "hourLines", "()I"⟩
abbrev cX8_of : ByteArray := prog_10_method_18_code
def yX8_of : MethodName := ⟨RX8, "of", "(II)I"⟩
abbrev cX8_put : ByteArray := prog_10_method_19_code
def yX8_put : MethodName := ⟨RX8, "put", "(III)V"⟩
abbrev cX8_isWall : ByteArray := prog_10_method_20_code
def yX8_isWall : MethodName := ⟨RX8, "isWall", "(I)Z"⟩
abbrev cX8_isCommission : ByteArray := prog_10_method_21_code
def yX8_isCommission : MethodName := ⟨RX8, "isCommission", "(I)Z"⟩
abbrev cX8_isBit : ByteArray := prog_10_method_22_code
def yX8_isBit : MethodName := ⟨RX8, "isBit", "(I)Z"⟩
abbrev cX8_setCorrection : ByteArray := prog_10_method_23_code
def yX8_setCorrection : MethodName := ⟨RX8, "setCorrection", "(II)I"⟩
abbrev cX8_leastOf : ByteArray := prog_10_method_24_code
def yX8_leastOf : MethodName := ⟨RX8, "leastOf", "(I)I"⟩
abbrev cX8_mostOf : ByteArray := prog_10_method_25_code
def yX8_mostOf : MethodName := ⟨RX8, "mostOf", "(I)I"⟩
abbrev cX8_set : ByteArray := prog_10_method_26_code
def yX8_set : MethodName := ⟨RX8, "set", "(II)I"⟩
abbrev cX8_wallCode : ByteArray := prog_10_method_27_code
def yX8_wallCode : MethodName := ⟨RX8, "wallCode", "()I"⟩
abbrev cX8_wallNow : ByteArray := prog_10_method_28_code
def yX8_wallNow : MethodName := ⟨RX8, "wallNow", "()I"⟩
abbrev cX8_addWall : ByteArray := prog_10_method_29_code
def yX8_addWall : MethodName := ⟨RX8, "addWall", "()I"⟩
abbrev cX8_declinationOfWall : ByteArray := prog_10_method_30_code
def yX8_declinationOfWall : MethodName := ⟨RX8, "declinationOfWall", "(I)I"⟩
abbrev cX8_measureCode : ByteArray := prog_10_method_31_code
def yX8_measureCode : MethodName := ⟨RX8, "measureCode", "(II)I"⟩
abbrev cX8_measureNow : ByteArray := prog_10_method_32_code
def yX8_measureNow : MethodName := ⟨RX8, "measureNow", "(II)I"⟩
abbrev cX8_measure : ByteArray := prog_10_method_33_code
def yX8_measure : MethodName := ⟨RX8, "measure", "(II)I"⟩
abbrev cX8_declinationOf : ByteArray := prog_10_method_34_code
def yX8_declinationOf : MethodName := ⟨RX8, "declinationOf", "(I)I"⟩
abbrev cX8_takeDial : ByteArray := prog_10_method_35_code
def yX8_takeDial : MethodName := ⟨RX8, "takeDial", "(I)Z"⟩
abbrev cX8_weightOf : ByteArray := prog_10_method_36_code
def yX8_weightOf : MethodName := ⟨RX8, "weightOf", "(I)I"⟩
abbrev cX8_reasonFor : ByteArray := prog_10_method_37_code
def yX8_reasonFor : MethodName := ⟨RX8, "reasonFor", "(I)I"⟩
abbrev cX8_askCode : ByteArray := prog_10_method_38_code
def yX8_askCode : MethodName := ⟨RX8, "askCode", "(IIII)I"⟩
abbrev cX8_askNow : ByteArray := prog_10_method_39_code
def yX8_askNow : MethodName := ⟨RX8, "askNow", "(IIII)I"⟩
abbrev cX8_ask : ByteArray := prog_10_method_40_code
def yX8_ask : MethodName := ⟨RX8, "ask", "(IIII)I"⟩
abbrev cX8_stateCode : ByteArray := prog_10_method_41_code
def yX8_stateCode : MethodName := ⟨RX8, "stateCode", "(II)I"⟩
abbrev cX8_decideNow : ByteArray := prog_10_method_42_code
def yX8_decideNow : MethodName := ⟨RX8, "decideNow", "(I)I"⟩
abbrev cX8_decide : ByteArray := prog_10_method_43_code
def yX8_decide : MethodName := ⟨RX8, "decide", "(I)I"⟩
abbrev cX8_askAgain : ByteArray := prog_10_method_44_code
def yX8_askAgain : MethodName := ⟨RX8, "askAgain", "(I)I"⟩
abbrev cX8_melt : ByteArray := prog_10_method_45_code
def yX8_melt : MethodName := ⟨RX8, "melt", "()I"⟩
abbrev cX8_takeStates : ByteArray := prog_10_method_46_code
def yX8_takeStates : MethodName := ⟨RX8, "takeStates", "()V"⟩
abbrev cX8_castCode : ByteArray := prog_10_method_47_code
def yX8_castCode : MethodName := ⟨RX8, "castCode", "()I"⟩
abbrev cX8_castNow : ByteArray := prog_10_method_48_code
def yX8_castNow : MethodName := ⟨RX8, "castNow", "()I"⟩
abbrev cX8_cast : ByteArray := prog_10_method_49_code
def yX8_cast : MethodName := ⟨RX8, "cast", "()I"⟩
abbrev cX8_inState : ByteArray := prog_10_method_50_code
def yX8_inState : MethodName := ⟨RX8, "inState", "(I)I"⟩
abbrev cX8_deliverNow : ByteArray := prog_10_method_51_code
def yX8_deliverNow : MethodName := ⟨RX8, "deliverNow", "(I)I"⟩
abbrev cX8_deliver : ByteArray := prog_10_method_52_code
def yX8_deliver : MethodName := ⟨RX8, "deliver", "(I)I"⟩
abbrev cX8_slotAt : ByteArray := prog_10_method_53_code
def yX8_slotAt : MethodName := ⟨RX8, "slotAt", "(I)I"⟩
abbrev cX8_take : ByteArray := prog_10_method_54_code
def yX8_take : MethodName := ⟨RX8, "take", "(I)I"⟩
abbrev cX8_restore : ByteArray := prog_10_method_55_code
def yX8_restore : MethodName := ⟨RX8, "restore", "(I)I"⟩
abbrev cX8_undo : ByteArray := prog_10_method_56_code
def yX8_undo : MethodName := ⟨RX8, "undo", "()I"⟩
abbrev cX8_append : ByteArray := prog_10_method_57_code
def yX8_append : MethodName := ⟨RX8, "append", "(I)I"⟩
abbrev cX8_clearText : ByteArray := prog_10_method_58_code
def yX8_clearText : MethodName := ⟨RX8, "clearText", "()I"⟩
abbrev cX8_at : ByteArray := prog_10_method_59_code
def yX8_at : MethodName := ⟨RX8, "at", "(I)I"⟩
abbrev cX8_next : ByteArray := prog_10_method_60_code
def yX8_next : MethodName := ⟨RX8, "next", "()V"⟩
abbrev cX8_fail : ByteArray := prog_10_method_61_code
def yX8_fail : MethodName := ⟨RX8, "fail", "(I)V"⟩
abbrev cX8_spelled : ByteArray := prog_10_method_62_code
def yX8_spelled : MethodName := ⟨RX8, "spelled", "(IIIIIII)I"⟩
abbrev cX8_letterOf : ByteArray := prog_10_method_63_code
def yX8_letterOf : MethodName := ⟨RX8, "letterOf", "(II)I"⟩
abbrev cX8_isWord : ByteArray := prog_10_method_64_code
def yX8_isWord : MethodName := ⟨RX8, "isWord", "(I)Z"⟩
abbrev cX8_wordHere : ByteArray := prog_10_method_65_code
def yX8_wordHere : MethodName := ⟨RX8, "wordHere", "()I"⟩
abbrev cX8_numbersOf : ByteArray := prog_10_method_66_code
def yX8_numbersOf : MethodName := ⟨RX8, "numbersOf", "(I)I"⟩
abbrev cX8_readNumber : ByteArray := prog_10_method_67_code
def yX8_readNumber : MethodName := ⟨RX8, "readNumber", "(II)V"⟩
abbrev cX8_codeOf : ByteArray := prog_10_method_68_code
def yX8_codeOf : MethodName := ⟨RX8, "codeOf", "(IIII)I"⟩
abbrev cX8_carry : ByteArray := prog_10_method_69_code
def yX8_carry : MethodName := ⟨RX8, "carry", "(IIII)I"⟩
abbrev cX8_command : ByteArray := prog_10_method_70_code
def yX8_command : MethodName := ⟨RX8, "command", "()I"⟩
abbrev cX8_run : ByteArray := prog_10_method_71_code
def yX8_run : MethodName := ⟨RX8, "run", "()I"⟩
abbrev cX8_knownWalls : ByteArray := prog_10_method_72_code
def yX8_knownWalls : MethodName := ⟨RX8, "knownWalls", "()I"⟩
abbrev cX8_count : ByteArray := prog_10_method_73_code
def yX8_count : MethodName := ⟨RX8, "count", "(I)I"⟩
abbrev cX8_commissionsFor : ByteArray := prog_10_method_74_code
def yX8_commissionsFor : MethodName := ⟨RX8, "commissionsFor", "(I)I"⟩
abbrev cX8_wall : ByteArray := prog_10_method_75_code
def yX8_wall : MethodName := ⟨RX8, "wall", "(II)I"⟩
abbrev cX8_commission : ByteArray := prog_10_method_76_code
def yX8_commission : MethodName := ⟨RX8, "commission", "(II)I"⟩
abbrev cX8_correction : ByteArray := prog_10_method_77_code
def yX8_correction : MethodName := ⟨RX8, "correction", "(I)I"⟩
abbrev cX8_sine : ByteArray := prog_10_method_78_code
def yX8_sine : MethodName := ⟨RX8, "sine", "(I)I"⟩
abbrev cX8_offset : ByteArray := prog_10_method_79_code
def yX8_offset : MethodName := ⟨RX8, "offset", "(II)I"⟩
abbrev cX8_lines : ByteArray := prog_10_method_80_code
def yX8_lines : MethodName := ⟨RX8, "lines", "(II)I"⟩
abbrev cX8_read : ByteArray := prog_10_method_81_code
def yX8_read : MethodName := ⟨RX8, "read", "(IIII)I"⟩
abbrev cX8_apart : ByteArray := prog_10_method_82_code
def yX8_apart : MethodName := ⟨RX8, "apart", "(II)I"⟩
abbrev cX8_reason : ByteArray := prog_10_method_83_code
def yX8_reason : MethodName := ⟨RX8, "reason", "(I)I"⟩
abbrev cX8_bestLatitude : ByteArray := prog_10_method_84_code
def yX8_bestLatitude : MethodName := ⟨RX8, "bestLatitude", "(I)I"⟩
abbrev cX8_melts : ByteArray := prog_10_method_85_code
def yX8_melts : MethodName := ⟨RX8, "melts", "()I"⟩
def RJ6 : String := "java/lang/Integer"
def TJ6 : u_T := fun k => match k with
  | _ => ("", "", "", false)
def tyJ6 : Nat → FieldType := fun k => match k with
  | _ => .int
abbrev wsJ60 : List Cond := u_ws RJ6 TJ6 0
theorem nmJ6 : ∀ a, a < 0 → ∀ b, b < 0 → a ≠ b → (TJ6 a).2.1 ≠ (TJ6 b).2.1 := by decide +kernel
theorem tyJ6_ok : ∀ k, k < 0 → parseFieldDescriptor (TJ6 k).2.2.1 = some (tyJ6 k) := by decide +kernel
abbrev cJ6_bitCount_0f7a4 : ByteArray := prog_11_method_49_code
def yJ6_bitCount_0f7a4 : MethodName := ⟨RJ6, "bitCount", "(I)I"⟩
def RJ9 : String := "java/lang/Math"
def TJ9 : u_T := fun k => match k with
  | _ => ("", "", "", false)
def tyJ9 : Nat → FieldType := fun k => match k with
  | _ => .int
abbrev wsJ90 : List Cond := u_ws RJ9 TJ9 0
theorem nmJ9 : ∀ a, a < 0 → ∀ b, b < 0 → a ≠ b → (TJ9 a).2.1 ≠ (TJ9 b).2.1 := by decide +kernel
theorem tyJ9_ok : ∀ k, k < 0 → parseFieldDescriptor (TJ9 k).2.2.1 = some (tyJ9 k) := by decide +kernel
abbrev cJ9_abs_0f7a4 : ByteArray := prog_12_method_59_code
def yJ9_abs_0f7a4 : MethodName := ⟨RJ9, "abs", "(I)I"⟩
abbrev cJ9_min_7cf53 : ByteArray := prog_12_method_69_code
def yJ9_min_7cf53 : MethodName := ⟨RJ9, "min", "(II)I"⟩
def RJ0 : String := "java/lang/String"
def TJ0 : u_T := fun k => match k with
  | _ => ("", "", "", false)
def tyJ0 : Nat → FieldType := fun k => match k with
  | _ => .int
abbrev wsJ00 : List Cond := u_ws RJ0 TJ0 0
theorem nmJ0 : ∀ a, a < 0 → ∀ b, b < 0 → a ≠ b → (TJ0 a).2.1 ≠ (TJ0 b).2.1 := by decide +kernel
theorem tyJ0_ok : ∀ k, k < 0 → parseFieldDescriptor (TJ0 k).2.2.1 = some (tyJ0 k) := by decide +kernel
abbrev cJ0_length_8abf5 : ByteArray := prog_13_method_54_code
def yJ0_length_8abf5 : MethodName := ⟨RJ0, "length", "()I"⟩
abbrev cJ0_charAt_5068e : ByteArray := prog_13_method_56_code
def yJ0_charAt_5068e : MethodName := ⟨RJ0, "charAt", "(I)C"⟩
abbrev cJ0_coder_7d493 : ByteArray := prog_13_method_152_code
def yJ0_coder_7d493 : MethodName := ⟨RJ0, "coder", "()B"⟩
abbrev cJ0_isLatin1_aae02 : ByteArray := prog_13_method_154_code
def yJ0_isLatin1_aae02 : MethodName := ⟨RJ0, "isLatin1", "()Z"⟩
abbrev cJ0_checkIndex_df160 : ByteArray := prog_13_method_155_code
def yJ0_checkIndex_df160 : MethodName := ⟨RJ0, "checkIndex", "(II)V"⟩
def RJ1 : String := "java/lang/StringLatin1"
def TJ1 : u_T := fun k => match k with
  | _ => ("", "", "", false)
def tyJ1 : Nat → FieldType := fun k => match k with
  | _ => .int
abbrev wsJ10 : List Cond := u_ws RJ1 TJ1 0
theorem nmJ1 : ∀ a, a < 0 → ∀ b, b < 0 → a ≠ b → (TJ1 a).2.1 ≠ (TJ1 b).2.1 := by decide +kernel
theorem tyJ1_ok : ∀ k, k < 0 → parseFieldDescriptor (TJ1 k).2.2.1 = some (tyJ1 k) := by decide +kernel
abbrev cJ1_charAt_3b067 : ByteArray := prog_14_method_2_code
def yJ1_charAt_3b067 : MethodName := ⟨RJ1, "charAt", "([BI)C"⟩
def RJ2 : String := "java/lang/StringUTF16"
def TJ2 : u_T := fun k => match k with
  | _ => ("", "", "", false)
def tyJ2 : Nat → FieldType := fun k => match k with
  | _ => .int
abbrev wsJ20 : List Cond := u_ws RJ2 TJ2 0
theorem nmJ2 : ∀ a, a < 0 → ∀ b, b < 0 → a ≠ b → (TJ2 a).2.1 ≠ (TJ2 b).2.1 := by decide +kernel
theorem tyJ2_ok : ∀ k, k < 0 → parseFieldDescriptor (TJ2 k).2.2.1 = some (tyJ2 k) := by decide +kernel
abbrev cJ2_getChar_3b067 : ByteArray := prog_15_method_5_code
def yJ2_getChar_3b067 : MethodName := ⟨RJ2, "getChar", "([BI)C"⟩
abbrev cJ2_length_9d52b : ByteArray := prog_15_method_6_code
def yJ2_length_9d52b : MethodName := ⟨RJ2, "length", "([B)I"⟩
abbrev cJ2_charAt_3b067 : ByteArray := prog_15_method_83_code
def yJ2_charAt_3b067 : MethodName := ⟨RJ2, "charAt", "([BI)C"⟩
abbrev cJ2_checkIndex_2214a : ByteArray := prog_15_method_91_code
def yJ2_checkIndex_2214a : MethodName := ⟨RJ2, "checkIndex", "(I[B)V"⟩
def RJ10 : String := "java/lang/System"
def TJ10 : u_T := fun k => match k with
  | _ => ("", "", "", false)
def tyJ10 : Nat → FieldType := fun k => match k with
  | _ => .int
abbrev wsJ100 : List Cond := u_ws RJ10 TJ10 0
theorem nmJ10 : ∀ a, a < 0 → ∀ b, b < 0 → a ≠ b → (TJ10 a).2.1 ≠ (TJ10 b).2.1 := by decide +kernel
theorem tyJ10_ok : ∀ k, k < 0 → parseFieldDescriptor (TJ10 k).2.2.1 = some (tyJ10 k) := by decide +kernel
def RJ3 : String := "jdk/internal/util/Preconditions"
def TJ3 : u_T := fun k => match k with
  | _ => ("", "", "", false)
def tyJ3 : Nat → FieldType := fun k => match k with
  | _ => .int
abbrev wsJ30 : List Cond := u_ws RJ3 TJ3 0
theorem nmJ3 : ∀ a, a < 0 → ∀ b, b < 0 → a ≠ b → (TJ3 a).2.1 ≠ (TJ3 b).2.1 := by decide +kernel
theorem tyJ3_ok : ∀ k, k < 0 → parseFieldDescriptor (TJ3 k).2.2.1 = some (tyJ3 k) := by decide +kernel
abbrev cJ3_checkIndex_8e157 : ByteArray := prog_17_method_11_code
def yJ3_checkIndex_8e157 : MethodName := ⟨RJ3, "checkIndex", "(IILjava/util/function/BiFunction;)I"⟩
def RL : String := "SundialWorksLaw"
abbrev cL_law : ByteArray := code
def yL_law : MethodName := ⟨RL, "law", "([I)Z"⟩
end
section
/-! THE ABSTRACT MEMORY. Cells are numbered from 0 by the order in which they are made; their contents are ints (ZI) and numbers of cells (in ZE). -/
abbrev ZE : Type := Nat × (Nat → Nat × Nat) × (Nat → Nat → Option Nat)
abbrev ZI : Type := Nat → Nat → Int32
abbrev ZG : Type := va_G × (Nat → ClassId) × Nat × (Nat → Nat)
abbrev ZL : Type := List (Option Value)
/-- the address of a cell by its number; from 1000 on: the tables and texts that nobody writes -/
def zz_b (G : ZG) (k : Nat) : Nat := if k < 1000 then G.2.2.1 + k else G.2.2.2 (k - 1000)
def zz_v (G : ZG) (v : Value) : Value := match v with
  | .ref k => .ref (zz_b G k)
  | w => w
theorem zz_v_cat (G : ZG) (v : Value) : (zz_v G v).category = v.category := by cases v <;> rfl
theorem zz_v_int (G : ZG) (x : Int32) : zz_v G (.int x) = .int x := rfl
theorem zz_v_long (G : ZG) (x : Int64) : zz_v G (.long x) = .long x := rfl
theorem zz_v_ref (G : ZG) (k : Nat) : zz_v G (.ref k) = .ref (zz_b G k) := rfl
theorem zz_sum (G : ZG) (st : List Value) : ((st.map (zz_v G)).map fun v => v.category).sum = (st.map fun v => v.category).sum := by
  rw [List.map_map]
  congr 1
  exact List.map_congr_left fun v _ => zz_v_cat G v
/-! locals, by place -/
def zz_l (G : ZG) : Nat → ZL → List (Nat × Value)
  | _, [] => []
  | i, none :: L => zz_l G (i + 1) L
  | i, some v :: L => (i, zz_v G v) :: zz_l G (i + 1) L
theorem zz_l_mem {G : ZG} {q : Nat × Value} : ∀ {L : ZL} {i : Nat}, q ∈ zz_l G i L ↔ ∃ (k : Nat) (v : Value), L[k]? = some (some v) ∧ q = (i + k, zz_v G v)
  | [], i => by simp [zz_l]
  | none :: L, i => by
    rw [zz_l, zz_l_mem (L := L) (i := i + 1)]
    constructor
    · rintro ⟨k, v, h, rfl⟩
      exact ⟨k + 1, v, by simpa using h, by rw [show i + 1 + k = i + (k + 1) by omega]⟩
    · rintro ⟨k, v, h, rfl⟩
      cases k with
      | zero => simp at h
      | succ k => exact ⟨k, v, by simpa using h, by rw [show i + 1 + k = i + (k + 1) by omega]⟩
  | some u :: L, i => by
    rw [zz_l, List.mem_cons, zz_l_mem (L := L) (i := i + 1)]
    constructor
    · rintro (rfl | ⟨k, v, h, rfl⟩)
      · exact ⟨0, u, rfl, rfl⟩
      · exact ⟨k + 1, v, by simpa using h, by rw [show i + 1 + k = i + (k + 1) by omega]⟩
    · rintro ⟨k, v, h, rfl⟩
      cases k with
      | zero =>
        left
        have h2 : u = v := by simpa using h
        rw [h2]; rfl
      | succ k => exact Or.inr ⟨k, v, by simpa using h, by rw [show i + 1 + k = i + (k + 1) by omega]⟩
def zz_h (G : ZG) (ls : Array Slot) (nL : Nat) (L : ZL) : Prop := lv_has ls nL (zz_l G 0 L) ∧ L.length ≤ nL
theorem zz_ld {G : ZG} {ls : Array Slot} {nL : Nat} {L : ZL} (h : zz_h G ls nL L) {i : Nat} {v : Value} (hL : L[i]? = some (some v)) : ls[i]? = some (.val (zz_v G v)) :=
  h.1.2.2 (i, zz_v G v) (zz_l_mem.mpr ⟨i, v, hL, by rw [Nat.zero_add]⟩)
theorem zz_set1 {G : ZG} {ls' : Array Slot} {nL i : Nat} {L : ZL} {v : Value} (hn : L.length ≤ nL) (hp : ∀ (j : Nat) (w : Value), j + 1 = i → L[j]? = some (some w) → w.category = 1)
    (h : lv_has ls' nL ((i, zz_v G v) :: (zz_l G 0 L).filter (fun q => !(q.1 == i) && !(q.1 + 1 == i && q.2.category == 2)))) : zz_h G ls' nL (L.set i (some v)) := by
  refine ⟨⟨h.1, h.2.1, fun q hq => ?_⟩, by rw [List.length_set]; exact hn⟩
  obtain ⟨k, w, h1, rfl⟩ := zz_l_mem.mp hq
  rw [Nat.zero_add] at *
  apply h.2.2
  by_cases hk : k = i
  · subst hk
    rw [List.getElem?_set] at h1
    by_cases hl : k < L.length
    · simp [hl] at h1
      subst h1
      exact List.mem_cons_self
    · simp [hl] at h1
  · rw [List.getElem?_set_ne (Ne.symm hk)] at h1
    refine List.mem_cons_of_mem _ (List.mem_filter.mpr ⟨zz_l_mem.mpr ⟨k, w, h1, by rw [Nat.zero_add]⟩, ?_⟩)
    simp only [Bool.and_eq_true, Bool.not_eq_true', beq_eq_false_iff_ne, ne_eq, Bool.and_eq_false_iff]
    refine ⟨hk, ?_⟩
    by_cases hk1 : k + 1 = i
    · right
      rw [zz_v_cat, hp k w hk1 h1]
      decide
    · exact Or.inl hk1
theorem zz_set2 {G : ZG} {ls' : Array Slot} {nL i : Nat} {L : ZL} {v : Value} (hn : L.length ≤ nL) (hp : ∀ (j : Nat) (w : Value), j + 1 = i → L[j]? = some (some w) → w.category = 1)
    (h : lv_has ls' nL ((i, zz_v G v) :: (zz_l G 0 L).filter (fun q => !(q.1 == i) && (!(q.1 == i + 1) && !(q.1 + 1 == i && q.2.category == 2))))) : zz_h G ls' nL ((L.set i (some v)).set (i + 1) none) := by
  refine ⟨⟨h.1, h.2.1, fun q hq => ?_⟩, by rw [List.length_set, List.length_set]; exact hn⟩
  obtain ⟨k, w, h1, rfl⟩ := zz_l_mem.mp hq
  rw [Nat.zero_add] at *
  apply h.2.2
  by_cases hk2 : k = i + 1
  · subst hk2
    rw [List.getElem?_set] at h1
    simp at h1
  · rw [List.getElem?_set_ne (Ne.symm hk2)] at h1
    by_cases hk : k = i
    · subst hk
      rw [List.getElem?_set] at h1
      by_cases hl : k < L.length
      · simp [hl] at h1
        subst h1
        exact List.mem_cons_self
      · simp [hl] at h1
    · rw [List.getElem?_set_ne (Ne.symm hk)] at h1
      refine List.mem_cons_of_mem _ (List.mem_filter.mpr ⟨zz_l_mem.mpr ⟨k, w, h1, by rw [Nat.zero_add]⟩, ?_⟩)
      simp only [Bool.and_eq_true, Bool.not_eq_true', beq_eq_false_iff_ne, ne_eq, Bool.and_eq_false_iff]
      refine ⟨hk, hk2, ?_⟩
      by_cases hk1 : k + 1 = i
      · right
        rw [zz_v_cat, hp k w hk1 h1]
        decide
      · exact Or.inl hk1
theorem zz_drop {G : ZG} {ls : Array Slot} {nL : Nat} {L L' : ZL} (h : zz_h G ls nL L) (hl : L'.length ≤ L.length) (hs : ∀ (k : Nat) (v : Value), L'[k]? = some (some v) → L[k]? = some (some v)) : zz_h G ls nL L' := by
  refine ⟨⟨h.1.1, h.1.2.1, fun q hq => ?_⟩, Nat.le_trans hl h.2⟩
  obtain ⟨k, w, h1, rfl⟩ := zz_l_mem.mp hq
  exact h.1.2.2 _ (zz_l_mem.mpr ⟨k, w, hs k w h1, rfl⟩)
/-! cells -/
abbrev zz_cl : List vw_C := [(RX0, TX0, 8), (RX1, TX1, 3), (RX2, TX2, 3), (RX3, TX3, 5), (RX4, TX4, 8), (RX5, TX5, 3), (RX6, TX6, 2), (RX7, TX7, 5), (RX8, TX8, 15)]
def zz_n : Nat → Nat
  | 0 => 8
  | 1 => 3
  | 2 => 3
  | 3 => 5
  | 4 => 8
  | 5 => 3
  | 6 => 2
  | 7 => 5
  | _ => 15
def zz_ty : Nat → Nat → FieldType
  | 0 => tyX0
  | 1 => tyX1
  | 2 => tyX2
  | 3 => tyX3
  | 4 => tyX4
  | 5 => tyX5
  | 6 => tyX6
  | 7 => tyX7
  | _ => tyX8
def zz_ir (ty : FieldType) : Bool := match ty with
  | .object _ => true
  | .array _ => true
  | _ => false
def zz_r (c j : Nat) : Bool := zz_ir (zz_ty c j)
/-- kinds of arrays -/
def zz_at : Nat → FieldType
  | 1 => .int
  | 2 => .boolean
  | 3 => .char
  | 4 => .object RX6
  | 5 => .object RX0
  | 6 => .object RX4
  | _ => .object RX5
def zz_fv (G : ZG) (ci : Nat) (r : Nat → Int32) (o : Nat → Option Nat) (j : Nat) : Value := if zz_r ci j = true then va_rf ((o j).map (zz_b G)) else .int (r j)
def zz_fs (G : ZG) (ci : Nat) (r : Nat → Int32) (o : Nat → Option Nat) : List Value := (List.range (zz_n ci)).map (zz_fv G ci r o)
/-- a cell of the kind kd (0: an object of the class kd.2; 1 to 3: numbers; from 4 on: cells) -/
def zz_c (G : ZG) (kd : Nat × Nat) (r : Nat → Int32) (o : Nat → Option Nat) : va_E :=
  if kd.1 = 0 then .inr (kd.2, zz_fs G kd.2 r o)
  else if kd.1 ≤ 3 then .inl (G.2.1 kd.1, kd.2, .inl r)
  else .inl (G.2.1 kd.1, kd.2, .inr (.inr (.inr (.inr (fun j => (o j).map (zz_b G))))))
def zz_w (G : ZG) (E : ZE) (im : ZI) : va_W := (List.range E.1).map (fun k => (zz_b G k, zz_c G (E.2.1 k) (im k) (E.2.2 k)))
def zz_tys (G : ZG) : List (ClassId × FieldType) := [(G.2.1 0, .byte), (G.2.1 1, .int), (G.2.1 2, .boolean), (G.2.1 3, .char), (G.2.1 4, .object RX6), (G.2.1 5, .object RX0), (G.2.1 6, .object RX4), (G.2.1 7, .object RX5)]
def zz_A (G : ZG) : Nat → Prop := fun q => G.2.2.1 ≤ q
def zz_R (G : ZG) (H : Heap) (E : ZE) (im : ZI) : Prop := E.1 ≤ 1000 ∧ va_P G.1 zz_cl (zz_w G E im) H
theorem zz_w_get {G : ZG} {E : ZE} {im : ZI} {k : Nat} (hk : k < E.1) : (zz_w G E im)[k]? = some (zz_b G k, zz_c G (E.2.1 k) (im k) (E.2.2 k)) := by
  simp [zz_w, List.getElem?_map, List.getElem?_range hk]
theorem zz_w_some {G : ZG} {E : ZE} {im : ZI} {k : Nat} {q : Nat × va_E} (h : (zz_w G E im)[k]? = some q) : k < E.1 ∧ q = (zz_b G k, zz_c G (E.2.1 k) (im k) (E.2.2 k)) := by
  have hl := (List.getElem?_eq_some_iff.mp h).1
  have hk : k < E.1 := by simpa [zz_w] using hl
  rw [zz_w_get hk] at h
  exact ⟨hk, (Option.some.inj h).symm⟩
theorem zz_w_D {G : ZG} {E : ZE} {im : ZI} (h : E.1 ≤ 1000) : va_D (zz_A G) (zz_w G E im) := by
  refine ⟨fun i j p q hi hj hpq => ?_, fun k q hk => ?_⟩
  · obtain ⟨h1, rfl⟩ := zz_w_some hi
    obtain ⟨h2, rfl⟩ := zz_w_some hj
    have e : zz_b G i = zz_b G j := hpq
    unfold zz_b at e
    rw [if_pos (by omega), if_pos (by omega)] at e
    omega
  · obtain ⟨h1, rfl⟩ := zz_w_some hk
    show G.2.2.1 ≤ zz_b G k
    unfold zz_b
    rw [if_pos (by omega)]
    omega
theorem zz_w_set {G : ZG} {E E' : ZE} {im im' : ZI} {q : Nat} (h0 : E'.1 = E.1) (hq : q < E.1) (h1 : ∀ k, k ≠ q → E'.2.1 k = E.2.1 k) (h2 : ∀ k, k ≠ q → im' k = im k) (h3 : ∀ k, k ≠ q → E'.2.2 k = E.2.2 k) :
    (zz_w G E im).set q (zz_b G q, zz_c G (E'.2.1 q) (im' q) (E'.2.2 q)) = zz_w G E' im' := by
  apply List.ext_getElem?
  intro k
  have hlen : (zz_w G E im).length = E.1 := by simp [zz_w]
  by_cases hk : k = q
  · subst hk
    rw [List.getElem?_set_self (by rw [hlen]; exact hq), zz_w_get (by rw [h0]; exact hq)]
  · rw [List.getElem?_set_ne (Ne.symm hk)]
    by_cases hl : k < E.1
    · rw [zz_w_get hl, zz_w_get (by rw [h0]; exact hl), h1 k hk, h2 k hk, h3 k hk]
    · rw [List.getElem?_eq_none (by rw [hlen]; omega), List.getElem?_eq_none (by simp [zz_w]; omega)]
theorem zz_w_push {G : ZG} {E E' : ZE} {im im' : ZI} {kd : Nat × Nat} {r : Nat → Int32} {o : Nat → Option Nat} (h0 : E'.1 = E.1 + 1) (h1 : ∀ k, k < E.1 → E'.2.1 k = E.2.1 k) (h2 : ∀ k, k < E.1 → im' k = im k) (h3 : ∀ k, k < E.1 → E'.2.2 k = E.2.2 k)
    (e1 : E'.2.1 E.1 = kd) (e2 : im' E.1 = r) (e3 : E'.2.2 E.1 = o) : zz_w G E im ++ [(zz_b G E.1, zz_c G kd r o)] = zz_w G E' im' := by
  have hr : List.range E'.1 = List.range E.1 ++ [E.1] := by rw [h0, List.range_succ]
  unfold zz_w
  rw [hr, List.map_append, List.map_cons, List.map_nil, e1, e2, e3]
  congr 1
  exact List.map_congr_left fun k hk => by
    have hk' := List.mem_range.mp hk
    rw [h1 k hk', h2 k hk', h3 k hk']
/-- the memory with one int, one reference written -/
def zz_u (im : ZI) (k j : Nat) (v : Int32) : ZI := fun k' j' => if k' = k ∧ j' = j then v else im k' j'
theorem zz_u_row (im : ZI) (k j : Nat) (v : Int32) : zz_u im k j v k = upd (im k) j v := by
  funext j'
  simp [zz_u, upd]
theorem zz_u_off (im : ZI) (k j : Nat) (v : Int32) {q : Nat} (h : q ≠ k) : zz_u im k j v q = im q := by
  funext j'
  simp [zz_u, h]
def zz_ru (o : Nat → Nat → Option Nat) (k j : Nat) (v : Option Nat) : Nat → Nat → Option Nat := fun k' j' => if k' = k ∧ j' = j then v else o k' j'
theorem zz_ru_row (o : Nat → Nat → Option Nat) (k j : Nat) (v : Option Nat) : zz_ru o k j v k = va_up (o k) j v := by
  funext j'
  simp [zz_ru, va_up]
theorem zz_ru_off (o : Nat → Nat → Option Nat) (k j : Nat) (v : Option Nat) {q : Nat} (h : q ≠ k) : zz_ru o k j v q = o q := by
  funext j'
  simp [zz_ru, h]
theorem zz_fs_get {G : ZG} {ci j : Nat} {r : Nat → Int32} {o : Nat → Option Nat} (hj : j < zz_n ci) : (zz_fs G ci r o)[j]? = some (zz_fv G ci r o j) := by
  simp [zz_fs, List.getElem?_map, List.getElem?_range hj]
theorem zz_fs_len {G : ZG} {ci : Nat} {r : Nat → Int32} {o : Nat → Option Nat} : (zz_fs G ci r o).length = zz_n ci := by simp [zz_fs]
theorem zz_fs_setI {G : ZG} {ci j : Nat} {r : Nat → Int32} {o : Nat → Option Nat} {x : Int32} (hj : j < zz_n ci) (hr : zz_r ci j = false) : (zz_fs G ci r o).set j (.int x) = zz_fs G ci (upd r j x) o := by
  apply List.ext_getElem?
  intro k
  by_cases hk : k = j
  · subst hk
    rw [List.getElem?_set_self (by rw [zz_fs_len]; exact hj), zz_fs_get hj]
    simp [zz_fv, hr, upd]
  · rw [List.getElem?_set_ne (Ne.symm hk)]
    by_cases hl : k < zz_n ci
    · rw [zz_fs_get hl, zz_fs_get hl]
      simp [zz_fv, upd, hk]
    · rw [List.getElem?_eq_none (by rw [zz_fs_len]; omega), List.getElem?_eq_none (by rw [zz_fs_len]; omega)]
theorem zz_fs_setR {G : ZG} {ci j : Nat} {r : Nat → Int32} {o : Nat → Option Nat} {x : Nat} (hj : j < zz_n ci) (hr : zz_r ci j = true) : (zz_fs G ci r o).set j (.ref (zz_b G x)) = zz_fs G ci r (va_up o j (some x)) := by
  apply List.ext_getElem?
  intro k
  by_cases hk : k = j
  · subst hk
    rw [List.getElem?_set_self (by rw [zz_fs_len]; exact hj), zz_fs_get hj]
    simp [zz_fv, hr, va_up, va_rf]
  · rw [List.getElem?_set_ne (Ne.symm hk)]
    by_cases hl : k < zz_n ci
    · rw [zz_fs_get hl, zz_fs_get hl]
      simp [zz_fv, va_up, hk]
    · rw [List.getElem?_eq_none (by rw [zz_fs_len]; omega), List.getElem?_eq_none (by rw [zz_fs_len]; omega)]
end
section
/-! THE WALK OVER THE ABSTRACT MEMORY: 'w' says of a place in a method that the machine comes to its end from there -/
def zz_isN : Cond → Bool
  | .methodLinkNest .. => true
  | .fieldLinkNest .. => true
  | _ => false
def zz_t : List Cond := lw_tbl.filter goodWord
def zz_nw : List Cond := lw_tbl.filter zz_isN
theorem zz_in {w : Cond} {i : Nat} (h : lw_tbl[i]? = some w) (g : goodWord w = true) : w ∈ zz_t := List.mem_filter.mpr ⟨List.mem_of_getElem? h, g⟩
theorem zz_inN {w : Cond} {i : Nat} (h : lw_tbl[i]? = some w) (g : zz_isN w = true) : w ∈ zz_nw := List.mem_filter.mpr ⟨List.mem_of_getElem? h, g⟩
theorem zz_pl {ws : List Cond} (ps : List Nat) (hp : ws = ps.filterMap (fun i => lw_tbl[i]?)) (h : ws.all goodWord = true) : ∀ w ∈ ws, w ∈ zz_t := by
  intro w hw
  have h1 := List.all_eq_true.mp h w hw
  rw [hp] at hw
  obtain ⟨i, -, hi⟩ := List.mem_filterMap.mp hw
  exact zz_in hi h1
theorem zz_good : ∀ w ∈ zz_t, w ∈ zz_t ∧ ((w.onTables && w.keeps) = true ∨ ∃ ty, w = .arrayClass ty) := fun w h => ⟨h, good_of_word (List.mem_filter.mp h).2⟩
theorem zz_goodIn {c : Cond} (hc : c ∈ zz_t) : GoodIn zz_t (c :: zz_t) := fun w h => by
  rcases List.mem_cons.mp h with rfl | h
  · exact zz_good _ hc
  · exact zz_good _ h
theorem zz_nw_cases {w : Cond} (h : w ∈ zz_nw) : (∃ a i x d, w = .methodLinkNest a i x d) ∨ ∃ a i b n d e, w = .fieldLinkNest a i b n d e := by
  have h1 := (List.mem_filter.mp h).2
  cases w with
  | methodLinkNest a i x d => exact Or.inl ⟨a, i, x, d, rfl⟩
  | fieldLinkNest a i b n d e => exact Or.inr ⟨a, i, b, n, d, e, rfl⟩
  | _ => simp [zz_isN] at h1
def zz_sn : Nat → String
  | 0 => "LEAST_VALUES"
  | 1 => "GREATEST_VALUES"
  | 2 => "FIRST_VALUES"
  | _ => "NUMBERS_OF_COMMANDS"
def zz_st : Nat → List Int32
  | 0 => [0, 1, 0, 1]
  | 1 => [10, 13, 60, 100]
  | 2 => [2, 5, 10, 20]
  | _ => [0, 2, 2, 3, 1, 0, 1]
def zz_xi : Nat → Nat
  | 0 => 65
  | 1 => 67
  | 2 => 69
  | 3 => 71
  | 4 => 73
  | 5 => 75
  | 6 => 77
  | 7 => 79
  | 8 => 50
  | _ => 59
def zz_xt : Nat → String
  | 0 => "wall"
  | 1 => "measure"
  | 2 => "flat"
  | 3 => "upright"
  | 4 => "decide"
  | 5 => "cast"
  | 6 => "deliver"
  | 7 => ""
  | 8 => "-"
  | _ => ";"
def zz_xl : List Nat := [4, 7, 4, 7, 6, 4, 7, 0, 1, 1]
def zz_xb : List (List Int32) := [[119, 97, 108, 108], [109, 101, 97, 115, 117, 114, 101], [102, 108, 97, 116], [117, 112, 114, 105, 103, 104, 116], [100, 101, 99, 105, 100, 101], [99, 97, 115, 116], [100, 101, 108, 105, 118, 101, 114], [], [45], [59]]
/-- what is known of the tables, the arrays that nobody writes and the texts -/
def zz_K (G : ZG) (U : State) (H : Heap) : Prop :=
  (va_K G.1 zz_cl (zz_tys G) U ∧ (∀ w ∈ zz_nw, va_Nw w U) ∧ va_AO RX6 U ∧ va_AO RX0 U ∧ va_AO RX4 U ∧ va_AO RX5 U) ∧
  (∀ i, i < 4 → va_Z "SundialWorks" (zz_sn i) "[I" (.ref (zz_b G (1000 + i))) (zz_A G) U H ∧ va_T .int (zz_b G (1000 + i)) (zz_st i).length (fun j => .int ((zz_st i).getD j 0)) (zz_A G) U H) ∧
  va_Z "java/lang/String" "COMPACT_STRINGS" "Z" (.int 1) (zz_A G) U H ∧
  vk_S 10 zz_xl zz_xb (fun i => zz_b G (1010 + i)) (fun i => zz_b G (1030 + i)) (zz_A G) U H ∧
  ∀ i, i < 10 → vk_R RX3 (zz_xi i) (zz_xt i) (zz_b G (1010 + i)) U
theorem zz_K.warm {G : ZG} {s U : State} {H : Heap} {locs : List Loc} (h : zz_K G s s.heap) (hS : va_S (zz_A G) s.heap H locs) (hU : U.heap = H) (hW : s.WarmedH U.vm) : zz_K G U U.heap := by
  obtain ⟨⟨h1, h2, h3, h4, h5, h6⟩, h7, h8, h9, h10⟩ := h
  have hv : s.vm.Alike U.vm := hW.alike
  rw [hU]
  refine ⟨⟨va_K.moved hv h1, fun w hw => ?_, va_AO.moved hv h3, va_AO.moved hv h4, va_AO.moved hv h5, va_AO.moved hv h6⟩, fun i hi => ⟨(va_Z.moved hv (h7 i hi).1).kept hS.2.1, (va_T.moved hv (h7 i hi).2).kept hS.2.1⟩, (va_Z.moved hv h8).kept hS.2.1, (vk_S.moved hv h9).kept hS.2.1, fun i hi => vk_R.warm hW (h10 i hi)⟩
  have hn := h2 w hw
  rcases zz_nw_cases hw with ⟨a, i, x, d, rfl⟩ | ⟨a, i, b, n, d, e, rfl⟩
  · exact va_Nw.warmM hW hn
  · exact va_Nw.warmF hW hn
theorem zz_K.call {G : ZG} {U : State} {g : JFrame} {mk : MethodId} {a : Array Value} (h : zz_K G U U.heap) : zz_K G (U.calling g mk a) (U.calling g mk a).heap := by
  obtain ⟨⟨h1, h2, h3, h4, h5, h6⟩, h7, h8, h9, h10⟩ := h
  have hv : U.vm.Alike (U.calling g mk a).vm := Vm.Alike.refl U.vm
  refine ⟨⟨va_K.moved hv h1, fun w hw => ?_, va_AO.moved hv h3, va_AO.moved hv h4, va_AO.moved hv h5, va_AO.moved hv h6⟩, fun i hi => ⟨va_Z.moved hv (h7 i hi).1, va_T.moved hv (h7 i hi).2⟩, va_Z.moved hv h8, vk_S.moved hv h9, fun i hi => vk_R.same rfl (h10 i hi)⟩
  have hn := h2 w hw
  rcases zz_nw_cases hw with ⟨a, i, x, d, rfl⟩ | ⟨a, i, b, n, d, e, rfl⟩
  · exact va_Nw.same (u := U) rfl rfl hn
  · exact va_Nw.same (u := U) rfl rfl hn
def zz_W (G : ZG) (p : Program) (l : Launch) (e : Env) (R : Room) (s : State) (m : MethodId) (args : Array Value) (below : List Frame) (meth : Method) (c : Code) (nL n0 mcT msT : Nat) (Q : State → Prop) (pc : Nat) (L : ZL) (st : List Value) (z : Nat) (E : ZE) (im : ZI) : Prop :=
  ∀ (H : Heap) (locs : List Loc) (ls : Array Slot), zz_R G H E im → n0 ≤ E.1 → E.1 ≤ n0 + mcT → z ≤ msT → va_S (zz_A G) s.heap H locs → zz_h G ls nL L →
    W p l e R s m args below meth c H locs (E.1 - n0) z Q (F0 m pc ls (st.map (zz_v G)))
/-- a method's end -/
def zz_ret (rt : Option FieldType) (cc : ByteArray) (pc : Nat) (st : List Value) (v : Option Value) : Prop := match rt with
  | none => decode cc pc = .ok (.return_, 1) ∧ st = [] ∧ v = none
  | some .long => decode cc pc = .ok (.lreturn, 1) ∧ ∃ r, st = [.long r] ∧ v = some (.long r)
  | some (.object _) => decode cc pc = .ok (.areturn, 1) ∧ ∃ k, st = [.ref k] ∧ v = some (.ref k)
  | some ty => decode cc pc = .ok (.ireturn, 1) ∧ ∃ r, st = [.int r] ∧ v = some (.int r) ∧ narrow ty (.int r) = .int r
def zz_S (G : ZG) (l : Launch) (own : String) (cc : ByteArray) (nL d n0 mcT msT : Nat) (isI : Bool) (rt : Option FieldType) (Qf : Option Value → ZE → ZI → Prop) (w : Nat → ZL → List Value → Nat → ZE → ZI → Prop) : Prop :=
  ∃ (p : Program) (e : Env) (R : Room) (s : State) (m : MethodId) (args : Array Value) (below : List Frame) (meth : Method) (c : Code) (Q : State → Prop),
    CallFix p m c cc nL s args zz_t own ∧ (d ≤ R.frames ∧ 36 * d ≤ R.locals ∧ mcT ≤ R.cells ∧ msT ≤ R.slots) ∧ (isI = true → meth.name = "<init>") ∧ zz_K G s s.heap ∧ s.heap.size = G.2.2.1 + n0 ∧
    (∀ (pc : Nat) (H : Heap) (locs : List Loc) (ls : Array Slot) (st : List Value) (v : Option Value) (z : Nat) (E : ZE) (im : ZI), zz_ret rt cc pc st v → zz_R G H E im → n0 ≤ E.1 → E.1 ≤ n0 + mcT → z ≤ msT → va_S (zz_A G) s.heap H locs → Qf v E im →
      W p l e R s m args below meth c H locs (E.1 - n0) z Q (F0 m pc ls (st.map (zz_v G)))) ∧
    w = zz_W G p l e R s m args below meth c nL n0 mcT msT Q
/-! contracts -/
abbrev ZY : Type := MethodName × ByteArray × Nat × Option FieldType
def zz_rm (d mc ms : Nat) : Room := { frames := d, cells := mc, slots := ms, locals := 36 * d }
def zz_Pre (G : ZG) (as : List Value) (E : ZE) (im : ZI) : Array Value → State → Prop := va_Pc (as.map (zz_v G)) (fun U => zz_R G U.heap E im ∧ zz_K G U U.heap ∧ U.heap.size = G.2.2.1 + E.1)
def zz_Post (G : ZG) (mc : Nat) (E : ZE) (Qf : Option Value → ZE → ZI → Prop) : Array Value → State → Outcome → State → Prop := fun _ st o t =>
  (∃ (v : Option Value) (E' : ZE) (im' : ZI), o = .returned (v.map (zz_v G)) ∧ E'.1 = E.1 + mc ∧ zz_R G t.heap E' im' ∧ Qf v E' im') ∧ va_F (zz_A G) st t
def zz_O (G : ZG) (l : Launch) (d : Nat) (y : ZY) (as : List Value) (E : ZE) (im : ZI) (mc ms : Nat) (Qf : Option Value → ZE → ZI → Prop) : Prop :=
  Met l y.1 (.code y.1 y.2.1 y.2.2.1 y.2.2.2 :: zz_t) (zz_rm d mc ms) (zz_Pre G as E im) (zz_Post G mc E Qf) mc ms (zz_A G)
/-- the locals with which a method begins -/
def zz_el : List Value → ZL
  | [] => []
  | v :: vs => if v.category = 2 then some v :: none :: zz_el vs else some v :: zz_el vs
theorem zz_l_rep (G : ZG) : ∀ (n i : Nat), zz_l G i (List.replicate n none) = []
  | 0, _ => rfl
  | n + 1, i => by rw [List.replicate_succ, zz_l, zz_l_rep G n (i + 1)]
theorem zz_l_el (G : ZG) (n : Nat) : ∀ (vs : List Value) (i : Nat), zz_l G i (zz_el vs ++ List.replicate n none) = lv_args i (vs.map (zz_v G))
  | [], i => zz_l_rep G n i
  | v :: vs, i => by
    rw [zz_el, List.map_cons, lv_args, zz_v_cat]
    by_cases h : v.category = 2
    · rw [if_pos h, if_pos h, List.cons_append, List.cons_append, zz_l, zz_l, zz_l_el G n vs]
    · rw [if_neg h, if_neg h, List.cons_append, zz_l, zz_l_el G n vs]
theorem zz_el_len (G : ZG) : ∀ vs : List Value, (lg_sl (vs.map (zz_v G))).length = (zz_el vs).length
  | [] => rfl
  | v :: vs => by
    have ih := zz_el_len G vs
    simp only [lg_sl] at ih
    simp only [lg_sl, List.map_cons, List.flatMap_cons, List.length_append, ih, zz_el, zz_v_cat]
    by_cases h : v.category = 2
    · simp [h]; omega
    · simp [h]; omega
theorem zz_intro {G : ZG} {l : Launch} {d : Nat} {y : ZY} {as : List Value} {E : ZE} {im : ZI} {mc ms : Nat} {Qf : Option Value → ZE → ZI → Prop} {L : ZL} {isI : Bool} (hpn : plainName y.1.cls = true) (hL : zz_el as ++ List.replicate (y.2.2.1 - (zz_el as).length) none = L) (hn : (zz_el as).length ≤ y.2.2.1) (hI : isI = true → y.1.name = "<init>")
    (h : ∀ w, zz_S G l y.1.cls y.2.1 y.2.2.1 d E.1 mc ms isI y.2.2.2 (fun v E' im' => E'.1 = E.1 + mc ∧ Qf v E' im') w → w 0 L [] 0 E im) : zz_O G l d y as E im mc ms Qf := by
  refine Met.ofW (cc := y.2.1) (maxL := y.2.2.1) (ret := y.2.2.2) hpn rfl ?_
  intro p e s m args below meth c s₁ B hml hv
  obtain ⟨rfl, hR, hK, hsz⟩ := hv
  have hx := B.exec
  have hb := B.bytes
  have hr := B.returns
  have hts := atoms_spec (ws := .code y.1 y.2.1 y.2.2.1 y.2.2.2 :: zz_t) B.pre
  have hown : s.vm.findClass y.1.cls = some m.cls := findClass_of_methodNamed B.named
  have hlocks := B.notSynchronized
  have hin : meth.name = y.1.name := (name_of_methodNamed B.named B.method).1
  have hent := lv_entry (as.map (zz_v G)) (n := y.2.2.1) (by rw [zz_el_len]; exact hn)
  rw [lg_entry_eq]
  generalize (lg_sl (as.map (zz_v G)) ++ List.replicate (y.2.2.1 - (lg_sl (as.map (zz_v G))).length) Slot.unset).toArray = ls at hent ⊢
  have hS : va_S (zz_A G) s.heap s.heap [] := va_S.rf
  have key := h _ ⟨p, e, (zz_rm d mc ms), s, m, (as.map (zz_v G)).toArray, below, meth, c, MQ below (zz_Post G mc E Qf) (as.map (zz_v G)).toArray s mc ms (zz_A G), ⟨hx, hb, hml, hown, fun w hw => hts w (List.mem_cons_of_mem _ hw)⟩, ⟨Nat.le_refl _, Nat.le_refl _, Nat.le_refl _, Nat.le_refl _⟩, fun q => hin.trans (hI q), hK, hsz, ?_, rfl⟩ s.heap [] ls hR (Nat.le_refl _) (Nat.le_add_right _ _) (Nat.zero_le _) hS ⟨?_, ?_⟩
  · rw [Nat.sub_self] at key
    exact key
  · intro pc H locs ls st v z E' im' hret hR' h1 h2 h3 hS' hQ
    refine W.widen (k := mc) (n := ms) (by omega) h3 ?_
    have hq : ∀ t : State, t.heap = H → s.WarmedH t.vm → zz_Post G mc E Qf (as.map (zz_v G)).toArray s (.returned (v.map (zz_v G))) t := fun t ht hW => ⟨⟨v, E', im', rfl, hQ.1, by rw [ht]; exact hR', hQ.2⟩, hS'.F ht⟩
    generalize hrt : y.2.2.2 = rt at hr hret
    unfold zz_ret at hret
    split at hret
    · obtain ⟨hd, rfl, rfl⟩ := hret
      exact W.vret hx hb hr hq hS'.2.2 hd
    · obtain ⟨hd, r, rfl, rfl⟩ := hret
      exact W.lret hx hb hr hq hS'.2.2 hd
    · obtain ⟨hd, k, rfl, rfl⟩ := hret
      exact W.aret hx hb hr (Or.inl ⟨_, rfl⟩) (Or.inr ⟨_, rfl⟩) hq hS'.2.2 hd
    · obtain ⟨hd, r, rfl, rfl, hnr⟩ := hret
      exact W.zret hx hb hr hnr hq hS'.2.2 hd
  · rw [← hL, zz_l_el]
    exact hent
  · rw [← hL, List.length_append, List.length_replicate]
    omega
end
section
/-! ROWS: instructions that touch no cell -/
section ZR
variable {G : ZG} {l : Launch} {own : String} {cc : ByteArray} {nL d n0 mcT msT : Nat} {isI : Bool} {rt : Option FieldType} {Qf : Option Value → ZE → ZI → Prop} {w : Nat → ZL → List Value → Nat → ZE → ZI → Prop}
variable {pc q t : Nat} {L L' : ZL} {st st' : List Value} {z : Nat} {E : ZE} {im : ZI}
theorem zz_pure (S : zz_S G l own cc nL d n0 mcT msT isI rt Qf w)
    (h : ∀ (p : Program) (e : Env) (R : Room) (s : State) (m : MethodId) (args : Array Value) (below : List Frame) (meth : Method) (c : Code) (Q : State → Prop) (H : Heap) (locs : List Loc) (cells slots : Nat) (ls : Array Slot), p.tables.exec = Jvm.exec → c.code = cc → s.vm.findClass own = some m.cls → (∀ x ∈ zz_t, x.before args s = true) → zz_h G ls nL L →
      (∀ ls', zz_h G ls' nL L' → W p l e R s m args below meth c H locs cells slots Q (F0 m q ls' (st'.map (zz_v G)))) → W p l e R s m args below meth c H locs cells slots Q (F0 m pc ls (st.map (zz_v G))))
    (k : w q L' st' z E im) : w pc L st z E im := by
  obtain ⟨p, e, R, s, m, args, below, meth, c, Q, ⟨hx, hb, hml, hown, hts⟩, -, -, -, -, -, rfl⟩ := S
  intro H locs ls h1 h2 h3 h4 h5 h6
  exact h p e R s m args below meth c Q H locs _ _ ls hx hb hown hts h6 (fun ls' h7 => k H locs ls' h1 h2 h3 h4 h5 h7)
theorem zz_br {c1 : Prop} (S : zz_S G l own cc nL d n0 mcT msT isI rt Qf w)
    (h : ∀ (p : Program) (e : Env) (R : Room) (s : State) (m : MethodId) (args : Array Value) (below : List Frame) (meth : Method) (c : Code) (Q : State → Prop) (H : Heap) (locs : List Loc) (cells slots : Nat) (ls : Array Slot), p.tables.exec = Jvm.exec → c.code = cc →
      (c1 → W p l e R s m args below meth c H locs cells slots Q (F0 m t ls (st'.map (zz_v G)))) → (¬ c1 → W p l e R s m args below meth c H locs cells slots Q (F0 m q ls (st'.map (zz_v G)))) → W p l e R s m args below meth c H locs cells slots Q (F0 m pc ls (st.map (zz_v G))))
    (kt : c1 → w t L st' z E im) (kf : ¬ c1 → w q L st' z E im) : w pc L st z E im := by
  obtain ⟨p, e, R, s, m, args, below, meth, c, Q, ⟨hx, hb, hml, hown, hts⟩, -, -, -, -, -, rfl⟩ := S
  intro H locs ls h1 h2 h3 h4 h5 h6
  exact h p e R s m args below meth c Q H locs _ _ ls hx hb (fun hc => kt hc H locs ls h1 h2 h3 h4 h5 h6) (fun hc => kf hc H locs ls h1 h2 h3 h4 h5 h6)
/-- fewer locals known -/
theorem zz_lok (S : zz_S G l own cc nL d n0 mcT msT isI rt Qf w) (hl : L'.length ≤ L.length) (hs : ∀ (k : Nat) (v : Value), L'[k]? = some (some v) → L[k]? = some (some v)) (k : w pc L' st z E im) : w pc L st z E im := by
  obtain ⟨p, e, R, s, m, args, below, meth, c, Q, ⟨hx, hb, hml, hown, hts⟩, -, -, -, -, -, rfl⟩ := S
  intro H locs ls h1 h2 h3 h4 h5 h6
  exact k H locs ls h1 h2 h3 h4 h5 (zz_drop h6 hl hs)

theorem zz_iconst (S : zz_S G l own cc nL d n0 mcT msT isI rt Qf w) {n : Int} {v : Int32} (hv : Int32.ofInt n = v) (hd : decode cc pc = .ok (.iconst n, 1)) (hq : pc + 1 = q) (k : w q (L) (.int v :: st) z E im) : w pc (L) (st) z E im := by
  subst hq
  exact zz_pure S (fun _ _ _ _ _ _ _ _ _ _ _ _ _ _ _ hx hb hown hts hl kk => lv_iconst hx hb hd hv (kk _ hl)) k
theorem zz_bipush (S : zz_S G l own cc nL d n0 mcT msT isI rt Qf w) {n : Int} {v : Int32} (hv : (Int8.ofInt n).toInt32 = v) (hd : decode cc pc = .ok (.bipush n, 2)) (hq : pc + 2 = q) (k : w q (L) (.int v :: st) z E im) : w pc (L) (st) z E im := by
  subst hq
  exact zz_pure S (fun _ _ _ _ _ _ _ _ _ _ _ _ _ _ _ hx hb hown hts hl kk => lv_bipush hx hb hd hv (kk _ hl)) k
theorem zz_sipush (S : zz_S G l own cc nL d n0 mcT msT isI rt Qf w) {n : Int} {v : Int32} (hv : (Int16.ofInt n).toInt32 = v) (hd : decode cc pc = .ok (.sipush n, 3)) (hq : pc + 3 = q) (k : w q (L) (.int v :: st) z E im) : w pc (L) (st) z E im := by
  subst hq
  exact zz_pure S (fun _ _ _ _ _ _ _ _ _ _ _ _ _ _ _ hx hb hown hts hl kk => lv_sipush hx hb hd hv (kk _ hl)) k
theorem zz_lconst (S : zz_S G l own cc nL d n0 mcT msT isI rt Qf w) {n : Fin 2} {v : Int64} (hv : Int64.ofNat (n : Nat) = v) (hd : decode cc pc = .ok (.lconst n, 1)) (hq : pc + 1 = q) (k : w q (L) (.long v :: st) z E im) : w pc (L) (st) z E im := by
  subst hq
  exact zz_pure S (fun _ _ _ _ _ _ _ _ _ _ _ _ _ _ _ hx hb hown hts hl kk => lv_lconst hx hb hd hv (kk _ hl)) k
theorem zz_ldc (S : zz_S G l own cc nL d n0 mcT msT isI rt Qf w) {index : Nat} {v : Int32} (hc : Cond.constant own index v ∈ zz_t) (hd : decode cc pc = .ok (.ldc index, 2)) (hq : pc + 2 = q) (k : w q (L) (.int v :: st) z E im) : w pc (L) (st) z E im := by
  subst hq
  exact zz_pure S (fun _ _ _ _ _ _ _ _ _ _ _ _ _ _ _ hx hb hown hts hl kk => lv_ldc hx hb hown (hts _ hc) hd (kk _ hl)) k
theorem zz_ldcw (S : zz_S G l own cc nL d n0 mcT msT isI rt Qf w) {index : Nat} {v : Int32} (hc : Cond.constant own index v ∈ zz_t) (hd : decode cc pc = .ok (.ldc_w index, 3)) (hq : pc + 3 = q) (k : w q (L) (.int v :: st) z E im) : w pc (L) (st) z E im := by
  subst hq
  exact zz_pure S (fun _ _ _ _ _ _ _ _ _ _ _ _ _ _ _ hx hb hown hts hl kk => lv_ldcw hx hb hown (hts _ hc) hd (kk _ hl)) k
theorem zz_ldc2 (S : zz_S G l own cc nL d n0 mcT msT isI rt Qf w) {index : Nat} {v : Int64} (hc : Cond.constantLong own index v ∈ zz_t) (hd : decode cc pc = .ok (.ldc2_w index, 3)) (hq : pc + 3 = q) (k : w q (L) (.long v :: st) z E im) : w pc (L) (st) z E im := by
  subst hq
  exact zz_pure S (fun _ _ _ _ _ _ _ _ _ _ _ _ _ _ _ hx hb hown hts hl kk => lv_ldc2 hx hb hown (hts _ hc) hd (kk _ hl)) k
theorem zz_iadd (S : zz_S G l own cc nL d n0 mcT msT isI rt Qf w) {x y : Int32} (hd : decode cc pc = .ok (.iadd, 1)) (hq : pc + 1 = q) (k : w q (L) (.int (x + y) :: st) z E im) : w pc (L) (.int y :: .int x :: st) z E im := by
  subst hq
  exact zz_pure S (fun _ _ _ _ _ _ _ _ _ _ _ _ _ _ _ hx hb hown hts hl kk => lv_iadd hx hb hd (kk _ hl)) k
theorem zz_isub (S : zz_S G l own cc nL d n0 mcT msT isI rt Qf w) {x y : Int32} (hd : decode cc pc = .ok (.isub, 1)) (hq : pc + 1 = q) (k : w q (L) (.int (x - y) :: st) z E im) : w pc (L) (.int y :: .int x :: st) z E im := by
  subst hq
  exact zz_pure S (fun _ _ _ _ _ _ _ _ _ _ _ _ _ _ _ hx hb hown hts hl kk => lv_isub hx hb hd (kk _ hl)) k
theorem zz_imul (S : zz_S G l own cc nL d n0 mcT msT isI rt Qf w) {x y : Int32} (hd : decode cc pc = .ok (.imul, 1)) (hq : pc + 1 = q) (k : w q (L) (.int (x * y) :: st) z E im) : w pc (L) (.int y :: .int x :: st) z E im := by
  subst hq
  exact zz_pure S (fun _ _ _ _ _ _ _ _ _ _ _ _ _ _ _ hx hb hown hts hl kk => lv_imul hx hb hd (kk _ hl)) k
theorem zz_iand (S : zz_S G l own cc nL d n0 mcT msT isI rt Qf w) {x y : Int32} (hd : decode cc pc = .ok (.iand, 1)) (hq : pc + 1 = q) (k : w q (L) (.int (x &&& y) :: st) z E im) : w pc (L) (.int y :: .int x :: st) z E im := by
  subst hq
  exact zz_pure S (fun _ _ _ _ _ _ _ _ _ _ _ _ _ _ _ hx hb hown hts hl kk => lv_iand hx hb hd (kk _ hl)) k
theorem zz_ior (S : zz_S G l own cc nL d n0 mcT msT isI rt Qf w) {x y : Int32} (hd : decode cc pc = .ok (.ior, 1)) (hq : pc + 1 = q) (k : w q (L) (.int (x ||| y) :: st) z E im) : w pc (L) (.int y :: .int x :: st) z E im := by
  subst hq
  exact zz_pure S (fun _ _ _ _ _ _ _ _ _ _ _ _ _ _ _ hx hb hown hts hl kk => lv_ior hx hb hd (kk _ hl)) k
theorem zz_ixor (S : zz_S G l own cc nL d n0 mcT msT isI rt Qf w) {x y : Int32} (hd : decode cc pc = .ok (.ixor, 1)) (hq : pc + 1 = q) (k : w q (L) (.int (x ^^^ y) :: st) z E im) : w pc (L) (.int y :: .int x :: st) z E im := by
  subst hq
  exact zz_pure S (fun _ _ _ _ _ _ _ _ _ _ _ _ _ _ _ hx hb hown hts hl kk => lv_ixor hx hb hd (kk _ hl)) k
theorem zz_ishl (S : zz_S G l own cc nL d n0 mcT msT isI rt Qf w) {x y : Int32} (hd : decode cc pc = .ok (.ishl, 1)) (hq : pc + 1 = q) (k : w q (L) (.int (x <<< (y &&& 31)) :: st) z E im) : w pc (L) (.int y :: .int x :: st) z E im := by
  subst hq
  exact zz_pure S (fun _ _ _ _ _ _ _ _ _ _ _ _ _ _ _ hx hb hown hts hl kk => lv_ishl hx hb hd (kk _ hl)) k
theorem zz_ishr (S : zz_S G l own cc nL d n0 mcT msT isI rt Qf w) {x y : Int32} (hd : decode cc pc = .ok (.ishr, 1)) (hq : pc + 1 = q) (k : w q (L) (.int (x >>> (y &&& 31)) :: st) z E im) : w pc (L) (.int y :: .int x :: st) z E im := by
  subst hq
  exact zz_pure S (fun _ _ _ _ _ _ _ _ _ _ _ _ _ _ _ hx hb hown hts hl kk => lv_ishr hx hb hd (kk _ hl)) k
theorem zz_iushr (S : zz_S G l own cc nL d n0 mcT msT isI rt Qf w) {x y : Int32} (hd : decode cc pc = .ok (.iushr, 1)) (hq : pc + 1 = q) (k : w q (L) (.int ((x.toUInt32 >>> (y.toUInt32 &&& Int32.toUInt32 31)).toInt32) :: st) z E im) : w pc (L) (.int y :: .int x :: st) z E im := by
  subst hq
  exact zz_pure S (fun _ _ _ _ _ _ _ _ _ _ _ _ _ _ _ hx hb hown hts hl kk => lv_iushr hx hb hd rfl (kk _ hl)) k
theorem zz_idiv (S : zz_S G l own cc nL d n0 mcT msT isI rt Qf w) {x y : Int32} (hne : ¬ y = 0) (hd : decode cc pc = .ok (.idiv, 1)) (hq : pc + 1 = q) (k : w q (L) (.int (x / y) :: st) z E im) : w pc (L) (.int y :: .int x :: st) z E im := by
  subst hq
  exact zz_pure S (fun _ _ _ _ _ _ _ _ _ _ _ _ _ _ _ hx hb hown hts hl kk => lv_idiv hx hb hd hne (kk _ hl)) k
theorem zz_irem (S : zz_S G l own cc nL d n0 mcT msT isI rt Qf w) {x y : Int32} (hne : ¬ y = 0) (hd : decode cc pc = .ok (.irem, 1)) (hq : pc + 1 = q) (k : w q (L) (.int (x - x / y * y) :: st) z E im) : w pc (L) (.int y :: .int x :: st) z E im := by
  subst hq
  exact zz_pure S (fun _ _ _ _ _ _ _ _ _ _ _ _ _ _ _ hx hb hown hts hl kk => lv_irem hx hb hd hne (kk _ hl)) k
theorem zz_ineg (S : zz_S G l own cc nL d n0 mcT msT isI rt Qf w) {x : Int32} (hd : decode cc pc = .ok (.ineg, 1)) (hq : pc + 1 = q) (k : w q (L) (.int (-x) :: st) z E im) : w pc (L) (.int x :: st) z E im := by
  subst hq
  exact zz_pure S (fun _ _ _ _ _ _ _ _ _ _ _ _ _ _ _ hx hb hown hts hl kk => lv_ineg hx hb hd (kk _ hl)) k
theorem zz_ladd (S : zz_S G l own cc nL d n0 mcT msT isI rt Qf w) {x y : Int64} (hd : decode cc pc = .ok (.ladd, 1)) (hq : pc + 1 = q) (k : w q (L) (.long (x + y) :: st) z E im) : w pc (L) (.long y :: .long x :: st) z E im := by
  subst hq
  exact zz_pure S (fun _ _ _ _ _ _ _ _ _ _ _ _ _ _ _ hx hb hown hts hl kk => lv_ladd hx hb hd (kk _ hl)) k
theorem zz_lsub (S : zz_S G l own cc nL d n0 mcT msT isI rt Qf w) {x y : Int64} (hd : decode cc pc = .ok (.lsub, 1)) (hq : pc + 1 = q) (k : w q (L) (.long (x - y) :: st) z E im) : w pc (L) (.long y :: .long x :: st) z E im := by
  subst hq
  exact zz_pure S (fun _ _ _ _ _ _ _ _ _ _ _ _ _ _ _ hx hb hown hts hl kk => lv_lsub hx hb hd (kk _ hl)) k
theorem zz_lmul (S : zz_S G l own cc nL d n0 mcT msT isI rt Qf w) {x y : Int64} (hd : decode cc pc = .ok (.lmul, 1)) (hq : pc + 1 = q) (k : w q (L) (.long (x * y) :: st) z E im) : w pc (L) (.long y :: .long x :: st) z E im := by
  subst hq
  exact zz_pure S (fun _ _ _ _ _ _ _ _ _ _ _ _ _ _ _ hx hb hown hts hl kk => lv_lmul hx hb hd (kk _ hl)) k
theorem zz_ldiv (S : zz_S G l own cc nL d n0 mcT msT isI rt Qf w) {x y : Int64} (hne : ¬ y = 0) (hd : decode cc pc = .ok (.ldiv, 1)) (hq : pc + 1 = q) (k : w q (L) (.long (x / y) :: st) z E im) : w pc (L) (.long y :: .long x :: st) z E im := by
  subst hq
  exact zz_pure S (fun _ _ _ _ _ _ _ _ _ _ _ _ _ _ _ hx hb hown hts hl kk => lv_ldiv hx hb hd hne (kk _ hl)) k
theorem zz_lrem (S : zz_S G l own cc nL d n0 mcT msT isI rt Qf w) {x y : Int64} (hne : ¬ y = 0) (hd : decode cc pc = .ok (.lrem, 1)) (hq : pc + 1 = q) (k : w q (L) (.long (x - x / y * y) :: st) z E im) : w pc (L) (.long y :: .long x :: st) z E im := by
  subst hq
  exact zz_pure S (fun _ _ _ _ _ _ _ _ _ _ _ _ _ _ _ hx hb hown hts hl kk => lv_lrem hx hb hd hne (kk _ hl)) k
theorem zz_lneg (S : zz_S G l own cc nL d n0 mcT msT isI rt Qf w) {x : Int64} (hd : decode cc pc = .ok (.lneg, 1)) (hq : pc + 1 = q) (k : w q (L) (.long (-x) :: st) z E im) : w pc (L) (.long x :: st) z E im := by
  subst hq
  exact zz_pure S (fun _ _ _ _ _ _ _ _ _ _ _ _ _ _ _ hx hb hown hts hl kk => lv_lneg hx hb hd (kk _ hl)) k
theorem zz_lcmp (S : zz_S G l own cc nL d n0 mcT msT isI rt Qf w) {x y : Int64} (hd : decode cc pc = .ok (.lcmp, 1)) (hq : pc + 1 = q) (k : w q (L) (.int (lg_cmp x y) :: st) z E im) : w pc (L) (.long y :: .long x :: st) z E im := by
  subst hq
  exact zz_pure S (fun _ _ _ _ _ _ _ _ _ _ _ _ _ _ _ hx hb hown hts hl kk => W.lcmp hx hb hd (kk _ hl)) k
theorem zz_i2l (S : zz_S G l own cc nL d n0 mcT msT isI rt Qf w) {x : Int32} (hd : decode cc pc = .ok (.i2l, 1)) (hq : pc + 1 = q) (k : w q (L) (.long x.toInt64 :: st) z E im) : w pc (L) (.int x :: st) z E im := by
  subst hq
  exact zz_pure S (fun _ _ _ _ _ _ _ _ _ _ _ _ _ _ _ hx hb hown hts hl kk => lv_i2l hx hb hd rfl (kk _ hl)) k
theorem zz_l2i (S : zz_S G l own cc nL d n0 mcT msT isI rt Qf w) {x : Int64} (hd : decode cc pc = .ok (.l2i, 1)) (hq : pc + 1 = q) (k : w q (L) (.int x.toInt32 :: st) z E im) : w pc (L) (.long x :: st) z E im := by
  subst hq
  exact zz_pure S (fun _ _ _ _ _ _ _ _ _ _ _ _ _ _ _ hx hb hown hts hl kk => lv_l2i hx hb hd rfl (kk _ hl)) k
theorem zz_i2c (S : zz_S G l own cc nL d n0 mcT msT isI rt Qf w) {x : Int32} (hd : decode cc pc = .ok (.i2c, 1)) (hq : pc + 1 = q) (k : w q (L) (.int ((x.toUInt32 % 65536).toInt32) :: st) z E im) : w pc (L) (.int x :: st) z E im := by
  subst hq
  exact zz_pure S (fun _ _ _ _ _ _ _ _ _ _ _ _ _ _ _ hx hb hown hts hl kk => lv_i2c hx hb hd rfl (kk _ hl)) k
theorem zz_dup (S : zz_S G l own cc nL d n0 mcT msT isI rt Qf w) {v : Value} (hc : v.category = 1) (hd : decode cc pc = .ok (.dup, 1)) (hq : pc + 1 = q) (k : w q (L) (v :: v :: st) z E im) : w pc (L) (v :: st) z E im := by
  subst hq
  exact zz_pure S (fun _ _ _ _ _ _ _ _ _ _ _ _ _ _ _ hx hb hown hts hl kk => lv_dup hx hb hd ((zz_v_cat _ _).trans hc) (kk _ hl)) k
theorem zz_pop (S : zz_S G l own cc nL d n0 mcT msT isI rt Qf w) {v : Value} (hc : v.category = 1) (hd : decode cc pc = .ok (.pop, 1)) (hq : pc + 1 = q) (k : w q (L) (st) z E im) : w pc (L) (v :: st) z E im := by
  subst hq
  exact zz_pure S (fun _ _ _ _ _ _ _ _ _ _ _ _ _ _ _ hx hb hown hts hl kk => lv_pop hx hb hd ((zz_v_cat _ _).trans hc) (kk _ hl)) k
theorem zz_dup2 (S : zz_S G l own cc nL d n0 mcT msT isI rt Qf w) {v u : Value} (hc : v.category = 1) (hc2 : u.category = 1) (hd : decode cc pc = .ok (.dup2, 1)) (hq : pc + 1 = q) (k : w q (L) (v :: u :: v :: u :: st) z E im) : w pc (L) (v :: u :: st) z E im := by
  subst hq
  exact zz_pure S (fun _ _ _ _ _ _ _ _ _ _ _ _ _ _ _ hx hb hown hts hl kk => lv_dup2_11 hx hb hd ((zz_v_cat _ _).trans hc) ((zz_v_cat _ _).trans hc2) (kk _ hl)) k
theorem zz_iload_0 (S : zz_S G l own cc nL d n0 mcT msT isI rt Qf w) {x : Int32} (hd : decode cc pc = .ok (.iload_n 0, 1)) (hq : pc + 1 = q) (k : w q (some (.int x) :: L) (.int x :: st) z E im) : w pc (some (.int x) :: L) (st) z E im := by
  subst hq
  exact zz_pure S (fun _ _ _ _ _ _ _ _ _ _ _ _ _ _ _ hx hb hown hts hl kk => lv_iload_n (i := 0) hx hb hd rfl (zz_ld (i := 0) (v := .int x) hl rfl) (kk _ hl)) k
theorem zz_iload_1 (S : zz_S G l own cc nL d n0 mcT msT isI rt Qf w) {a0 : Option Value} {x : Int32} (hd : decode cc pc = .ok (.iload_n 1, 1)) (hq : pc + 1 = q) (k : w q (a0 :: some (.int x) :: L) (.int x :: st) z E im) : w pc (a0 :: some (.int x) :: L) (st) z E im := by
  subst hq
  exact zz_pure S (fun _ _ _ _ _ _ _ _ _ _ _ _ _ _ _ hx hb hown hts hl kk => lv_iload_n (i := 1) hx hb hd rfl (zz_ld (i := 1) (v := .int x) hl rfl) (kk _ hl)) k
theorem zz_iload_2 (S : zz_S G l own cc nL d n0 mcT msT isI rt Qf w) {a0 a1 : Option Value} {x : Int32} (hd : decode cc pc = .ok (.iload_n 2, 1)) (hq : pc + 1 = q) (k : w q (a0 :: a1 :: some (.int x) :: L) (.int x :: st) z E im) : w pc (a0 :: a1 :: some (.int x) :: L) (st) z E im := by
  subst hq
  exact zz_pure S (fun _ _ _ _ _ _ _ _ _ _ _ _ _ _ _ hx hb hown hts hl kk => lv_iload_n (i := 2) hx hb hd rfl (zz_ld (i := 2) (v := .int x) hl rfl) (kk _ hl)) k
theorem zz_iload_3 (S : zz_S G l own cc nL d n0 mcT msT isI rt Qf w) {a0 a1 a2 : Option Value} {x : Int32} (hd : decode cc pc = .ok (.iload_n 3, 1)) (hq : pc + 1 = q) (k : w q (a0 :: a1 :: a2 :: some (.int x) :: L) (.int x :: st) z E im) : w pc (a0 :: a1 :: a2 :: some (.int x) :: L) (st) z E im := by
  subst hq
  exact zz_pure S (fun _ _ _ _ _ _ _ _ _ _ _ _ _ _ _ hx hb hown hts hl kk => lv_iload_n (i := 3) hx hb hd rfl (zz_ld (i := 3) (v := .int x) hl rfl) (kk _ hl)) k
theorem zz_iload_4 (S : zz_S G l own cc nL d n0 mcT msT isI rt Qf w) {a0 a1 a2 a3 : Option Value} {x : Int32} (hd : decode cc pc = .ok (.iload 4, 2)) (hq : pc + 2 = q) (k : w q (a0 :: a1 :: a2 :: a3 :: some (.int x) :: L) (.int x :: st) z E im) : w pc (a0 :: a1 :: a2 :: a3 :: some (.int x) :: L) (st) z E im := by
  subst hq
  exact zz_pure S (fun _ _ _ _ _ _ _ _ _ _ _ _ _ _ _ hx hb hown hts hl kk => lv_iload hx hb hd (zz_ld (i := 4) (v := .int x) hl rfl) (kk _ hl)) k
theorem zz_iload_5 (S : zz_S G l own cc nL d n0 mcT msT isI rt Qf w) {a0 a1 a2 a3 a4 : Option Value} {x : Int32} (hd : decode cc pc = .ok (.iload 5, 2)) (hq : pc + 2 = q) (k : w q (a0 :: a1 :: a2 :: a3 :: a4 :: some (.int x) :: L) (.int x :: st) z E im) : w pc (a0 :: a1 :: a2 :: a3 :: a4 :: some (.int x) :: L) (st) z E im := by
  subst hq
  exact zz_pure S (fun _ _ _ _ _ _ _ _ _ _ _ _ _ _ _ hx hb hown hts hl kk => lv_iload hx hb hd (zz_ld (i := 5) (v := .int x) hl rfl) (kk _ hl)) k
theorem zz_iload_6 (S : zz_S G l own cc nL d n0 mcT msT isI rt Qf w) {a0 a1 a2 a3 a4 a5 : Option Value} {x : Int32} (hd : decode cc pc = .ok (.iload 6, 2)) (hq : pc + 2 = q) (k : w q (a0 :: a1 :: a2 :: a3 :: a4 :: a5 :: some (.int x) :: L) (.int x :: st) z E im) : w pc (a0 :: a1 :: a2 :: a3 :: a4 :: a5 :: some (.int x) :: L) (st) z E im := by
  subst hq
  exact zz_pure S (fun _ _ _ _ _ _ _ _ _ _ _ _ _ _ _ hx hb hown hts hl kk => lv_iload hx hb hd (zz_ld (i := 6) (v := .int x) hl rfl) (kk _ hl)) k
theorem zz_iload_7 (S : zz_S G l own cc nL d n0 mcT msT isI rt Qf w) {a0 a1 a2 a3 a4 a5 a6 : Option Value} {x : Int32} (hd : decode cc pc = .ok (.iload 7, 2)) (hq : pc + 2 = q) (k : w q (a0 :: a1 :: a2 :: a3 :: a4 :: a5 :: a6 :: some (.int x) :: L) (.int x :: st) z E im) : w pc (a0 :: a1 :: a2 :: a3 :: a4 :: a5 :: a6 :: some (.int x) :: L) (st) z E im := by
  subst hq
  exact zz_pure S (fun _ _ _ _ _ _ _ _ _ _ _ _ _ _ _ hx hb hown hts hl kk => lv_iload hx hb hd (zz_ld (i := 7) (v := .int x) hl rfl) (kk _ hl)) k
theorem zz_iload_8 (S : zz_S G l own cc nL d n0 mcT msT isI rt Qf w) {a0 a1 a2 a3 a4 a5 a6 a7 : Option Value} {x : Int32} (hd : decode cc pc = .ok (.iload 8, 2)) (hq : pc + 2 = q) (k : w q (a0 :: a1 :: a2 :: a3 :: a4 :: a5 :: a6 :: a7 :: some (.int x) :: L) (.int x :: st) z E im) : w pc (a0 :: a1 :: a2 :: a3 :: a4 :: a5 :: a6 :: a7 :: some (.int x) :: L) (st) z E im := by
  subst hq
  exact zz_pure S (fun _ _ _ _ _ _ _ _ _ _ _ _ _ _ _ hx hb hown hts hl kk => lv_iload hx hb hd (zz_ld (i := 8) (v := .int x) hl rfl) (kk _ hl)) k
theorem zz_iload_9 (S : zz_S G l own cc nL d n0 mcT msT isI rt Qf w) {a0 a1 a2 a3 a4 a5 a6 a7 a8 : Option Value} {x : Int32} (hd : decode cc pc = .ok (.iload 9, 2)) (hq : pc + 2 = q) (k : w q (a0 :: a1 :: a2 :: a3 :: a4 :: a5 :: a6 :: a7 :: a8 :: some (.int x) :: L) (.int x :: st) z E im) : w pc (a0 :: a1 :: a2 :: a3 :: a4 :: a5 :: a6 :: a7 :: a8 :: some (.int x) :: L) (st) z E im := by
  subst hq
  exact zz_pure S (fun _ _ _ _ _ _ _ _ _ _ _ _ _ _ _ hx hb hown hts hl kk => lv_iload hx hb hd (zz_ld (i := 9) (v := .int x) hl rfl) (kk _ hl)) k
theorem zz_iload_10 (S : zz_S G l own cc nL d n0 mcT msT isI rt Qf w) {a0 a1 a2 a3 a4 a5 a6 a7 a8 a9 : Option Value} {x : Int32} (hd : decode cc pc = .ok (.iload 10, 2)) (hq : pc + 2 = q) (k : w q (a0 :: a1 :: a2 :: a3 :: a4 :: a5 :: a6 :: a7 :: a8 :: a9 :: some (.int x) :: L) (.int x :: st) z E im) : w pc (a0 :: a1 :: a2 :: a3 :: a4 :: a5 :: a6 :: a7 :: a8 :: a9 :: some (.int x) :: L) (st) z E im := by
  subst hq
  exact zz_pure S (fun _ _ _ _ _ _ _ _ _ _ _ _ _ _ _ hx hb hown hts hl kk => lv_iload hx hb hd (zz_ld (i := 10) (v := .int x) hl rfl) (kk _ hl)) k
theorem zz_iload_11 (S : zz_S G l own cc nL d n0 mcT msT isI rt Qf w) {a0 a1 a2 a3 a4 a5 a6 a7 a8 a9 a10 : Option Value} {x : Int32} (hd : decode cc pc = .ok (.iload 11, 2)) (hq : pc + 2 = q) (k : w q (a0 :: a1 :: a2 :: a3 :: a4 :: a5 :: a6 :: a7 :: a8 :: a9 :: a10 :: some (.int x) :: L) (.int x :: st) z E im) : w pc (a0 :: a1 :: a2 :: a3 :: a4 :: a5 :: a6 :: a7 :: a8 :: a9 :: a10 :: some (.int x) :: L) (st) z E im := by
  subst hq
  exact zz_pure S (fun _ _ _ _ _ _ _ _ _ _ _ _ _ _ _ hx hb hown hts hl kk => lv_iload hx hb hd (zz_ld (i := 11) (v := .int x) hl rfl) (kk _ hl)) k
theorem zz_iload_12 (S : zz_S G l own cc nL d n0 mcT msT isI rt Qf w) {a0 a1 a2 a3 a4 a5 a6 a7 a8 a9 a10 a11 : Option Value} {x : Int32} (hd : decode cc pc = .ok (.iload 12, 2)) (hq : pc + 2 = q) (k : w q (a0 :: a1 :: a2 :: a3 :: a4 :: a5 :: a6 :: a7 :: a8 :: a9 :: a10 :: a11 :: some (.int x) :: L) (.int x :: st) z E im) : w pc (a0 :: a1 :: a2 :: a3 :: a4 :: a5 :: a6 :: a7 :: a8 :: a9 :: a10 :: a11 :: some (.int x) :: L) (st) z E im := by
  subst hq
  exact zz_pure S (fun _ _ _ _ _ _ _ _ _ _ _ _ _ _ _ hx hb hown hts hl kk => lv_iload hx hb hd (zz_ld (i := 12) (v := .int x) hl rfl) (kk _ hl)) k
theorem zz_iload_13 (S : zz_S G l own cc nL d n0 mcT msT isI rt Qf w) {a0 a1 a2 a3 a4 a5 a6 a7 a8 a9 a10 a11 a12 : Option Value} {x : Int32} (hd : decode cc pc = .ok (.iload 13, 2)) (hq : pc + 2 = q) (k : w q (a0 :: a1 :: a2 :: a3 :: a4 :: a5 :: a6 :: a7 :: a8 :: a9 :: a10 :: a11 :: a12 :: some (.int x) :: L) (.int x :: st) z E im) : w pc (a0 :: a1 :: a2 :: a3 :: a4 :: a5 :: a6 :: a7 :: a8 :: a9 :: a10 :: a11 :: a12 :: some (.int x) :: L) (st) z E im := by
  subst hq
  exact zz_pure S (fun _ _ _ _ _ _ _ _ _ _ _ _ _ _ _ hx hb hown hts hl kk => lv_iload hx hb hd (zz_ld (i := 13) (v := .int x) hl rfl) (kk _ hl)) k
theorem zz_iload_14 (S : zz_S G l own cc nL d n0 mcT msT isI rt Qf w) {a0 a1 a2 a3 a4 a5 a6 a7 a8 a9 a10 a11 a12 a13 : Option Value} {x : Int32} (hd : decode cc pc = .ok (.iload 14, 2)) (hq : pc + 2 = q) (k : w q (a0 :: a1 :: a2 :: a3 :: a4 :: a5 :: a6 :: a7 :: a8 :: a9 :: a10 :: a11 :: a12 :: a13 :: some (.int x) :: L) (.int x :: st) z E im) : w pc (a0 :: a1 :: a2 :: a3 :: a4 :: a5 :: a6 :: a7 :: a8 :: a9 :: a10 :: a11 :: a12 :: a13 :: some (.int x) :: L) (st) z E im := by
  subst hq
  exact zz_pure S (fun _ _ _ _ _ _ _ _ _ _ _ _ _ _ _ hx hb hown hts hl kk => lv_iload hx hb hd (zz_ld (i := 14) (v := .int x) hl rfl) (kk _ hl)) k
theorem zz_iload_15 (S : zz_S G l own cc nL d n0 mcT msT isI rt Qf w) {a0 a1 a2 a3 a4 a5 a6 a7 a8 a9 a10 a11 a12 a13 a14 : Option Value} {x : Int32} (hd : decode cc pc = .ok (.iload 15, 2)) (hq : pc + 2 = q) (k : w q (a0 :: a1 :: a2 :: a3 :: a4 :: a5 :: a6 :: a7 :: a8 :: a9 :: a10 :: a11 :: a12 :: a13 :: a14 :: some (.int x) :: L) (.int x :: st) z E im) : w pc (a0 :: a1 :: a2 :: a3 :: a4 :: a5 :: a6 :: a7 :: a8 :: a9 :: a10 :: a11 :: a12 :: a13 :: a14 :: some (.int x) :: L) (st) z E im := by
  subst hq
  exact zz_pure S (fun _ _ _ _ _ _ _ _ _ _ _ _ _ _ _ hx hb hown hts hl kk => lv_iload hx hb hd (zz_ld (i := 15) (v := .int x) hl rfl) (kk _ hl)) k
theorem zz_iload_16 (S : zz_S G l own cc nL d n0 mcT msT isI rt Qf w) {a0 a1 a2 a3 a4 a5 a6 a7 a8 a9 a10 a11 a12 a13 a14 a15 : Option Value} {x : Int32} (hd : decode cc pc = .ok (.iload 16, 2)) (hq : pc + 2 = q) (k : w q (a0 :: a1 :: a2 :: a3 :: a4 :: a5 :: a6 :: a7 :: a8 :: a9 :: a10 :: a11 :: a12 :: a13 :: a14 :: a15 :: some (.int x) :: L) (.int x :: st) z E im) : w pc (a0 :: a1 :: a2 :: a3 :: a4 :: a5 :: a6 :: a7 :: a8 :: a9 :: a10 :: a11 :: a12 :: a13 :: a14 :: a15 :: some (.int x) :: L) (st) z E im := by
  subst hq
  exact zz_pure S (fun _ _ _ _ _ _ _ _ _ _ _ _ _ _ _ hx hb hown hts hl kk => lv_iload hx hb hd (zz_ld (i := 16) (v := .int x) hl rfl) (kk _ hl)) k
theorem zz_lload_0 (S : zz_S G l own cc nL d n0 mcT msT isI rt Qf w) {x : Int64} (hd : decode cc pc = .ok (.lload_n 0, 1)) (hq : pc + 1 = q) (k : w q (some (.long x) :: L) (.long x :: st) z E im) : w pc (some (.long x) :: L) (st) z E im := by
  subst hq
  exact zz_pure S (fun _ _ _ _ _ _ _ _ _ _ _ _ _ _ _ hx hb hown hts hl kk => lv_lload_n (i := 0) hx hb hd rfl (zz_ld (i := 0) (v := .long x) hl rfl) (kk _ hl)) k
theorem zz_lload_1 (S : zz_S G l own cc nL d n0 mcT msT isI rt Qf w) {a0 : Option Value} {x : Int64} (hd : decode cc pc = .ok (.lload_n 1, 1)) (hq : pc + 1 = q) (k : w q (a0 :: some (.long x) :: L) (.long x :: st) z E im) : w pc (a0 :: some (.long x) :: L) (st) z E im := by
  subst hq
  exact zz_pure S (fun _ _ _ _ _ _ _ _ _ _ _ _ _ _ _ hx hb hown hts hl kk => lv_lload_n (i := 1) hx hb hd rfl (zz_ld (i := 1) (v := .long x) hl rfl) (kk _ hl)) k
theorem zz_lload_2 (S : zz_S G l own cc nL d n0 mcT msT isI rt Qf w) {a0 a1 : Option Value} {x : Int64} (hd : decode cc pc = .ok (.lload_n 2, 1)) (hq : pc + 1 = q) (k : w q (a0 :: a1 :: some (.long x) :: L) (.long x :: st) z E im) : w pc (a0 :: a1 :: some (.long x) :: L) (st) z E im := by
  subst hq
  exact zz_pure S (fun _ _ _ _ _ _ _ _ _ _ _ _ _ _ _ hx hb hown hts hl kk => lv_lload_n (i := 2) hx hb hd rfl (zz_ld (i := 2) (v := .long x) hl rfl) (kk _ hl)) k
theorem zz_lload_3 (S : zz_S G l own cc nL d n0 mcT msT isI rt Qf w) {a0 a1 a2 : Option Value} {x : Int64} (hd : decode cc pc = .ok (.lload_n 3, 1)) (hq : pc + 1 = q) (k : w q (a0 :: a1 :: a2 :: some (.long x) :: L) (.long x :: st) z E im) : w pc (a0 :: a1 :: a2 :: some (.long x) :: L) (st) z E im := by
  subst hq
  exact zz_pure S (fun _ _ _ _ _ _ _ _ _ _ _ _ _ _ _ hx hb hown hts hl kk => lv_lload_n (i := 3) hx hb hd rfl (zz_ld (i := 3) (v := .long x) hl rfl) (kk _ hl)) k
theorem zz_lload_4 (S : zz_S G l own cc nL d n0 mcT msT isI rt Qf w) {a0 a1 a2 a3 : Option Value} {x : Int64} (hd : decode cc pc = .ok (.lload 4, 2)) (hq : pc + 2 = q) (k : w q (a0 :: a1 :: a2 :: a3 :: some (.long x) :: L) (.long x :: st) z E im) : w pc (a0 :: a1 :: a2 :: a3 :: some (.long x) :: L) (st) z E im := by
  subst hq
  exact zz_pure S (fun _ _ _ _ _ _ _ _ _ _ _ _ _ _ _ hx hb hown hts hl kk => lv_lload hx hb hd (zz_ld (i := 4) (v := .long x) hl rfl) (kk _ hl)) k
theorem zz_lload_5 (S : zz_S G l own cc nL d n0 mcT msT isI rt Qf w) {a0 a1 a2 a3 a4 : Option Value} {x : Int64} (hd : decode cc pc = .ok (.lload 5, 2)) (hq : pc + 2 = q) (k : w q (a0 :: a1 :: a2 :: a3 :: a4 :: some (.long x) :: L) (.long x :: st) z E im) : w pc (a0 :: a1 :: a2 :: a3 :: a4 :: some (.long x) :: L) (st) z E im := by
  subst hq
  exact zz_pure S (fun _ _ _ _ _ _ _ _ _ _ _ _ _ _ _ hx hb hown hts hl kk => lv_lload hx hb hd (zz_ld (i := 5) (v := .long x) hl rfl) (kk _ hl)) k
theorem zz_lload_6 (S : zz_S G l own cc nL d n0 mcT msT isI rt Qf w) {a0 a1 a2 a3 a4 a5 : Option Value} {x : Int64} (hd : decode cc pc = .ok (.lload 6, 2)) (hq : pc + 2 = q) (k : w q (a0 :: a1 :: a2 :: a3 :: a4 :: a5 :: some (.long x) :: L) (.long x :: st) z E im) : w pc (a0 :: a1 :: a2 :: a3 :: a4 :: a5 :: some (.long x) :: L) (st) z E im := by
  subst hq
  exact zz_pure S (fun _ _ _ _ _ _ _ _ _ _ _ _ _ _ _ hx hb hown hts hl kk => lv_lload hx hb hd (zz_ld (i := 6) (v := .long x) hl rfl) (kk _ hl)) k
theorem zz_lload_7 (S : zz_S G l own cc nL d n0 mcT msT isI rt Qf w) {a0 a1 a2 a3 a4 a5 a6 : Option Value} {x : Int64} (hd : decode cc pc = .ok (.lload 7, 2)) (hq : pc + 2 = q) (k : w q (a0 :: a1 :: a2 :: a3 :: a4 :: a5 :: a6 :: some (.long x) :: L) (.long x :: st) z E im) : w pc (a0 :: a1 :: a2 :: a3 :: a4 :: a5 :: a6 :: some (.long x) :: L) (st) z E im := by
  subst hq
  exact zz_pure S (fun _ _ _ _ _ _ _ _ _ _ _ _ _ _ _ hx hb hown hts hl kk => lv_lload hx hb hd (zz_ld (i := 7) (v := .long x) hl rfl) (kk _ hl)) k
theorem zz_lload_8 (S : zz_S G l own cc nL d n0 mcT msT isI rt Qf w) {a0 a1 a2 a3 a4 a5 a6 a7 : Option Value} {x : Int64} (hd : decode cc pc = .ok (.lload 8, 2)) (hq : pc + 2 = q) (k : w q (a0 :: a1 :: a2 :: a3 :: a4 :: a5 :: a6 :: a7 :: some (.long x) :: L) (.long x :: st) z E im) : w pc (a0 :: a1 :: a2 :: a3 :: a4 :: a5 :: a6 :: a7 :: some (.long x) :: L) (st) z E im := by
  subst hq
  exact zz_pure S (fun _ _ _ _ _ _ _ _ _ _ _ _ _ _ _ hx hb hown hts hl kk => lv_lload hx hb hd (zz_ld (i := 8) (v := .long x) hl rfl) (kk _ hl)) k
theorem zz_lload_9 (S : zz_S G l own cc nL d n0 mcT msT isI rt Qf w) {a0 a1 a2 a3 a4 a5 a6 a7 a8 : Option Value} {x : Int64} (hd : decode cc pc = .ok (.lload 9, 2)) (hq : pc + 2 = q) (k : w q (a0 :: a1 :: a2 :: a3 :: a4 :: a5 :: a6 :: a7 :: a8 :: some (.long x) :: L) (.long x :: st) z E im) : w pc (a0 :: a1 :: a2 :: a3 :: a4 :: a5 :: a6 :: a7 :: a8 :: some (.long x) :: L) (st) z E im := by
  subst hq
  exact zz_pure S (fun _ _ _ _ _ _ _ _ _ _ _ _ _ _ _ hx hb hown hts hl kk => lv_lload hx hb hd (zz_ld (i := 9) (v := .long x) hl rfl) (kk _ hl)) k
theorem zz_lload_10 (S : zz_S G l own cc nL d n0 mcT msT isI rt Qf w) {a0 a1 a2 a3 a4 a5 a6 a7 a8 a9 : Option Value} {x : Int64} (hd : decode cc pc = .ok (.lload 10, 2)) (hq : pc + 2 = q) (k : w q (a0 :: a1 :: a2 :: a3 :: a4 :: a5 :: a6 :: a7 :: a8 :: a9 :: some (.long x) :: L) (.long x :: st) z E im) : w pc (a0 :: a1 :: a2 :: a3 :: a4 :: a5 :: a6 :: a7 :: a8 :: a9 :: some (.long x) :: L) (st) z E im := by
  subst hq
  exact zz_pure S (fun _ _ _ _ _ _ _ _ _ _ _ _ _ _ _ hx hb hown hts hl kk => lv_lload hx hb hd (zz_ld (i := 10) (v := .long x) hl rfl) (kk _ hl)) k
theorem zz_lload_11 (S : zz_S G l own cc nL d n0 mcT msT isI rt Qf w) {a0 a1 a2 a3 a4 a5 a6 a7 a8 a9 a10 : Option Value} {x : Int64} (hd : decode cc pc = .ok (.lload 11, 2)) (hq : pc + 2 = q) (k : w q (a0 :: a1 :: a2 :: a3 :: a4 :: a5 :: a6 :: a7 :: a8 :: a9 :: a10 :: some (.long x) :: L) (.long x :: st) z E im) : w pc (a0 :: a1 :: a2 :: a3 :: a4 :: a5 :: a6 :: a7 :: a8 :: a9 :: a10 :: some (.long x) :: L) (st) z E im := by
  subst hq
  exact zz_pure S (fun _ _ _ _ _ _ _ _ _ _ _ _ _ _ _ hx hb hown hts hl kk => lv_lload hx hb hd (zz_ld (i := 11) (v := .long x) hl rfl) (kk _ hl)) k
theorem zz_lload_12 (S : zz_S G l own cc nL d n0 mcT msT isI rt Qf w) {a0 a1 a2 a3 a4 a5 a6 a7 a8 a9 a10 a11 : Option Value} {x : Int64} (hd : decode cc pc = .ok (.lload 12, 2)) (hq : pc + 2 = q) (k : w q (a0 :: a1 :: a2 :: a3 :: a4 :: a5 :: a6 :: a7 :: a8 :: a9 :: a10 :: a11 :: some (.long x) :: L) (.long x :: st) z E im) : w pc (a0 :: a1 :: a2 :: a3 :: a4 :: a5 :: a6 :: a7 :: a8 :: a9 :: a10 :: a11 :: some (.long x) :: L) (st) z E im := by
  subst hq
  exact zz_pure S (fun _ _ _ _ _ _ _ _ _ _ _ _ _ _ _ hx hb hown hts hl kk => lv_lload hx hb hd (zz_ld (i := 12) (v := .long x) hl rfl) (kk _ hl)) k
theorem zz_lload_13 (S : zz_S G l own cc nL d n0 mcT msT isI rt Qf w) {a0 a1 a2 a3 a4 a5 a6 a7 a8 a9 a10 a11 a12 : Option Value} {x : Int64} (hd : decode cc pc = .ok (.lload 13, 2)) (hq : pc + 2 = q) (k : w q (a0 :: a1 :: a2 :: a3 :: a4 :: a5 :: a6 :: a7 :: a8 :: a9 :: a10 :: a11 :: a12 :: some (.long x) :: L) (.long x :: st) z E im) : w pc (a0 :: a1 :: a2 :: a3 :: a4 :: a5 :: a6 :: a7 :: a8 :: a9 :: a10 :: a11 :: a12 :: some (.long x) :: L) (st) z E im := by
  subst hq
  exact zz_pure S (fun _ _ _ _ _ _ _ _ _ _ _ _ _ _ _ hx hb hown hts hl kk => lv_lload hx hb hd (zz_ld (i := 13) (v := .long x) hl rfl) (kk _ hl)) k
theorem zz_lload_14 (S : zz_S G l own cc nL d n0 mcT msT isI rt Qf w) {a0 a1 a2 a3 a4 a5 a6 a7 a8 a9 a10 a11 a12 a13 : Option Value} {x : Int64} (hd : decode cc pc = .ok (.lload 14, 2)) (hq : pc + 2 = q) (k : w q (a0 :: a1 :: a2 :: a3 :: a4 :: a5 :: a6 :: a7 :: a8 :: a9 :: a10 :: a11 :: a12 :: a13 :: some (.long x) :: L) (.long x :: st) z E im) : w pc (a0 :: a1 :: a2 :: a3 :: a4 :: a5 :: a6 :: a7 :: a8 :: a9 :: a10 :: a11 :: a12 :: a13 :: some (.long x) :: L) (st) z E im := by
  subst hq
  exact zz_pure S (fun _ _ _ _ _ _ _ _ _ _ _ _ _ _ _ hx hb hown hts hl kk => lv_lload hx hb hd (zz_ld (i := 14) (v := .long x) hl rfl) (kk _ hl)) k
theorem zz_lload_15 (S : zz_S G l own cc nL d n0 mcT msT isI rt Qf w) {a0 a1 a2 a3 a4 a5 a6 a7 a8 a9 a10 a11 a12 a13 a14 : Option Value} {x : Int64} (hd : decode cc pc = .ok (.lload 15, 2)) (hq : pc + 2 = q) (k : w q (a0 :: a1 :: a2 :: a3 :: a4 :: a5 :: a6 :: a7 :: a8 :: a9 :: a10 :: a11 :: a12 :: a13 :: a14 :: some (.long x) :: L) (.long x :: st) z E im) : w pc (a0 :: a1 :: a2 :: a3 :: a4 :: a5 :: a6 :: a7 :: a8 :: a9 :: a10 :: a11 :: a12 :: a13 :: a14 :: some (.long x) :: L) (st) z E im := by
  subst hq
  exact zz_pure S (fun _ _ _ _ _ _ _ _ _ _ _ _ _ _ _ hx hb hown hts hl kk => lv_lload hx hb hd (zz_ld (i := 15) (v := .long x) hl rfl) (kk _ hl)) k
theorem zz_lload_16 (S : zz_S G l own cc nL d n0 mcT msT isI rt Qf w) {a0 a1 a2 a3 a4 a5 a6 a7 a8 a9 a10 a11 a12 a13 a14 a15 : Option Value} {x : Int64} (hd : decode cc pc = .ok (.lload 16, 2)) (hq : pc + 2 = q) (k : w q (a0 :: a1 :: a2 :: a3 :: a4 :: a5 :: a6 :: a7 :: a8 :: a9 :: a10 :: a11 :: a12 :: a13 :: a14 :: a15 :: some (.long x) :: L) (.long x :: st) z E im) : w pc (a0 :: a1 :: a2 :: a3 :: a4 :: a5 :: a6 :: a7 :: a8 :: a9 :: a10 :: a11 :: a12 :: a13 :: a14 :: a15 :: some (.long x) :: L) (st) z E im := by
  subst hq
  exact zz_pure S (fun _ _ _ _ _ _ _ _ _ _ _ _ _ _ _ hx hb hown hts hl kk => lv_lload hx hb hd (zz_ld (i := 16) (v := .long x) hl rfl) (kk _ hl)) k
theorem zz_aload_0 (S : zz_S G l own cc nL d n0 mcT msT isI rt Qf w) {x : Nat} (hd : decode cc pc = .ok (.aload_n 0, 1)) (hq : pc + 1 = q) (k : w q (some (.ref x) :: L) (.ref x :: st) z E im) : w pc (some (.ref x) :: L) (st) z E im := by
  subst hq
  exact zz_pure S (fun _ _ _ _ _ _ _ _ _ _ _ _ _ _ _ hx hb hown hts hl kk => lv_aload_n (i := 0) hx hb hd rfl (zz_ld (i := 0) (v := .ref x) hl rfl) (kk _ hl)) k
theorem zz_aload_1 (S : zz_S G l own cc nL d n0 mcT msT isI rt Qf w) {a0 : Option Value} {x : Nat} (hd : decode cc pc = .ok (.aload_n 1, 1)) (hq : pc + 1 = q) (k : w q (a0 :: some (.ref x) :: L) (.ref x :: st) z E im) : w pc (a0 :: some (.ref x) :: L) (st) z E im := by
  subst hq
  exact zz_pure S (fun _ _ _ _ _ _ _ _ _ _ _ _ _ _ _ hx hb hown hts hl kk => lv_aload_n (i := 1) hx hb hd rfl (zz_ld (i := 1) (v := .ref x) hl rfl) (kk _ hl)) k
theorem zz_aload_2 (S : zz_S G l own cc nL d n0 mcT msT isI rt Qf w) {a0 a1 : Option Value} {x : Nat} (hd : decode cc pc = .ok (.aload_n 2, 1)) (hq : pc + 1 = q) (k : w q (a0 :: a1 :: some (.ref x) :: L) (.ref x :: st) z E im) : w pc (a0 :: a1 :: some (.ref x) :: L) (st) z E im := by
  subst hq
  exact zz_pure S (fun _ _ _ _ _ _ _ _ _ _ _ _ _ _ _ hx hb hown hts hl kk => lv_aload_n (i := 2) hx hb hd rfl (zz_ld (i := 2) (v := .ref x) hl rfl) (kk _ hl)) k
theorem zz_aload_3 (S : zz_S G l own cc nL d n0 mcT msT isI rt Qf w) {a0 a1 a2 : Option Value} {x : Nat} (hd : decode cc pc = .ok (.aload_n 3, 1)) (hq : pc + 1 = q) (k : w q (a0 :: a1 :: a2 :: some (.ref x) :: L) (.ref x :: st) z E im) : w pc (a0 :: a1 :: a2 :: some (.ref x) :: L) (st) z E im := by
  subst hq
  exact zz_pure S (fun _ _ _ _ _ _ _ _ _ _ _ _ _ _ _ hx hb hown hts hl kk => lv_aload_n (i := 3) hx hb hd rfl (zz_ld (i := 3) (v := .ref x) hl rfl) (kk _ hl)) k
theorem zz_aload_4 (S : zz_S G l own cc nL d n0 mcT msT isI rt Qf w) {a0 a1 a2 a3 : Option Value} {x : Nat} (hd : decode cc pc = .ok (.aload 4, 2)) (hq : pc + 2 = q) (k : w q (a0 :: a1 :: a2 :: a3 :: some (.ref x) :: L) (.ref x :: st) z E im) : w pc (a0 :: a1 :: a2 :: a3 :: some (.ref x) :: L) (st) z E im := by
  subst hq
  exact zz_pure S (fun _ _ _ _ _ _ _ _ _ _ _ _ _ _ _ hx hb hown hts hl kk => lv_aload hx hb hd (zz_ld (i := 4) (v := .ref x) hl rfl) (kk _ hl)) k
theorem zz_aload_5 (S : zz_S G l own cc nL d n0 mcT msT isI rt Qf w) {a0 a1 a2 a3 a4 : Option Value} {x : Nat} (hd : decode cc pc = .ok (.aload 5, 2)) (hq : pc + 2 = q) (k : w q (a0 :: a1 :: a2 :: a3 :: a4 :: some (.ref x) :: L) (.ref x :: st) z E im) : w pc (a0 :: a1 :: a2 :: a3 :: a4 :: some (.ref x) :: L) (st) z E im := by
  subst hq
  exact zz_pure S (fun _ _ _ _ _ _ _ _ _ _ _ _ _ _ _ hx hb hown hts hl kk => lv_aload hx hb hd (zz_ld (i := 5) (v := .ref x) hl rfl) (kk _ hl)) k
theorem zz_aload_6 (S : zz_S G l own cc nL d n0 mcT msT isI rt Qf w) {a0 a1 a2 a3 a4 a5 : Option Value} {x : Nat} (hd : decode cc pc = .ok (.aload 6, 2)) (hq : pc + 2 = q) (k : w q (a0 :: a1 :: a2 :: a3 :: a4 :: a5 :: some (.ref x) :: L) (.ref x :: st) z E im) : w pc (a0 :: a1 :: a2 :: a3 :: a4 :: a5 :: some (.ref x) :: L) (st) z E im := by
  subst hq
  exact zz_pure S (fun _ _ _ _ _ _ _ _ _ _ _ _ _ _ _ hx hb hown hts hl kk => lv_aload hx hb hd (zz_ld (i := 6) (v := .ref x) hl rfl) (kk _ hl)) k
theorem zz_aload_7 (S : zz_S G l own cc nL d n0 mcT msT isI rt Qf w) {a0 a1 a2 a3 a4 a5 a6 : Option Value} {x : Nat} (hd : decode cc pc = .ok (.aload 7, 2)) (hq : pc + 2 = q) (k : w q (a0 :: a1 :: a2 :: a3 :: a4 :: a5 :: a6 :: some (.ref x) :: L) (.ref x :: st) z E im) : w pc (a0 :: a1 :: a2 :: a3 :: a4 :: a5 :: a6 :: some (.ref x) :: L) (st) z E im := by
  subst hq
  exact zz_pure S (fun _ _ _ _ _ _ _ _ _ _ _ _ _ _ _ hx hb hown hts hl kk => lv_aload hx hb hd (zz_ld (i := 7) (v := .ref x) hl rfl) (kk _ hl)) k
theorem zz_aload_8 (S : zz_S G l own cc nL d n0 mcT msT isI rt Qf w) {a0 a1 a2 a3 a4 a5 a6 a7 : Option Value} {x : Nat} (hd : decode cc pc = .ok (.aload 8, 2)) (hq : pc + 2 = q) (k : w q (a0 :: a1 :: a2 :: a3 :: a4 :: a5 :: a6 :: a7 :: some (.ref x) :: L) (.ref x :: st) z E im) : w pc (a0 :: a1 :: a2 :: a3 :: a4 :: a5 :: a6 :: a7 :: some (.ref x) :: L) (st) z E im := by
  subst hq
  exact zz_pure S (fun _ _ _ _ _ _ _ _ _ _ _ _ _ _ _ hx hb hown hts hl kk => lv_aload hx hb hd (zz_ld (i := 8) (v := .ref x) hl rfl) (kk _ hl)) k
theorem zz_aload_9 (S : zz_S G l own cc nL d n0 mcT msT isI rt Qf w) {a0 a1 a2 a3 a4 a5 a6 a7 a8 : Option Value} {x : Nat} (hd : decode cc pc = .ok (.aload 9, 2)) (hq : pc + 2 = q) (k : w q (a0 :: a1 :: a2 :: a3 :: a4 :: a5 :: a6 :: a7 :: a8 :: some (.ref x) :: L) (.ref x :: st) z E im) : w pc (a0 :: a1 :: a2 :: a3 :: a4 :: a5 :: a6 :: a7 :: a8 :: some (.ref x) :: L) (st) z E im := by
  subst hq
  exact zz_pure S (fun _ _ _ _ _ _ _ _ _ _ _ _ _ _ _ hx hb hown hts hl kk => lv_aload hx hb hd (zz_ld (i := 9) (v := .ref x) hl rfl) (kk _ hl)) k
theorem zz_aload_10 (S : zz_S G l own cc nL d n0 mcT msT isI rt Qf w) {a0 a1 a2 a3 a4 a5 a6 a7 a8 a9 : Option Value} {x : Nat} (hd : decode cc pc = .ok (.aload 10, 2)) (hq : pc + 2 = q) (k : w q (a0 :: a1 :: a2 :: a3 :: a4 :: a5 :: a6 :: a7 :: a8 :: a9 :: some (.ref x) :: L) (.ref x :: st) z E im) : w pc (a0 :: a1 :: a2 :: a3 :: a4 :: a5 :: a6 :: a7 :: a8 :: a9 :: some (.ref x) :: L) (st) z E im := by
  subst hq
  exact zz_pure S (fun _ _ _ _ _ _ _ _ _ _ _ _ _ _ _ hx hb hown hts hl kk => lv_aload hx hb hd (zz_ld (i := 10) (v := .ref x) hl rfl) (kk _ hl)) k
theorem zz_aload_11 (S : zz_S G l own cc nL d n0 mcT msT isI rt Qf w) {a0 a1 a2 a3 a4 a5 a6 a7 a8 a9 a10 : Option Value} {x : Nat} (hd : decode cc pc = .ok (.aload 11, 2)) (hq : pc + 2 = q) (k : w q (a0 :: a1 :: a2 :: a3 :: a4 :: a5 :: a6 :: a7 :: a8 :: a9 :: a10 :: some (.ref x) :: L) (.ref x :: st) z E im) : w pc (a0 :: a1 :: a2 :: a3 :: a4 :: a5 :: a6 :: a7 :: a8 :: a9 :: a10 :: some (.ref x) :: L) (st) z E im := by
  subst hq
  exact zz_pure S (fun _ _ _ _ _ _ _ _ _ _ _ _ _ _ _ hx hb hown hts hl kk => lv_aload hx hb hd (zz_ld (i := 11) (v := .ref x) hl rfl) (kk _ hl)) k
theorem zz_aload_12 (S : zz_S G l own cc nL d n0 mcT msT isI rt Qf w) {a0 a1 a2 a3 a4 a5 a6 a7 a8 a9 a10 a11 : Option Value} {x : Nat} (hd : decode cc pc = .ok (.aload 12, 2)) (hq : pc + 2 = q) (k : w q (a0 :: a1 :: a2 :: a3 :: a4 :: a5 :: a6 :: a7 :: a8 :: a9 :: a10 :: a11 :: some (.ref x) :: L) (.ref x :: st) z E im) : w pc (a0 :: a1 :: a2 :: a3 :: a4 :: a5 :: a6 :: a7 :: a8 :: a9 :: a10 :: a11 :: some (.ref x) :: L) (st) z E im := by
  subst hq
  exact zz_pure S (fun _ _ _ _ _ _ _ _ _ _ _ _ _ _ _ hx hb hown hts hl kk => lv_aload hx hb hd (zz_ld (i := 12) (v := .ref x) hl rfl) (kk _ hl)) k
theorem zz_aload_13 (S : zz_S G l own cc nL d n0 mcT msT isI rt Qf w) {a0 a1 a2 a3 a4 a5 a6 a7 a8 a9 a10 a11 a12 : Option Value} {x : Nat} (hd : decode cc pc = .ok (.aload 13, 2)) (hq : pc + 2 = q) (k : w q (a0 :: a1 :: a2 :: a3 :: a4 :: a5 :: a6 :: a7 :: a8 :: a9 :: a10 :: a11 :: a12 :: some (.ref x) :: L) (.ref x :: st) z E im) : w pc (a0 :: a1 :: a2 :: a3 :: a4 :: a5 :: a6 :: a7 :: a8 :: a9 :: a10 :: a11 :: a12 :: some (.ref x) :: L) (st) z E im := by
  subst hq
  exact zz_pure S (fun _ _ _ _ _ _ _ _ _ _ _ _ _ _ _ hx hb hown hts hl kk => lv_aload hx hb hd (zz_ld (i := 13) (v := .ref x) hl rfl) (kk _ hl)) k
theorem zz_aload_14 (S : zz_S G l own cc nL d n0 mcT msT isI rt Qf w) {a0 a1 a2 a3 a4 a5 a6 a7 a8 a9 a10 a11 a12 a13 : Option Value} {x : Nat} (hd : decode cc pc = .ok (.aload 14, 2)) (hq : pc + 2 = q) (k : w q (a0 :: a1 :: a2 :: a3 :: a4 :: a5 :: a6 :: a7 :: a8 :: a9 :: a10 :: a11 :: a12 :: a13 :: some (.ref x) :: L) (.ref x :: st) z E im) : w pc (a0 :: a1 :: a2 :: a3 :: a4 :: a5 :: a6 :: a7 :: a8 :: a9 :: a10 :: a11 :: a12 :: a13 :: some (.ref x) :: L) (st) z E im := by
  subst hq
  exact zz_pure S (fun _ _ _ _ _ _ _ _ _ _ _ _ _ _ _ hx hb hown hts hl kk => lv_aload hx hb hd (zz_ld (i := 14) (v := .ref x) hl rfl) (kk _ hl)) k
theorem zz_aload_15 (S : zz_S G l own cc nL d n0 mcT msT isI rt Qf w) {a0 a1 a2 a3 a4 a5 a6 a7 a8 a9 a10 a11 a12 a13 a14 : Option Value} {x : Nat} (hd : decode cc pc = .ok (.aload 15, 2)) (hq : pc + 2 = q) (k : w q (a0 :: a1 :: a2 :: a3 :: a4 :: a5 :: a6 :: a7 :: a8 :: a9 :: a10 :: a11 :: a12 :: a13 :: a14 :: some (.ref x) :: L) (.ref x :: st) z E im) : w pc (a0 :: a1 :: a2 :: a3 :: a4 :: a5 :: a6 :: a7 :: a8 :: a9 :: a10 :: a11 :: a12 :: a13 :: a14 :: some (.ref x) :: L) (st) z E im := by
  subst hq
  exact zz_pure S (fun _ _ _ _ _ _ _ _ _ _ _ _ _ _ _ hx hb hown hts hl kk => lv_aload hx hb hd (zz_ld (i := 15) (v := .ref x) hl rfl) (kk _ hl)) k
theorem zz_aload_16 (S : zz_S G l own cc nL d n0 mcT msT isI rt Qf w) {a0 a1 a2 a3 a4 a5 a6 a7 a8 a9 a10 a11 a12 a13 a14 a15 : Option Value} {x : Nat} (hd : decode cc pc = .ok (.aload 16, 2)) (hq : pc + 2 = q) (k : w q (a0 :: a1 :: a2 :: a3 :: a4 :: a5 :: a6 :: a7 :: a8 :: a9 :: a10 :: a11 :: a12 :: a13 :: a14 :: a15 :: some (.ref x) :: L) (.ref x :: st) z E im) : w pc (a0 :: a1 :: a2 :: a3 :: a4 :: a5 :: a6 :: a7 :: a8 :: a9 :: a10 :: a11 :: a12 :: a13 :: a14 :: a15 :: some (.ref x) :: L) (st) z E im := by
  subst hq
  exact zz_pure S (fun _ _ _ _ _ _ _ _ _ _ _ _ _ _ _ hx hb hown hts hl kk => lv_aload hx hb hd (zz_ld (i := 16) (v := .ref x) hl rfl) (kk _ hl)) k
def zz_c1 : Option Value → Bool
  | some v => v.category == 1
  | none => true
theorem zz_hp {M : ZL} {i : Nat} {a : Option Value} (hM : M[i]? = some a) (h : zz_c1 a = true) : ∀ (j : Nat) (v : Value), j + 1 = i + 1 → M[j]? = some (some v) → v.category = 1 := by
  intro j v hj hv
  have hj2 : j = i := by omega
  rw [hj2, hM] at hv
  rw [Option.some.inj hv] at h
  simpa [zz_c1] using h
theorem zz_c1_of {a : Option Value} (h : zz_c1 a = true) {v : Value} (e : a = some v) : v.category = 1 := by
  subst e
  simpa [zz_c1] using h
theorem zz_istore_0 (S : zz_S G l own cc nL d n0 mcT msT isI rt Qf w) {b0 : Option Value} {x : Int32}  (hd : decode cc pc = .ok (.istore_n 0, 1)) (hq : pc + 1 = q) (k : w q (some (.int x) :: L) (st) z E im) : w pc (b0 :: L) (.int x :: st) z E im := by
  subst hq
  exact zz_pure S (fun _ _ _ _ _ _ _ _ _ _ _ _ _ _ _ hx hb hown hts hl kk => lv_istore_n (i := 0) hx hb hd rfl hl.1 (by have := hl.2; simp only [List.length_cons] at this; omega) rfl (fun ls9 h9 => kk _ (zz_set1 (v := .int x) (i := 0) hl.2 (fun j v hj _ => absurd hj (Nat.succ_ne_zero j)) h9))) k
theorem zz_istore_1 (S : zz_S G l own cc nL d n0 mcT msT isI rt Qf w) {a0 b0 : Option Value} {x : Int32} (hp : zz_c1 a0 = true) (hd : decode cc pc = .ok (.istore_n 1, 1)) (hq : pc + 1 = q) (k : w q (a0 :: some (.int x) :: L) (st) z E im) : w pc (a0 :: b0 :: L) (.int x :: st) z E im := by
  subst hq
  exact zz_pure S (fun _ _ _ _ _ _ _ _ _ _ _ _ _ _ _ hx hb hown hts hl kk => lv_istore_n (i := 1) hx hb hd rfl hl.1 (by have := hl.2; simp only [List.length_cons] at this; omega) rfl (fun ls9 h9 => kk _ (zz_set1 (v := .int x) (i := 1) hl.2 (zz_hp (i := 0) rfl hp) h9))) k
theorem zz_istore_2 (S : zz_S G l own cc nL d n0 mcT msT isI rt Qf w) {a0 a1 b0 : Option Value} {x : Int32} (hp : zz_c1 a1 = true) (hd : decode cc pc = .ok (.istore_n 2, 1)) (hq : pc + 1 = q) (k : w q (a0 :: a1 :: some (.int x) :: L) (st) z E im) : w pc (a0 :: a1 :: b0 :: L) (.int x :: st) z E im := by
  subst hq
  exact zz_pure S (fun _ _ _ _ _ _ _ _ _ _ _ _ _ _ _ hx hb hown hts hl kk => lv_istore_n (i := 2) hx hb hd rfl hl.1 (by have := hl.2; simp only [List.length_cons] at this; omega) rfl (fun ls9 h9 => kk _ (zz_set1 (v := .int x) (i := 2) hl.2 (zz_hp (i := 1) rfl hp) h9))) k
theorem zz_istore_3 (S : zz_S G l own cc nL d n0 mcT msT isI rt Qf w) {a0 a1 a2 b0 : Option Value} {x : Int32} (hp : zz_c1 a2 = true) (hd : decode cc pc = .ok (.istore_n 3, 1)) (hq : pc + 1 = q) (k : w q (a0 :: a1 :: a2 :: some (.int x) :: L) (st) z E im) : w pc (a0 :: a1 :: a2 :: b0 :: L) (.int x :: st) z E im := by
  subst hq
  exact zz_pure S (fun _ _ _ _ _ _ _ _ _ _ _ _ _ _ _ hx hb hown hts hl kk => lv_istore_n (i := 3) hx hb hd rfl hl.1 (by have := hl.2; simp only [List.length_cons] at this; omega) rfl (fun ls9 h9 => kk _ (zz_set1 (v := .int x) (i := 3) hl.2 (zz_hp (i := 2) rfl hp) h9))) k
theorem zz_istore_4 (S : zz_S G l own cc nL d n0 mcT msT isI rt Qf w) {a0 a1 a2 a3 b0 : Option Value} {x : Int32} (hp : zz_c1 a3 = true) (hd : decode cc pc = .ok (.istore 4, 2)) (hq : pc + 2 = q) (k : w q (a0 :: a1 :: a2 :: a3 :: some (.int x) :: L) (st) z E im) : w pc (a0 :: a1 :: a2 :: a3 :: b0 :: L) (.int x :: st) z E im := by
  subst hq
  exact zz_pure S (fun _ _ _ _ _ _ _ _ _ _ _ _ _ _ _ hx hb hown hts hl kk => lv_istore hx hb hd hl.1 (by have := hl.2; simp only [List.length_cons] at this; omega) rfl (fun ls9 h9 => kk _ (zz_set1 (v := .int x) (i := 4) hl.2 (zz_hp (i := 3) rfl hp) h9))) k
theorem zz_istore_5 (S : zz_S G l own cc nL d n0 mcT msT isI rt Qf w) {a0 a1 a2 a3 a4 b0 : Option Value} {x : Int32} (hp : zz_c1 a4 = true) (hd : decode cc pc = .ok (.istore 5, 2)) (hq : pc + 2 = q) (k : w q (a0 :: a1 :: a2 :: a3 :: a4 :: some (.int x) :: L) (st) z E im) : w pc (a0 :: a1 :: a2 :: a3 :: a4 :: b0 :: L) (.int x :: st) z E im := by
  subst hq
  exact zz_pure S (fun _ _ _ _ _ _ _ _ _ _ _ _ _ _ _ hx hb hown hts hl kk => lv_istore hx hb hd hl.1 (by have := hl.2; simp only [List.length_cons] at this; omega) rfl (fun ls9 h9 => kk _ (zz_set1 (v := .int x) (i := 5) hl.2 (zz_hp (i := 4) rfl hp) h9))) k
theorem zz_istore_6 (S : zz_S G l own cc nL d n0 mcT msT isI rt Qf w) {a0 a1 a2 a3 a4 a5 b0 : Option Value} {x : Int32} (hp : zz_c1 a5 = true) (hd : decode cc pc = .ok (.istore 6, 2)) (hq : pc + 2 = q) (k : w q (a0 :: a1 :: a2 :: a3 :: a4 :: a5 :: some (.int x) :: L) (st) z E im) : w pc (a0 :: a1 :: a2 :: a3 :: a4 :: a5 :: b0 :: L) (.int x :: st) z E im := by
  subst hq
  exact zz_pure S (fun _ _ _ _ _ _ _ _ _ _ _ _ _ _ _ hx hb hown hts hl kk => lv_istore hx hb hd hl.1 (by have := hl.2; simp only [List.length_cons] at this; omega) rfl (fun ls9 h9 => kk _ (zz_set1 (v := .int x) (i := 6) hl.2 (zz_hp (i := 5) rfl hp) h9))) k
theorem zz_istore_7 (S : zz_S G l own cc nL d n0 mcT msT isI rt Qf w) {a0 a1 a2 a3 a4 a5 a6 b0 : Option Value} {x : Int32} (hp : zz_c1 a6 = true) (hd : decode cc pc = .ok (.istore 7, 2)) (hq : pc + 2 = q) (k : w q (a0 :: a1 :: a2 :: a3 :: a4 :: a5 :: a6 :: some (.int x) :: L) (st) z E im) : w pc (a0 :: a1 :: a2 :: a3 :: a4 :: a5 :: a6 :: b0 :: L) (.int x :: st) z E im := by
  subst hq
  exact zz_pure S (fun _ _ _ _ _ _ _ _ _ _ _ _ _ _ _ hx hb hown hts hl kk => lv_istore hx hb hd hl.1 (by have := hl.2; simp only [List.length_cons] at this; omega) rfl (fun ls9 h9 => kk _ (zz_set1 (v := .int x) (i := 7) hl.2 (zz_hp (i := 6) rfl hp) h9))) k
theorem zz_istore_8 (S : zz_S G l own cc nL d n0 mcT msT isI rt Qf w) {a0 a1 a2 a3 a4 a5 a6 a7 b0 : Option Value} {x : Int32} (hp : zz_c1 a7 = true) (hd : decode cc pc = .ok (.istore 8, 2)) (hq : pc + 2 = q) (k : w q (a0 :: a1 :: a2 :: a3 :: a4 :: a5 :: a6 :: a7 :: some (.int x) :: L) (st) z E im) : w pc (a0 :: a1 :: a2 :: a3 :: a4 :: a5 :: a6 :: a7 :: b0 :: L) (.int x :: st) z E im := by
  subst hq
  exact zz_pure S (fun _ _ _ _ _ _ _ _ _ _ _ _ _ _ _ hx hb hown hts hl kk => lv_istore hx hb hd hl.1 (by have := hl.2; simp only [List.length_cons] at this; omega) rfl (fun ls9 h9 => kk _ (zz_set1 (v := .int x) (i := 8) hl.2 (zz_hp (i := 7) rfl hp) h9))) k
theorem zz_istore_9 (S : zz_S G l own cc nL d n0 mcT msT isI rt Qf w) {a0 a1 a2 a3 a4 a5 a6 a7 a8 b0 : Option Value} {x : Int32} (hp : zz_c1 a8 = true) (hd : decode cc pc = .ok (.istore 9, 2)) (hq : pc + 2 = q) (k : w q (a0 :: a1 :: a2 :: a3 :: a4 :: a5 :: a6 :: a7 :: a8 :: some (.int x) :: L) (st) z E im) : w pc (a0 :: a1 :: a2 :: a3 :: a4 :: a5 :: a6 :: a7 :: a8 :: b0 :: L) (.int x :: st) z E im := by
  subst hq
  exact zz_pure S (fun _ _ _ _ _ _ _ _ _ _ _ _ _ _ _ hx hb hown hts hl kk => lv_istore hx hb hd hl.1 (by have := hl.2; simp only [List.length_cons] at this; omega) rfl (fun ls9 h9 => kk _ (zz_set1 (v := .int x) (i := 9) hl.2 (zz_hp (i := 8) rfl hp) h9))) k
theorem zz_istore_10 (S : zz_S G l own cc nL d n0 mcT msT isI rt Qf w) {a0 a1 a2 a3 a4 a5 a6 a7 a8 a9 b0 : Option Value} {x : Int32} (hp : zz_c1 a9 = true) (hd : decode cc pc = .ok (.istore 10, 2)) (hq : pc + 2 = q) (k : w q (a0 :: a1 :: a2 :: a3 :: a4 :: a5 :: a6 :: a7 :: a8 :: a9 :: some (.int x) :: L) (st) z E im) : w pc (a0 :: a1 :: a2 :: a3 :: a4 :: a5 :: a6 :: a7 :: a8 :: a9 :: b0 :: L) (.int x :: st) z E im := by
  subst hq
  exact zz_pure S (fun _ _ _ _ _ _ _ _ _ _ _ _ _ _ _ hx hb hown hts hl kk => lv_istore hx hb hd hl.1 (by have := hl.2; simp only [List.length_cons] at this; omega) rfl (fun ls9 h9 => kk _ (zz_set1 (v := .int x) (i := 10) hl.2 (zz_hp (i := 9) rfl hp) h9))) k
theorem zz_istore_11 (S : zz_S G l own cc nL d n0 mcT msT isI rt Qf w) {a0 a1 a2 a3 a4 a5 a6 a7 a8 a9 a10 b0 : Option Value} {x : Int32} (hp : zz_c1 a10 = true) (hd : decode cc pc = .ok (.istore 11, 2)) (hq : pc + 2 = q) (k : w q (a0 :: a1 :: a2 :: a3 :: a4 :: a5 :: a6 :: a7 :: a8 :: a9 :: a10 :: some (.int x) :: L) (st) z E im) : w pc (a0 :: a1 :: a2 :: a3 :: a4 :: a5 :: a6 :: a7 :: a8 :: a9 :: a10 :: b0 :: L) (.int x :: st) z E im := by
  subst hq
  exact zz_pure S (fun _ _ _ _ _ _ _ _ _ _ _ _ _ _ _ hx hb hown hts hl kk => lv_istore hx hb hd hl.1 (by have := hl.2; simp only [List.length_cons] at this; omega) rfl (fun ls9 h9 => kk _ (zz_set1 (v := .int x) (i := 11) hl.2 (zz_hp (i := 10) rfl hp) h9))) k
theorem zz_istore_12 (S : zz_S G l own cc nL d n0 mcT msT isI rt Qf w) {a0 a1 a2 a3 a4 a5 a6 a7 a8 a9 a10 a11 b0 : Option Value} {x : Int32} (hp : zz_c1 a11 = true) (hd : decode cc pc = .ok (.istore 12, 2)) (hq : pc + 2 = q) (k : w q (a0 :: a1 :: a2 :: a3 :: a4 :: a5 :: a6 :: a7 :: a8 :: a9 :: a10 :: a11 :: some (.int x) :: L) (st) z E im) : w pc (a0 :: a1 :: a2 :: a3 :: a4 :: a5 :: a6 :: a7 :: a8 :: a9 :: a10 :: a11 :: b0 :: L) (.int x :: st) z E im := by
  subst hq
  exact zz_pure S (fun _ _ _ _ _ _ _ _ _ _ _ _ _ _ _ hx hb hown hts hl kk => lv_istore hx hb hd hl.1 (by have := hl.2; simp only [List.length_cons] at this; omega) rfl (fun ls9 h9 => kk _ (zz_set1 (v := .int x) (i := 12) hl.2 (zz_hp (i := 11) rfl hp) h9))) k
theorem zz_istore_13 (S : zz_S G l own cc nL d n0 mcT msT isI rt Qf w) {a0 a1 a2 a3 a4 a5 a6 a7 a8 a9 a10 a11 a12 b0 : Option Value} {x : Int32} (hp : zz_c1 a12 = true) (hd : decode cc pc = .ok (.istore 13, 2)) (hq : pc + 2 = q) (k : w q (a0 :: a1 :: a2 :: a3 :: a4 :: a5 :: a6 :: a7 :: a8 :: a9 :: a10 :: a11 :: a12 :: some (.int x) :: L) (st) z E im) : w pc (a0 :: a1 :: a2 :: a3 :: a4 :: a5 :: a6 :: a7 :: a8 :: a9 :: a10 :: a11 :: a12 :: b0 :: L) (.int x :: st) z E im := by
  subst hq
  exact zz_pure S (fun _ _ _ _ _ _ _ _ _ _ _ _ _ _ _ hx hb hown hts hl kk => lv_istore hx hb hd hl.1 (by have := hl.2; simp only [List.length_cons] at this; omega) rfl (fun ls9 h9 => kk _ (zz_set1 (v := .int x) (i := 13) hl.2 (zz_hp (i := 12) rfl hp) h9))) k
theorem zz_istore_14 (S : zz_S G l own cc nL d n0 mcT msT isI rt Qf w) {a0 a1 a2 a3 a4 a5 a6 a7 a8 a9 a10 a11 a12 a13 b0 : Option Value} {x : Int32} (hp : zz_c1 a13 = true) (hd : decode cc pc = .ok (.istore 14, 2)) (hq : pc + 2 = q) (k : w q (a0 :: a1 :: a2 :: a3 :: a4 :: a5 :: a6 :: a7 :: a8 :: a9 :: a10 :: a11 :: a12 :: a13 :: some (.int x) :: L) (st) z E im) : w pc (a0 :: a1 :: a2 :: a3 :: a4 :: a5 :: a6 :: a7 :: a8 :: a9 :: a10 :: a11 :: a12 :: a13 :: b0 :: L) (.int x :: st) z E im := by
  subst hq
  exact zz_pure S (fun _ _ _ _ _ _ _ _ _ _ _ _ _ _ _ hx hb hown hts hl kk => lv_istore hx hb hd hl.1 (by have := hl.2; simp only [List.length_cons] at this; omega) rfl (fun ls9 h9 => kk _ (zz_set1 (v := .int x) (i := 14) hl.2 (zz_hp (i := 13) rfl hp) h9))) k
theorem zz_istore_15 (S : zz_S G l own cc nL d n0 mcT msT isI rt Qf w) {a0 a1 a2 a3 a4 a5 a6 a7 a8 a9 a10 a11 a12 a13 a14 b0 : Option Value} {x : Int32} (hp : zz_c1 a14 = true) (hd : decode cc pc = .ok (.istore 15, 2)) (hq : pc + 2 = q) (k : w q (a0 :: a1 :: a2 :: a3 :: a4 :: a5 :: a6 :: a7 :: a8 :: a9 :: a10 :: a11 :: a12 :: a13 :: a14 :: some (.int x) :: L) (st) z E im) : w pc (a0 :: a1 :: a2 :: a3 :: a4 :: a5 :: a6 :: a7 :: a8 :: a9 :: a10 :: a11 :: a12 :: a13 :: a14 :: b0 :: L) (.int x :: st) z E im := by
  subst hq
  exact zz_pure S (fun _ _ _ _ _ _ _ _ _ _ _ _ _ _ _ hx hb hown hts hl kk => lv_istore hx hb hd hl.1 (by have := hl.2; simp only [List.length_cons] at this; omega) rfl (fun ls9 h9 => kk _ (zz_set1 (v := .int x) (i := 15) hl.2 (zz_hp (i := 14) rfl hp) h9))) k
theorem zz_istore_16 (S : zz_S G l own cc nL d n0 mcT msT isI rt Qf w) {a0 a1 a2 a3 a4 a5 a6 a7 a8 a9 a10 a11 a12 a13 a14 a15 b0 : Option Value} {x : Int32} (hp : zz_c1 a15 = true) (hd : decode cc pc = .ok (.istore 16, 2)) (hq : pc + 2 = q) (k : w q (a0 :: a1 :: a2 :: a3 :: a4 :: a5 :: a6 :: a7 :: a8 :: a9 :: a10 :: a11 :: a12 :: a13 :: a14 :: a15 :: some (.int x) :: L) (st) z E im) : w pc (a0 :: a1 :: a2 :: a3 :: a4 :: a5 :: a6 :: a7 :: a8 :: a9 :: a10 :: a11 :: a12 :: a13 :: a14 :: a15 :: b0 :: L) (.int x :: st) z E im := by
  subst hq
  exact zz_pure S (fun _ _ _ _ _ _ _ _ _ _ _ _ _ _ _ hx hb hown hts hl kk => lv_istore hx hb hd hl.1 (by have := hl.2; simp only [List.length_cons] at this; omega) rfl (fun ls9 h9 => kk _ (zz_set1 (v := .int x) (i := 16) hl.2 (zz_hp (i := 15) rfl hp) h9))) k
theorem zz_lstore_0 (S : zz_S G l own cc nL d n0 mcT msT isI rt Qf w) {b0 b1 : Option Value} {x : Int64}  (hd : decode cc pc = .ok (.lstore_n 0, 1)) (hq : pc + 1 = q) (k : w q (some (.long x) :: none :: L) (st) z E im) : w pc (b0 :: b1 :: L) (.long x :: st) z E im := by
  subst hq
  exact zz_pure S (fun _ _ _ _ _ _ _ _ _ _ _ _ _ _ _ hx hb hown hts hl kk => lv_lstore_n (i := 0) hx hb hd rfl hl.1 (by have := hl.2; simp only [List.length_cons] at this; omega) rfl (fun ls9 h9 => kk _ (zz_set2 (v := .long x) (i := 0) hl.2 (fun j v hj _ => absurd hj (Nat.succ_ne_zero j)) h9))) k
theorem zz_lstore_1 (S : zz_S G l own cc nL d n0 mcT msT isI rt Qf w) {a0 b0 b1 : Option Value} {x : Int64} (hp : zz_c1 a0 = true) (hd : decode cc pc = .ok (.lstore_n 1, 1)) (hq : pc + 1 = q) (k : w q (a0 :: some (.long x) :: none :: L) (st) z E im) : w pc (a0 :: b0 :: b1 :: L) (.long x :: st) z E im := by
  subst hq
  exact zz_pure S (fun _ _ _ _ _ _ _ _ _ _ _ _ _ _ _ hx hb hown hts hl kk => lv_lstore_n (i := 1) hx hb hd rfl hl.1 (by have := hl.2; simp only [List.length_cons] at this; omega) rfl (fun ls9 h9 => kk _ (zz_set2 (v := .long x) (i := 1) hl.2 (zz_hp (i := 0) rfl hp) h9))) k
theorem zz_lstore_2 (S : zz_S G l own cc nL d n0 mcT msT isI rt Qf w) {a0 a1 b0 b1 : Option Value} {x : Int64} (hp : zz_c1 a1 = true) (hd : decode cc pc = .ok (.lstore_n 2, 1)) (hq : pc + 1 = q) (k : w q (a0 :: a1 :: some (.long x) :: none :: L) (st) z E im) : w pc (a0 :: a1 :: b0 :: b1 :: L) (.long x :: st) z E im := by
  subst hq
  exact zz_pure S (fun _ _ _ _ _ _ _ _ _ _ _ _ _ _ _ hx hb hown hts hl kk => lv_lstore_n (i := 2) hx hb hd rfl hl.1 (by have := hl.2; simp only [List.length_cons] at this; omega) rfl (fun ls9 h9 => kk _ (zz_set2 (v := .long x) (i := 2) hl.2 (zz_hp (i := 1) rfl hp) h9))) k
theorem zz_lstore_3 (S : zz_S G l own cc nL d n0 mcT msT isI rt Qf w) {a0 a1 a2 b0 b1 : Option Value} {x : Int64} (hp : zz_c1 a2 = true) (hd : decode cc pc = .ok (.lstore_n 3, 1)) (hq : pc + 1 = q) (k : w q (a0 :: a1 :: a2 :: some (.long x) :: none :: L) (st) z E im) : w pc (a0 :: a1 :: a2 :: b0 :: b1 :: L) (.long x :: st) z E im := by
  subst hq
  exact zz_pure S (fun _ _ _ _ _ _ _ _ _ _ _ _ _ _ _ hx hb hown hts hl kk => lv_lstore_n (i := 3) hx hb hd rfl hl.1 (by have := hl.2; simp only [List.length_cons] at this; omega) rfl (fun ls9 h9 => kk _ (zz_set2 (v := .long x) (i := 3) hl.2 (zz_hp (i := 2) rfl hp) h9))) k
theorem zz_lstore_4 (S : zz_S G l own cc nL d n0 mcT msT isI rt Qf w) {a0 a1 a2 a3 b0 b1 : Option Value} {x : Int64} (hp : zz_c1 a3 = true) (hd : decode cc pc = .ok (.lstore 4, 2)) (hq : pc + 2 = q) (k : w q (a0 :: a1 :: a2 :: a3 :: some (.long x) :: none :: L) (st) z E im) : w pc (a0 :: a1 :: a2 :: a3 :: b0 :: b1 :: L) (.long x :: st) z E im := by
  subst hq
  exact zz_pure S (fun _ _ _ _ _ _ _ _ _ _ _ _ _ _ _ hx hb hown hts hl kk => lv_lstore hx hb hd hl.1 (by have := hl.2; simp only [List.length_cons] at this; omega) rfl (fun ls9 h9 => kk _ (zz_set2 (v := .long x) (i := 4) hl.2 (zz_hp (i := 3) rfl hp) h9))) k
theorem zz_lstore_5 (S : zz_S G l own cc nL d n0 mcT msT isI rt Qf w) {a0 a1 a2 a3 a4 b0 b1 : Option Value} {x : Int64} (hp : zz_c1 a4 = true) (hd : decode cc pc = .ok (.lstore 5, 2)) (hq : pc + 2 = q) (k : w q (a0 :: a1 :: a2 :: a3 :: a4 :: some (.long x) :: none :: L) (st) z E im) : w pc (a0 :: a1 :: a2 :: a3 :: a4 :: b0 :: b1 :: L) (.long x :: st) z E im := by
  subst hq
  exact zz_pure S (fun _ _ _ _ _ _ _ _ _ _ _ _ _ _ _ hx hb hown hts hl kk => lv_lstore hx hb hd hl.1 (by have := hl.2; simp only [List.length_cons] at this; omega) rfl (fun ls9 h9 => kk _ (zz_set2 (v := .long x) (i := 5) hl.2 (zz_hp (i := 4) rfl hp) h9))) k
theorem zz_lstore_6 (S : zz_S G l own cc nL d n0 mcT msT isI rt Qf w) {a0 a1 a2 a3 a4 a5 b0 b1 : Option Value} {x : Int64} (hp : zz_c1 a5 = true) (hd : decode cc pc = .ok (.lstore 6, 2)) (hq : pc + 2 = q) (k : w q (a0 :: a1 :: a2 :: a3 :: a4 :: a5 :: some (.long x) :: none :: L) (st) z E im) : w pc (a0 :: a1 :: a2 :: a3 :: a4 :: a5 :: b0 :: b1 :: L) (.long x :: st) z E im := by
  subst hq
  exact zz_pure S (fun _ _ _ _ _ _ _ _ _ _ _ _ _ _ _ hx hb hown hts hl kk => lv_lstore hx hb hd hl.1 (by have := hl.2; simp only [List.length_cons] at this; omega) rfl (fun ls9 h9 => kk _ (zz_set2 (v := .long x) (i := 6) hl.2 (zz_hp (i := 5) rfl hp) h9))) k
theorem zz_lstore_7 (S : zz_S G l own cc nL d n0 mcT msT isI rt Qf w) {a0 a1 a2 a3 a4 a5 a6 b0 b1 : Option Value} {x : Int64} (hp : zz_c1 a6 = true) (hd : decode cc pc = .ok (.lstore 7, 2)) (hq : pc + 2 = q) (k : w q (a0 :: a1 :: a2 :: a3 :: a4 :: a5 :: a6 :: some (.long x) :: none :: L) (st) z E im) : w pc (a0 :: a1 :: a2 :: a3 :: a4 :: a5 :: a6 :: b0 :: b1 :: L) (.long x :: st) z E im := by
  subst hq
  exact zz_pure S (fun _ _ _ _ _ _ _ _ _ _ _ _ _ _ _ hx hb hown hts hl kk => lv_lstore hx hb hd hl.1 (by have := hl.2; simp only [List.length_cons] at this; omega) rfl (fun ls9 h9 => kk _ (zz_set2 (v := .long x) (i := 7) hl.2 (zz_hp (i := 6) rfl hp) h9))) k
theorem zz_lstore_8 (S : zz_S G l own cc nL d n0 mcT msT isI rt Qf w) {a0 a1 a2 a3 a4 a5 a6 a7 b0 b1 : Option Value} {x : Int64} (hp : zz_c1 a7 = true) (hd : decode cc pc = .ok (.lstore 8, 2)) (hq : pc + 2 = q) (k : w q (a0 :: a1 :: a2 :: a3 :: a4 :: a5 :: a6 :: a7 :: some (.long x) :: none :: L) (st) z E im) : w pc (a0 :: a1 :: a2 :: a3 :: a4 :: a5 :: a6 :: a7 :: b0 :: b1 :: L) (.long x :: st) z E im := by
  subst hq
  exact zz_pure S (fun _ _ _ _ _ _ _ _ _ _ _ _ _ _ _ hx hb hown hts hl kk => lv_lstore hx hb hd hl.1 (by have := hl.2; simp only [List.length_cons] at this; omega) rfl (fun ls9 h9 => kk _ (zz_set2 (v := .long x) (i := 8) hl.2 (zz_hp (i := 7) rfl hp) h9))) k
theorem zz_lstore_9 (S : zz_S G l own cc nL d n0 mcT msT isI rt Qf w) {a0 a1 a2 a3 a4 a5 a6 a7 a8 b0 b1 : Option Value} {x : Int64} (hp : zz_c1 a8 = true) (hd : decode cc pc = .ok (.lstore 9, 2)) (hq : pc + 2 = q) (k : w q (a0 :: a1 :: a2 :: a3 :: a4 :: a5 :: a6 :: a7 :: a8 :: some (.long x) :: none :: L) (st) z E im) : w pc (a0 :: a1 :: a2 :: a3 :: a4 :: a5 :: a6 :: a7 :: a8 :: b0 :: b1 :: L) (.long x :: st) z E im := by
  subst hq
  exact zz_pure S (fun _ _ _ _ _ _ _ _ _ _ _ _ _ _ _ hx hb hown hts hl kk => lv_lstore hx hb hd hl.1 (by have := hl.2; simp only [List.length_cons] at this; omega) rfl (fun ls9 h9 => kk _ (zz_set2 (v := .long x) (i := 9) hl.2 (zz_hp (i := 8) rfl hp) h9))) k
theorem zz_lstore_10 (S : zz_S G l own cc nL d n0 mcT msT isI rt Qf w) {a0 a1 a2 a3 a4 a5 a6 a7 a8 a9 b0 b1 : Option Value} {x : Int64} (hp : zz_c1 a9 = true) (hd : decode cc pc = .ok (.lstore 10, 2)) (hq : pc + 2 = q) (k : w q (a0 :: a1 :: a2 :: a3 :: a4 :: a5 :: a6 :: a7 :: a8 :: a9 :: some (.long x) :: none :: L) (st) z E im) : w pc (a0 :: a1 :: a2 :: a3 :: a4 :: a5 :: a6 :: a7 :: a8 :: a9 :: b0 :: b1 :: L) (.long x :: st) z E im := by
  subst hq
  exact zz_pure S (fun _ _ _ _ _ _ _ _ _ _ _ _ _ _ _ hx hb hown hts hl kk => lv_lstore hx hb hd hl.1 (by have := hl.2; simp only [List.length_cons] at this; omega) rfl (fun ls9 h9 => kk _ (zz_set2 (v := .long x) (i := 10) hl.2 (zz_hp (i := 9) rfl hp) h9))) k
theorem zz_lstore_11 (S : zz_S G l own cc nL d n0 mcT msT isI rt Qf w) {a0 a1 a2 a3 a4 a5 a6 a7 a8 a9 a10 b0 b1 : Option Value} {x : Int64} (hp : zz_c1 a10 = true) (hd : decode cc pc = .ok (.lstore 11, 2)) (hq : pc + 2 = q) (k : w q (a0 :: a1 :: a2 :: a3 :: a4 :: a5 :: a6 :: a7 :: a8 :: a9 :: a10 :: some (.long x) :: none :: L) (st) z E im) : w pc (a0 :: a1 :: a2 :: a3 :: a4 :: a5 :: a6 :: a7 :: a8 :: a9 :: a10 :: b0 :: b1 :: L) (.long x :: st) z E im := by
  subst hq
  exact zz_pure S (fun _ _ _ _ _ _ _ _ _ _ _ _ _ _ _ hx hb hown hts hl kk => lv_lstore hx hb hd hl.1 (by have := hl.2; simp only [List.length_cons] at this; omega) rfl (fun ls9 h9 => kk _ (zz_set2 (v := .long x) (i := 11) hl.2 (zz_hp (i := 10) rfl hp) h9))) k
theorem zz_lstore_12 (S : zz_S G l own cc nL d n0 mcT msT isI rt Qf w) {a0 a1 a2 a3 a4 a5 a6 a7 a8 a9 a10 a11 b0 b1 : Option Value} {x : Int64} (hp : zz_c1 a11 = true) (hd : decode cc pc = .ok (.lstore 12, 2)) (hq : pc + 2 = q) (k : w q (a0 :: a1 :: a2 :: a3 :: a4 :: a5 :: a6 :: a7 :: a8 :: a9 :: a10 :: a11 :: some (.long x) :: none :: L) (st) z E im) : w pc (a0 :: a1 :: a2 :: a3 :: a4 :: a5 :: a6 :: a7 :: a8 :: a9 :: a10 :: a11 :: b0 :: b1 :: L) (.long x :: st) z E im := by
  subst hq
  exact zz_pure S (fun _ _ _ _ _ _ _ _ _ _ _ _ _ _ _ hx hb hown hts hl kk => lv_lstore hx hb hd hl.1 (by have := hl.2; simp only [List.length_cons] at this; omega) rfl (fun ls9 h9 => kk _ (zz_set2 (v := .long x) (i := 12) hl.2 (zz_hp (i := 11) rfl hp) h9))) k
theorem zz_lstore_13 (S : zz_S G l own cc nL d n0 mcT msT isI rt Qf w) {a0 a1 a2 a3 a4 a5 a6 a7 a8 a9 a10 a11 a12 b0 b1 : Option Value} {x : Int64} (hp : zz_c1 a12 = true) (hd : decode cc pc = .ok (.lstore 13, 2)) (hq : pc + 2 = q) (k : w q (a0 :: a1 :: a2 :: a3 :: a4 :: a5 :: a6 :: a7 :: a8 :: a9 :: a10 :: a11 :: a12 :: some (.long x) :: none :: L) (st) z E im) : w pc (a0 :: a1 :: a2 :: a3 :: a4 :: a5 :: a6 :: a7 :: a8 :: a9 :: a10 :: a11 :: a12 :: b0 :: b1 :: L) (.long x :: st) z E im := by
  subst hq
  exact zz_pure S (fun _ _ _ _ _ _ _ _ _ _ _ _ _ _ _ hx hb hown hts hl kk => lv_lstore hx hb hd hl.1 (by have := hl.2; simp only [List.length_cons] at this; omega) rfl (fun ls9 h9 => kk _ (zz_set2 (v := .long x) (i := 13) hl.2 (zz_hp (i := 12) rfl hp) h9))) k
theorem zz_lstore_14 (S : zz_S G l own cc nL d n0 mcT msT isI rt Qf w) {a0 a1 a2 a3 a4 a5 a6 a7 a8 a9 a10 a11 a12 a13 b0 b1 : Option Value} {x : Int64} (hp : zz_c1 a13 = true) (hd : decode cc pc = .ok (.lstore 14, 2)) (hq : pc + 2 = q) (k : w q (a0 :: a1 :: a2 :: a3 :: a4 :: a5 :: a6 :: a7 :: a8 :: a9 :: a10 :: a11 :: a12 :: a13 :: some (.long x) :: none :: L) (st) z E im) : w pc (a0 :: a1 :: a2 :: a3 :: a4 :: a5 :: a6 :: a7 :: a8 :: a9 :: a10 :: a11 :: a12 :: a13 :: b0 :: b1 :: L) (.long x :: st) z E im := by
  subst hq
  exact zz_pure S (fun _ _ _ _ _ _ _ _ _ _ _ _ _ _ _ hx hb hown hts hl kk => lv_lstore hx hb hd hl.1 (by have := hl.2; simp only [List.length_cons] at this; omega) rfl (fun ls9 h9 => kk _ (zz_set2 (v := .long x) (i := 14) hl.2 (zz_hp (i := 13) rfl hp) h9))) k
theorem zz_lstore_15 (S : zz_S G l own cc nL d n0 mcT msT isI rt Qf w) {a0 a1 a2 a3 a4 a5 a6 a7 a8 a9 a10 a11 a12 a13 a14 b0 b1 : Option Value} {x : Int64} (hp : zz_c1 a14 = true) (hd : decode cc pc = .ok (.lstore 15, 2)) (hq : pc + 2 = q) (k : w q (a0 :: a1 :: a2 :: a3 :: a4 :: a5 :: a6 :: a7 :: a8 :: a9 :: a10 :: a11 :: a12 :: a13 :: a14 :: some (.long x) :: none :: L) (st) z E im) : w pc (a0 :: a1 :: a2 :: a3 :: a4 :: a5 :: a6 :: a7 :: a8 :: a9 :: a10 :: a11 :: a12 :: a13 :: a14 :: b0 :: b1 :: L) (.long x :: st) z E im := by
  subst hq
  exact zz_pure S (fun _ _ _ _ _ _ _ _ _ _ _ _ _ _ _ hx hb hown hts hl kk => lv_lstore hx hb hd hl.1 (by have := hl.2; simp only [List.length_cons] at this; omega) rfl (fun ls9 h9 => kk _ (zz_set2 (v := .long x) (i := 15) hl.2 (zz_hp (i := 14) rfl hp) h9))) k
theorem zz_astore_0 (S : zz_S G l own cc nL d n0 mcT msT isI rt Qf w) {b0 : Option Value} {x : Nat}  (hd : decode cc pc = .ok (.astore_n 0, 1)) (hq : pc + 1 = q) (k : w q (some (.ref x) :: L) (st) z E im) : w pc (b0 :: L) (.ref x :: st) z E im := by
  subst hq
  exact zz_pure S (fun _ _ _ _ _ _ _ _ _ _ _ _ _ _ _ hx hb hown hts hl kk => lv_astore_n (i := 0) hx hb hd rfl hl.1 (by have := hl.2; simp only [List.length_cons] at this; omega) rfl (fun ls9 h9 => kk _ (zz_set1 (v := .ref x) (i := 0) hl.2 (fun j v hj _ => absurd hj (Nat.succ_ne_zero j)) h9))) k
theorem zz_astore_1 (S : zz_S G l own cc nL d n0 mcT msT isI rt Qf w) {a0 b0 : Option Value} {x : Nat} (hp : zz_c1 a0 = true) (hd : decode cc pc = .ok (.astore_n 1, 1)) (hq : pc + 1 = q) (k : w q (a0 :: some (.ref x) :: L) (st) z E im) : w pc (a0 :: b0 :: L) (.ref x :: st) z E im := by
  subst hq
  exact zz_pure S (fun _ _ _ _ _ _ _ _ _ _ _ _ _ _ _ hx hb hown hts hl kk => lv_astore_n (i := 1) hx hb hd rfl hl.1 (by have := hl.2; simp only [List.length_cons] at this; omega) rfl (fun ls9 h9 => kk _ (zz_set1 (v := .ref x) (i := 1) hl.2 (zz_hp (i := 0) rfl hp) h9))) k
theorem zz_astore_2 (S : zz_S G l own cc nL d n0 mcT msT isI rt Qf w) {a0 a1 b0 : Option Value} {x : Nat} (hp : zz_c1 a1 = true) (hd : decode cc pc = .ok (.astore_n 2, 1)) (hq : pc + 1 = q) (k : w q (a0 :: a1 :: some (.ref x) :: L) (st) z E im) : w pc (a0 :: a1 :: b0 :: L) (.ref x :: st) z E im := by
  subst hq
  exact zz_pure S (fun _ _ _ _ _ _ _ _ _ _ _ _ _ _ _ hx hb hown hts hl kk => lv_astore_n (i := 2) hx hb hd rfl hl.1 (by have := hl.2; simp only [List.length_cons] at this; omega) rfl (fun ls9 h9 => kk _ (zz_set1 (v := .ref x) (i := 2) hl.2 (zz_hp (i := 1) rfl hp) h9))) k
theorem zz_astore_3 (S : zz_S G l own cc nL d n0 mcT msT isI rt Qf w) {a0 a1 a2 b0 : Option Value} {x : Nat} (hp : zz_c1 a2 = true) (hd : decode cc pc = .ok (.astore_n 3, 1)) (hq : pc + 1 = q) (k : w q (a0 :: a1 :: a2 :: some (.ref x) :: L) (st) z E im) : w pc (a0 :: a1 :: a2 :: b0 :: L) (.ref x :: st) z E im := by
  subst hq
  exact zz_pure S (fun _ _ _ _ _ _ _ _ _ _ _ _ _ _ _ hx hb hown hts hl kk => lv_astore_n (i := 3) hx hb hd rfl hl.1 (by have := hl.2; simp only [List.length_cons] at this; omega) rfl (fun ls9 h9 => kk _ (zz_set1 (v := .ref x) (i := 3) hl.2 (zz_hp (i := 2) rfl hp) h9))) k
theorem zz_astore_4 (S : zz_S G l own cc nL d n0 mcT msT isI rt Qf w) {a0 a1 a2 a3 b0 : Option Value} {x : Nat} (hp : zz_c1 a3 = true) (hd : decode cc pc = .ok (.astore 4, 2)) (hq : pc + 2 = q) (k : w q (a0 :: a1 :: a2 :: a3 :: some (.ref x) :: L) (st) z E im) : w pc (a0 :: a1 :: a2 :: a3 :: b0 :: L) (.ref x :: st) z E im := by
  subst hq
  exact zz_pure S (fun _ _ _ _ _ _ _ _ _ _ _ _ _ _ _ hx hb hown hts hl kk => lv_astore hx hb hd hl.1 (by have := hl.2; simp only [List.length_cons] at this; omega) rfl (fun ls9 h9 => kk _ (zz_set1 (v := .ref x) (i := 4) hl.2 (zz_hp (i := 3) rfl hp) h9))) k
theorem zz_astore_5 (S : zz_S G l own cc nL d n0 mcT msT isI rt Qf w) {a0 a1 a2 a3 a4 b0 : Option Value} {x : Nat} (hp : zz_c1 a4 = true) (hd : decode cc pc = .ok (.astore 5, 2)) (hq : pc + 2 = q) (k : w q (a0 :: a1 :: a2 :: a3 :: a4 :: some (.ref x) :: L) (st) z E im) : w pc (a0 :: a1 :: a2 :: a3 :: a4 :: b0 :: L) (.ref x :: st) z E im := by
  subst hq
  exact zz_pure S (fun _ _ _ _ _ _ _ _ _ _ _ _ _ _ _ hx hb hown hts hl kk => lv_astore hx hb hd hl.1 (by have := hl.2; simp only [List.length_cons] at this; omega) rfl (fun ls9 h9 => kk _ (zz_set1 (v := .ref x) (i := 5) hl.2 (zz_hp (i := 4) rfl hp) h9))) k
theorem zz_astore_6 (S : zz_S G l own cc nL d n0 mcT msT isI rt Qf w) {a0 a1 a2 a3 a4 a5 b0 : Option Value} {x : Nat} (hp : zz_c1 a5 = true) (hd : decode cc pc = .ok (.astore 6, 2)) (hq : pc + 2 = q) (k : w q (a0 :: a1 :: a2 :: a3 :: a4 :: a5 :: some (.ref x) :: L) (st) z E im) : w pc (a0 :: a1 :: a2 :: a3 :: a4 :: a5 :: b0 :: L) (.ref x :: st) z E im := by
  subst hq
  exact zz_pure S (fun _ _ _ _ _ _ _ _ _ _ _ _ _ _ _ hx hb hown hts hl kk => lv_astore hx hb hd hl.1 (by have := hl.2; simp only [List.length_cons] at this; omega) rfl (fun ls9 h9 => kk _ (zz_set1 (v := .ref x) (i := 6) hl.2 (zz_hp (i := 5) rfl hp) h9))) k
theorem zz_astore_7 (S : zz_S G l own cc nL d n0 mcT msT isI rt Qf w) {a0 a1 a2 a3 a4 a5 a6 b0 : Option Value} {x : Nat} (hp : zz_c1 a6 = true) (hd : decode cc pc = .ok (.astore 7, 2)) (hq : pc + 2 = q) (k : w q (a0 :: a1 :: a2 :: a3 :: a4 :: a5 :: a6 :: some (.ref x) :: L) (st) z E im) : w pc (a0 :: a1 :: a2 :: a3 :: a4 :: a5 :: a6 :: b0 :: L) (.ref x :: st) z E im := by
  subst hq
  exact zz_pure S (fun _ _ _ _ _ _ _ _ _ _ _ _ _ _ _ hx hb hown hts hl kk => lv_astore hx hb hd hl.1 (by have := hl.2; simp only [List.length_cons] at this; omega) rfl (fun ls9 h9 => kk _ (zz_set1 (v := .ref x) (i := 7) hl.2 (zz_hp (i := 6) rfl hp) h9))) k
theorem zz_astore_8 (S : zz_S G l own cc nL d n0 mcT msT isI rt Qf w) {a0 a1 a2 a3 a4 a5 a6 a7 b0 : Option Value} {x : Nat} (hp : zz_c1 a7 = true) (hd : decode cc pc = .ok (.astore 8, 2)) (hq : pc + 2 = q) (k : w q (a0 :: a1 :: a2 :: a3 :: a4 :: a5 :: a6 :: a7 :: some (.ref x) :: L) (st) z E im) : w pc (a0 :: a1 :: a2 :: a3 :: a4 :: a5 :: a6 :: a7 :: b0 :: L) (.ref x :: st) z E im := by
  subst hq
  exact zz_pure S (fun _ _ _ _ _ _ _ _ _ _ _ _ _ _ _ hx hb hown hts hl kk => lv_astore hx hb hd hl.1 (by have := hl.2; simp only [List.length_cons] at this; omega) rfl (fun ls9 h9 => kk _ (zz_set1 (v := .ref x) (i := 8) hl.2 (zz_hp (i := 7) rfl hp) h9))) k
theorem zz_astore_9 (S : zz_S G l own cc nL d n0 mcT msT isI rt Qf w) {a0 a1 a2 a3 a4 a5 a6 a7 a8 b0 : Option Value} {x : Nat} (hp : zz_c1 a8 = true) (hd : decode cc pc = .ok (.astore 9, 2)) (hq : pc + 2 = q) (k : w q (a0 :: a1 :: a2 :: a3 :: a4 :: a5 :: a6 :: a7 :: a8 :: some (.ref x) :: L) (st) z E im) : w pc (a0 :: a1 :: a2 :: a3 :: a4 :: a5 :: a6 :: a7 :: a8 :: b0 :: L) (.ref x :: st) z E im := by
  subst hq
  exact zz_pure S (fun _ _ _ _ _ _ _ _ _ _ _ _ _ _ _ hx hb hown hts hl kk => lv_astore hx hb hd hl.1 (by have := hl.2; simp only [List.length_cons] at this; omega) rfl (fun ls9 h9 => kk _ (zz_set1 (v := .ref x) (i := 9) hl.2 (zz_hp (i := 8) rfl hp) h9))) k
theorem zz_astore_10 (S : zz_S G l own cc nL d n0 mcT msT isI rt Qf w) {a0 a1 a2 a3 a4 a5 a6 a7 a8 a9 b0 : Option Value} {x : Nat} (hp : zz_c1 a9 = true) (hd : decode cc pc = .ok (.astore 10, 2)) (hq : pc + 2 = q) (k : w q (a0 :: a1 :: a2 :: a3 :: a4 :: a5 :: a6 :: a7 :: a8 :: a9 :: some (.ref x) :: L) (st) z E im) : w pc (a0 :: a1 :: a2 :: a3 :: a4 :: a5 :: a6 :: a7 :: a8 :: a9 :: b0 :: L) (.ref x :: st) z E im := by
  subst hq
  exact zz_pure S (fun _ _ _ _ _ _ _ _ _ _ _ _ _ _ _ hx hb hown hts hl kk => lv_astore hx hb hd hl.1 (by have := hl.2; simp only [List.length_cons] at this; omega) rfl (fun ls9 h9 => kk _ (zz_set1 (v := .ref x) (i := 10) hl.2 (zz_hp (i := 9) rfl hp) h9))) k
theorem zz_astore_11 (S : zz_S G l own cc nL d n0 mcT msT isI rt Qf w) {a0 a1 a2 a3 a4 a5 a6 a7 a8 a9 a10 b0 : Option Value} {x : Nat} (hp : zz_c1 a10 = true) (hd : decode cc pc = .ok (.astore 11, 2)) (hq : pc + 2 = q) (k : w q (a0 :: a1 :: a2 :: a3 :: a4 :: a5 :: a6 :: a7 :: a8 :: a9 :: a10 :: some (.ref x) :: L) (st) z E im) : w pc (a0 :: a1 :: a2 :: a3 :: a4 :: a5 :: a6 :: a7 :: a8 :: a9 :: a10 :: b0 :: L) (.ref x :: st) z E im := by
  subst hq
  exact zz_pure S (fun _ _ _ _ _ _ _ _ _ _ _ _ _ _ _ hx hb hown hts hl kk => lv_astore hx hb hd hl.1 (by have := hl.2; simp only [List.length_cons] at this; omega) rfl (fun ls9 h9 => kk _ (zz_set1 (v := .ref x) (i := 11) hl.2 (zz_hp (i := 10) rfl hp) h9))) k
theorem zz_astore_12 (S : zz_S G l own cc nL d n0 mcT msT isI rt Qf w) {a0 a1 a2 a3 a4 a5 a6 a7 a8 a9 a10 a11 b0 : Option Value} {x : Nat} (hp : zz_c1 a11 = true) (hd : decode cc pc = .ok (.astore 12, 2)) (hq : pc + 2 = q) (k : w q (a0 :: a1 :: a2 :: a3 :: a4 :: a5 :: a6 :: a7 :: a8 :: a9 :: a10 :: a11 :: some (.ref x) :: L) (st) z E im) : w pc (a0 :: a1 :: a2 :: a3 :: a4 :: a5 :: a6 :: a7 :: a8 :: a9 :: a10 :: a11 :: b0 :: L) (.ref x :: st) z E im := by
  subst hq
  exact zz_pure S (fun _ _ _ _ _ _ _ _ _ _ _ _ _ _ _ hx hb hown hts hl kk => lv_astore hx hb hd hl.1 (by have := hl.2; simp only [List.length_cons] at this; omega) rfl (fun ls9 h9 => kk _ (zz_set1 (v := .ref x) (i := 12) hl.2 (zz_hp (i := 11) rfl hp) h9))) k
theorem zz_astore_13 (S : zz_S G l own cc nL d n0 mcT msT isI rt Qf w) {a0 a1 a2 a3 a4 a5 a6 a7 a8 a9 a10 a11 a12 b0 : Option Value} {x : Nat} (hp : zz_c1 a12 = true) (hd : decode cc pc = .ok (.astore 13, 2)) (hq : pc + 2 = q) (k : w q (a0 :: a1 :: a2 :: a3 :: a4 :: a5 :: a6 :: a7 :: a8 :: a9 :: a10 :: a11 :: a12 :: some (.ref x) :: L) (st) z E im) : w pc (a0 :: a1 :: a2 :: a3 :: a4 :: a5 :: a6 :: a7 :: a8 :: a9 :: a10 :: a11 :: a12 :: b0 :: L) (.ref x :: st) z E im := by
  subst hq
  exact zz_pure S (fun _ _ _ _ _ _ _ _ _ _ _ _ _ _ _ hx hb hown hts hl kk => lv_astore hx hb hd hl.1 (by have := hl.2; simp only [List.length_cons] at this; omega) rfl (fun ls9 h9 => kk _ (zz_set1 (v := .ref x) (i := 13) hl.2 (zz_hp (i := 12) rfl hp) h9))) k
theorem zz_astore_14 (S : zz_S G l own cc nL d n0 mcT msT isI rt Qf w) {a0 a1 a2 a3 a4 a5 a6 a7 a8 a9 a10 a11 a12 a13 b0 : Option Value} {x : Nat} (hp : zz_c1 a13 = true) (hd : decode cc pc = .ok (.astore 14, 2)) (hq : pc + 2 = q) (k : w q (a0 :: a1 :: a2 :: a3 :: a4 :: a5 :: a6 :: a7 :: a8 :: a9 :: a10 :: a11 :: a12 :: a13 :: some (.ref x) :: L) (st) z E im) : w pc (a0 :: a1 :: a2 :: a3 :: a4 :: a5 :: a6 :: a7 :: a8 :: a9 :: a10 :: a11 :: a12 :: a13 :: b0 :: L) (.ref x :: st) z E im := by
  subst hq
  exact zz_pure S (fun _ _ _ _ _ _ _ _ _ _ _ _ _ _ _ hx hb hown hts hl kk => lv_astore hx hb hd hl.1 (by have := hl.2; simp only [List.length_cons] at this; omega) rfl (fun ls9 h9 => kk _ (zz_set1 (v := .ref x) (i := 14) hl.2 (zz_hp (i := 13) rfl hp) h9))) k
theorem zz_astore_15 (S : zz_S G l own cc nL d n0 mcT msT isI rt Qf w) {a0 a1 a2 a3 a4 a5 a6 a7 a8 a9 a10 a11 a12 a13 a14 b0 : Option Value} {x : Nat} (hp : zz_c1 a14 = true) (hd : decode cc pc = .ok (.astore 15, 2)) (hq : pc + 2 = q) (k : w q (a0 :: a1 :: a2 :: a3 :: a4 :: a5 :: a6 :: a7 :: a8 :: a9 :: a10 :: a11 :: a12 :: a13 :: a14 :: some (.ref x) :: L) (st) z E im) : w pc (a0 :: a1 :: a2 :: a3 :: a4 :: a5 :: a6 :: a7 :: a8 :: a9 :: a10 :: a11 :: a12 :: a13 :: a14 :: b0 :: L) (.ref x :: st) z E im := by
  subst hq
  exact zz_pure S (fun _ _ _ _ _ _ _ _ _ _ _ _ _ _ _ hx hb hown hts hl kk => lv_astore hx hb hd hl.1 (by have := hl.2; simp only [List.length_cons] at this; omega) rfl (fun ls9 h9 => kk _ (zz_set1 (v := .ref x) (i := 15) hl.2 (zz_hp (i := 14) rfl hp) h9))) k
theorem zz_astore_16 (S : zz_S G l own cc nL d n0 mcT msT isI rt Qf w) {a0 a1 a2 a3 a4 a5 a6 a7 a8 a9 a10 a11 a12 a13 a14 a15 b0 : Option Value} {x : Nat} (hp : zz_c1 a15 = true) (hd : decode cc pc = .ok (.astore 16, 2)) (hq : pc + 2 = q) (k : w q (a0 :: a1 :: a2 :: a3 :: a4 :: a5 :: a6 :: a7 :: a8 :: a9 :: a10 :: a11 :: a12 :: a13 :: a14 :: a15 :: some (.ref x) :: L) (st) z E im) : w pc (a0 :: a1 :: a2 :: a3 :: a4 :: a5 :: a6 :: a7 :: a8 :: a9 :: a10 :: a11 :: a12 :: a13 :: a14 :: a15 :: b0 :: L) (.ref x :: st) z E im := by
  subst hq
  exact zz_pure S (fun _ _ _ _ _ _ _ _ _ _ _ _ _ _ _ hx hb hown hts hl kk => lv_astore hx hb hd hl.1 (by have := hl.2; simp only [List.length_cons] at this; omega) rfl (fun ls9 h9 => kk _ (zz_set1 (v := .ref x) (i := 16) hl.2 (zz_hp (i := 15) rfl hp) h9))) k
theorem zz_iinc_0 (S : zz_S G l own cc nL d n0 mcT msT isI rt Qf w) {n : Int} {x : Int32}  (hd : decode cc pc = .ok (.iinc 0 n, 3)) (hq : pc + 3 = q) (k : w q (some (.int (x + Int32.ofInt n)) :: L) (st) z E im) : w pc (some (.int x) :: L) (st) z E im := by
  subst hq
  exact zz_pure S (fun _ _ _ _ _ _ _ _ _ _ _ _ _ _ _ hx hb hown hts hl kk => by
    obtain ⟨k9, hk9⟩ := List.getElem?_of_mem (zz_l_mem (G := G) (i := 0) (L := some (.int x) :: L) (q := (0, .int x)) |>.mpr ⟨0, .int x, rfl, rfl⟩)
    exact lv_iinc (k := k9) hx hb hd hl.1 hk9 rfl (by have := hl.2; simp only [List.length_cons] at this; omega) rfl (fun ls9 h9 => kk _ (zz_set1 (v := .int (x + Int32.ofInt n)) (i := 0) hl.2 (fun j v hj _ => absurd hj (Nat.succ_ne_zero j)) h9))) k
theorem zz_iinc_1 (S : zz_S G l own cc nL d n0 mcT msT isI rt Qf w) {a0 : Option Value} {n : Int} {x : Int32} (hp : zz_c1 a0 = true) (hd : decode cc pc = .ok (.iinc 1 n, 3)) (hq : pc + 3 = q) (k : w q (a0 :: some (.int (x + Int32.ofInt n)) :: L) (st) z E im) : w pc (a0 :: some (.int x) :: L) (st) z E im := by
  subst hq
  exact zz_pure S (fun _ _ _ _ _ _ _ _ _ _ _ _ _ _ _ hx hb hown hts hl kk => by
    obtain ⟨k9, hk9⟩ := List.getElem?_of_mem (zz_l_mem (G := G) (i := 0) (L := a0 :: some (.int x) :: L) (q := (1, .int x)) |>.mpr ⟨1, .int x, rfl, rfl⟩)
    exact lv_iinc (k := k9) hx hb hd hl.1 hk9 rfl (by have := hl.2; simp only [List.length_cons] at this; omega) rfl (fun ls9 h9 => kk _ (zz_set1 (v := .int (x + Int32.ofInt n)) (i := 1) hl.2 (zz_hp (i := 0) rfl hp) h9))) k
theorem zz_iinc_2 (S : zz_S G l own cc nL d n0 mcT msT isI rt Qf w) {a0 a1 : Option Value} {n : Int} {x : Int32} (hp : zz_c1 a1 = true) (hd : decode cc pc = .ok (.iinc 2 n, 3)) (hq : pc + 3 = q) (k : w q (a0 :: a1 :: some (.int (x + Int32.ofInt n)) :: L) (st) z E im) : w pc (a0 :: a1 :: some (.int x) :: L) (st) z E im := by
  subst hq
  exact zz_pure S (fun _ _ _ _ _ _ _ _ _ _ _ _ _ _ _ hx hb hown hts hl kk => by
    obtain ⟨k9, hk9⟩ := List.getElem?_of_mem (zz_l_mem (G := G) (i := 0) (L := a0 :: a1 :: some (.int x) :: L) (q := (2, .int x)) |>.mpr ⟨2, .int x, rfl, rfl⟩)
    exact lv_iinc (k := k9) hx hb hd hl.1 hk9 rfl (by have := hl.2; simp only [List.length_cons] at this; omega) rfl (fun ls9 h9 => kk _ (zz_set1 (v := .int (x + Int32.ofInt n)) (i := 2) hl.2 (zz_hp (i := 1) rfl hp) h9))) k
theorem zz_iinc_3 (S : zz_S G l own cc nL d n0 mcT msT isI rt Qf w) {a0 a1 a2 : Option Value} {n : Int} {x : Int32} (hp : zz_c1 a2 = true) (hd : decode cc pc = .ok (.iinc 3 n, 3)) (hq : pc + 3 = q) (k : w q (a0 :: a1 :: a2 :: some (.int (x + Int32.ofInt n)) :: L) (st) z E im) : w pc (a0 :: a1 :: a2 :: some (.int x) :: L) (st) z E im := by
  subst hq
  exact zz_pure S (fun _ _ _ _ _ _ _ _ _ _ _ _ _ _ _ hx hb hown hts hl kk => by
    obtain ⟨k9, hk9⟩ := List.getElem?_of_mem (zz_l_mem (G := G) (i := 0) (L := a0 :: a1 :: a2 :: some (.int x) :: L) (q := (3, .int x)) |>.mpr ⟨3, .int x, rfl, rfl⟩)
    exact lv_iinc (k := k9) hx hb hd hl.1 hk9 rfl (by have := hl.2; simp only [List.length_cons] at this; omega) rfl (fun ls9 h9 => kk _ (zz_set1 (v := .int (x + Int32.ofInt n)) (i := 3) hl.2 (zz_hp (i := 2) rfl hp) h9))) k
theorem zz_iinc_4 (S : zz_S G l own cc nL d n0 mcT msT isI rt Qf w) {a0 a1 a2 a3 : Option Value} {n : Int} {x : Int32} (hp : zz_c1 a3 = true) (hd : decode cc pc = .ok (.iinc 4 n, 3)) (hq : pc + 3 = q) (k : w q (a0 :: a1 :: a2 :: a3 :: some (.int (x + Int32.ofInt n)) :: L) (st) z E im) : w pc (a0 :: a1 :: a2 :: a3 :: some (.int x) :: L) (st) z E im := by
  subst hq
  exact zz_pure S (fun _ _ _ _ _ _ _ _ _ _ _ _ _ _ _ hx hb hown hts hl kk => by
    obtain ⟨k9, hk9⟩ := List.getElem?_of_mem (zz_l_mem (G := G) (i := 0) (L := a0 :: a1 :: a2 :: a3 :: some (.int x) :: L) (q := (4, .int x)) |>.mpr ⟨4, .int x, rfl, rfl⟩)
    exact lv_iinc (k := k9) hx hb hd hl.1 hk9 rfl (by have := hl.2; simp only [List.length_cons] at this; omega) rfl (fun ls9 h9 => kk _ (zz_set1 (v := .int (x + Int32.ofInt n)) (i := 4) hl.2 (zz_hp (i := 3) rfl hp) h9))) k
theorem zz_iinc_5 (S : zz_S G l own cc nL d n0 mcT msT isI rt Qf w) {a0 a1 a2 a3 a4 : Option Value} {n : Int} {x : Int32} (hp : zz_c1 a4 = true) (hd : decode cc pc = .ok (.iinc 5 n, 3)) (hq : pc + 3 = q) (k : w q (a0 :: a1 :: a2 :: a3 :: a4 :: some (.int (x + Int32.ofInt n)) :: L) (st) z E im) : w pc (a0 :: a1 :: a2 :: a3 :: a4 :: some (.int x) :: L) (st) z E im := by
  subst hq
  exact zz_pure S (fun _ _ _ _ _ _ _ _ _ _ _ _ _ _ _ hx hb hown hts hl kk => by
    obtain ⟨k9, hk9⟩ := List.getElem?_of_mem (zz_l_mem (G := G) (i := 0) (L := a0 :: a1 :: a2 :: a3 :: a4 :: some (.int x) :: L) (q := (5, .int x)) |>.mpr ⟨5, .int x, rfl, rfl⟩)
    exact lv_iinc (k := k9) hx hb hd hl.1 hk9 rfl (by have := hl.2; simp only [List.length_cons] at this; omega) rfl (fun ls9 h9 => kk _ (zz_set1 (v := .int (x + Int32.ofInt n)) (i := 5) hl.2 (zz_hp (i := 4) rfl hp) h9))) k
theorem zz_iinc_6 (S : zz_S G l own cc nL d n0 mcT msT isI rt Qf w) {a0 a1 a2 a3 a4 a5 : Option Value} {n : Int} {x : Int32} (hp : zz_c1 a5 = true) (hd : decode cc pc = .ok (.iinc 6 n, 3)) (hq : pc + 3 = q) (k : w q (a0 :: a1 :: a2 :: a3 :: a4 :: a5 :: some (.int (x + Int32.ofInt n)) :: L) (st) z E im) : w pc (a0 :: a1 :: a2 :: a3 :: a4 :: a5 :: some (.int x) :: L) (st) z E im := by
  subst hq
  exact zz_pure S (fun _ _ _ _ _ _ _ _ _ _ _ _ _ _ _ hx hb hown hts hl kk => by
    obtain ⟨k9, hk9⟩ := List.getElem?_of_mem (zz_l_mem (G := G) (i := 0) (L := a0 :: a1 :: a2 :: a3 :: a4 :: a5 :: some (.int x) :: L) (q := (6, .int x)) |>.mpr ⟨6, .int x, rfl, rfl⟩)
    exact lv_iinc (k := k9) hx hb hd hl.1 hk9 rfl (by have := hl.2; simp only [List.length_cons] at this; omega) rfl (fun ls9 h9 => kk _ (zz_set1 (v := .int (x + Int32.ofInt n)) (i := 6) hl.2 (zz_hp (i := 5) rfl hp) h9))) k
theorem zz_iinc_7 (S : zz_S G l own cc nL d n0 mcT msT isI rt Qf w) {a0 a1 a2 a3 a4 a5 a6 : Option Value} {n : Int} {x : Int32} (hp : zz_c1 a6 = true) (hd : decode cc pc = .ok (.iinc 7 n, 3)) (hq : pc + 3 = q) (k : w q (a0 :: a1 :: a2 :: a3 :: a4 :: a5 :: a6 :: some (.int (x + Int32.ofInt n)) :: L) (st) z E im) : w pc (a0 :: a1 :: a2 :: a3 :: a4 :: a5 :: a6 :: some (.int x) :: L) (st) z E im := by
  subst hq
  exact zz_pure S (fun _ _ _ _ _ _ _ _ _ _ _ _ _ _ _ hx hb hown hts hl kk => by
    obtain ⟨k9, hk9⟩ := List.getElem?_of_mem (zz_l_mem (G := G) (i := 0) (L := a0 :: a1 :: a2 :: a3 :: a4 :: a5 :: a6 :: some (.int x) :: L) (q := (7, .int x)) |>.mpr ⟨7, .int x, rfl, rfl⟩)
    exact lv_iinc (k := k9) hx hb hd hl.1 hk9 rfl (by have := hl.2; simp only [List.length_cons] at this; omega) rfl (fun ls9 h9 => kk _ (zz_set1 (v := .int (x + Int32.ofInt n)) (i := 7) hl.2 (zz_hp (i := 6) rfl hp) h9))) k
theorem zz_iinc_8 (S : zz_S G l own cc nL d n0 mcT msT isI rt Qf w) {a0 a1 a2 a3 a4 a5 a6 a7 : Option Value} {n : Int} {x : Int32} (hp : zz_c1 a7 = true) (hd : decode cc pc = .ok (.iinc 8 n, 3)) (hq : pc + 3 = q) (k : w q (a0 :: a1 :: a2 :: a3 :: a4 :: a5 :: a6 :: a7 :: some (.int (x + Int32.ofInt n)) :: L) (st) z E im) : w pc (a0 :: a1 :: a2 :: a3 :: a4 :: a5 :: a6 :: a7 :: some (.int x) :: L) (st) z E im := by
  subst hq
  exact zz_pure S (fun _ _ _ _ _ _ _ _ _ _ _ _ _ _ _ hx hb hown hts hl kk => by
    obtain ⟨k9, hk9⟩ := List.getElem?_of_mem (zz_l_mem (G := G) (i := 0) (L := a0 :: a1 :: a2 :: a3 :: a4 :: a5 :: a6 :: a7 :: some (.int x) :: L) (q := (8, .int x)) |>.mpr ⟨8, .int x, rfl, rfl⟩)
    exact lv_iinc (k := k9) hx hb hd hl.1 hk9 rfl (by have := hl.2; simp only [List.length_cons] at this; omega) rfl (fun ls9 h9 => kk _ (zz_set1 (v := .int (x + Int32.ofInt n)) (i := 8) hl.2 (zz_hp (i := 7) rfl hp) h9))) k
theorem zz_iinc_9 (S : zz_S G l own cc nL d n0 mcT msT isI rt Qf w) {a0 a1 a2 a3 a4 a5 a6 a7 a8 : Option Value} {n : Int} {x : Int32} (hp : zz_c1 a8 = true) (hd : decode cc pc = .ok (.iinc 9 n, 3)) (hq : pc + 3 = q) (k : w q (a0 :: a1 :: a2 :: a3 :: a4 :: a5 :: a6 :: a7 :: a8 :: some (.int (x + Int32.ofInt n)) :: L) (st) z E im) : w pc (a0 :: a1 :: a2 :: a3 :: a4 :: a5 :: a6 :: a7 :: a8 :: some (.int x) :: L) (st) z E im := by
  subst hq
  exact zz_pure S (fun _ _ _ _ _ _ _ _ _ _ _ _ _ _ _ hx hb hown hts hl kk => by
    obtain ⟨k9, hk9⟩ := List.getElem?_of_mem (zz_l_mem (G := G) (i := 0) (L := a0 :: a1 :: a2 :: a3 :: a4 :: a5 :: a6 :: a7 :: a8 :: some (.int x) :: L) (q := (9, .int x)) |>.mpr ⟨9, .int x, rfl, rfl⟩)
    exact lv_iinc (k := k9) hx hb hd hl.1 hk9 rfl (by have := hl.2; simp only [List.length_cons] at this; omega) rfl (fun ls9 h9 => kk _ (zz_set1 (v := .int (x + Int32.ofInt n)) (i := 9) hl.2 (zz_hp (i := 8) rfl hp) h9))) k
theorem zz_iinc_10 (S : zz_S G l own cc nL d n0 mcT msT isI rt Qf w) {a0 a1 a2 a3 a4 a5 a6 a7 a8 a9 : Option Value} {n : Int} {x : Int32} (hp : zz_c1 a9 = true) (hd : decode cc pc = .ok (.iinc 10 n, 3)) (hq : pc + 3 = q) (k : w q (a0 :: a1 :: a2 :: a3 :: a4 :: a5 :: a6 :: a7 :: a8 :: a9 :: some (.int (x + Int32.ofInt n)) :: L) (st) z E im) : w pc (a0 :: a1 :: a2 :: a3 :: a4 :: a5 :: a6 :: a7 :: a8 :: a9 :: some (.int x) :: L) (st) z E im := by
  subst hq
  exact zz_pure S (fun _ _ _ _ _ _ _ _ _ _ _ _ _ _ _ hx hb hown hts hl kk => by
    obtain ⟨k9, hk9⟩ := List.getElem?_of_mem (zz_l_mem (G := G) (i := 0) (L := a0 :: a1 :: a2 :: a3 :: a4 :: a5 :: a6 :: a7 :: a8 :: a9 :: some (.int x) :: L) (q := (10, .int x)) |>.mpr ⟨10, .int x, rfl, rfl⟩)
    exact lv_iinc (k := k9) hx hb hd hl.1 hk9 rfl (by have := hl.2; simp only [List.length_cons] at this; omega) rfl (fun ls9 h9 => kk _ (zz_set1 (v := .int (x + Int32.ofInt n)) (i := 10) hl.2 (zz_hp (i := 9) rfl hp) h9))) k
theorem zz_iinc_11 (S : zz_S G l own cc nL d n0 mcT msT isI rt Qf w) {a0 a1 a2 a3 a4 a5 a6 a7 a8 a9 a10 : Option Value} {n : Int} {x : Int32} (hp : zz_c1 a10 = true) (hd : decode cc pc = .ok (.iinc 11 n, 3)) (hq : pc + 3 = q) (k : w q (a0 :: a1 :: a2 :: a3 :: a4 :: a5 :: a6 :: a7 :: a8 :: a9 :: a10 :: some (.int (x + Int32.ofInt n)) :: L) (st) z E im) : w pc (a0 :: a1 :: a2 :: a3 :: a4 :: a5 :: a6 :: a7 :: a8 :: a9 :: a10 :: some (.int x) :: L) (st) z E im := by
  subst hq
  exact zz_pure S (fun _ _ _ _ _ _ _ _ _ _ _ _ _ _ _ hx hb hown hts hl kk => by
    obtain ⟨k9, hk9⟩ := List.getElem?_of_mem (zz_l_mem (G := G) (i := 0) (L := a0 :: a1 :: a2 :: a3 :: a4 :: a5 :: a6 :: a7 :: a8 :: a9 :: a10 :: some (.int x) :: L) (q := (11, .int x)) |>.mpr ⟨11, .int x, rfl, rfl⟩)
    exact lv_iinc (k := k9) hx hb hd hl.1 hk9 rfl (by have := hl.2; simp only [List.length_cons] at this; omega) rfl (fun ls9 h9 => kk _ (zz_set1 (v := .int (x + Int32.ofInt n)) (i := 11) hl.2 (zz_hp (i := 10) rfl hp) h9))) k
theorem zz_iinc_12 (S : zz_S G l own cc nL d n0 mcT msT isI rt Qf w) {a0 a1 a2 a3 a4 a5 a6 a7 a8 a9 a10 a11 : Option Value} {n : Int} {x : Int32} (hp : zz_c1 a11 = true) (hd : decode cc pc = .ok (.iinc 12 n, 3)) (hq : pc + 3 = q) (k : w q (a0 :: a1 :: a2 :: a3 :: a4 :: a5 :: a6 :: a7 :: a8 :: a9 :: a10 :: a11 :: some (.int (x + Int32.ofInt n)) :: L) (st) z E im) : w pc (a0 :: a1 :: a2 :: a3 :: a4 :: a5 :: a6 :: a7 :: a8 :: a9 :: a10 :: a11 :: some (.int x) :: L) (st) z E im := by
  subst hq
  exact zz_pure S (fun _ _ _ _ _ _ _ _ _ _ _ _ _ _ _ hx hb hown hts hl kk => by
    obtain ⟨k9, hk9⟩ := List.getElem?_of_mem (zz_l_mem (G := G) (i := 0) (L := a0 :: a1 :: a2 :: a3 :: a4 :: a5 :: a6 :: a7 :: a8 :: a9 :: a10 :: a11 :: some (.int x) :: L) (q := (12, .int x)) |>.mpr ⟨12, .int x, rfl, rfl⟩)
    exact lv_iinc (k := k9) hx hb hd hl.1 hk9 rfl (by have := hl.2; simp only [List.length_cons] at this; omega) rfl (fun ls9 h9 => kk _ (zz_set1 (v := .int (x + Int32.ofInt n)) (i := 12) hl.2 (zz_hp (i := 11) rfl hp) h9))) k
theorem zz_iinc_13 (S : zz_S G l own cc nL d n0 mcT msT isI rt Qf w) {a0 a1 a2 a3 a4 a5 a6 a7 a8 a9 a10 a11 a12 : Option Value} {n : Int} {x : Int32} (hp : zz_c1 a12 = true) (hd : decode cc pc = .ok (.iinc 13 n, 3)) (hq : pc + 3 = q) (k : w q (a0 :: a1 :: a2 :: a3 :: a4 :: a5 :: a6 :: a7 :: a8 :: a9 :: a10 :: a11 :: a12 :: some (.int (x + Int32.ofInt n)) :: L) (st) z E im) : w pc (a0 :: a1 :: a2 :: a3 :: a4 :: a5 :: a6 :: a7 :: a8 :: a9 :: a10 :: a11 :: a12 :: some (.int x) :: L) (st) z E im := by
  subst hq
  exact zz_pure S (fun _ _ _ _ _ _ _ _ _ _ _ _ _ _ _ hx hb hown hts hl kk => by
    obtain ⟨k9, hk9⟩ := List.getElem?_of_mem (zz_l_mem (G := G) (i := 0) (L := a0 :: a1 :: a2 :: a3 :: a4 :: a5 :: a6 :: a7 :: a8 :: a9 :: a10 :: a11 :: a12 :: some (.int x) :: L) (q := (13, .int x)) |>.mpr ⟨13, .int x, rfl, rfl⟩)
    exact lv_iinc (k := k9) hx hb hd hl.1 hk9 rfl (by have := hl.2; simp only [List.length_cons] at this; omega) rfl (fun ls9 h9 => kk _ (zz_set1 (v := .int (x + Int32.ofInt n)) (i := 13) hl.2 (zz_hp (i := 12) rfl hp) h9))) k
theorem zz_iinc_14 (S : zz_S G l own cc nL d n0 mcT msT isI rt Qf w) {a0 a1 a2 a3 a4 a5 a6 a7 a8 a9 a10 a11 a12 a13 : Option Value} {n : Int} {x : Int32} (hp : zz_c1 a13 = true) (hd : decode cc pc = .ok (.iinc 14 n, 3)) (hq : pc + 3 = q) (k : w q (a0 :: a1 :: a2 :: a3 :: a4 :: a5 :: a6 :: a7 :: a8 :: a9 :: a10 :: a11 :: a12 :: a13 :: some (.int (x + Int32.ofInt n)) :: L) (st) z E im) : w pc (a0 :: a1 :: a2 :: a3 :: a4 :: a5 :: a6 :: a7 :: a8 :: a9 :: a10 :: a11 :: a12 :: a13 :: some (.int x) :: L) (st) z E im := by
  subst hq
  exact zz_pure S (fun _ _ _ _ _ _ _ _ _ _ _ _ _ _ _ hx hb hown hts hl kk => by
    obtain ⟨k9, hk9⟩ := List.getElem?_of_mem (zz_l_mem (G := G) (i := 0) (L := a0 :: a1 :: a2 :: a3 :: a4 :: a5 :: a6 :: a7 :: a8 :: a9 :: a10 :: a11 :: a12 :: a13 :: some (.int x) :: L) (q := (14, .int x)) |>.mpr ⟨14, .int x, rfl, rfl⟩)
    exact lv_iinc (k := k9) hx hb hd hl.1 hk9 rfl (by have := hl.2; simp only [List.length_cons] at this; omega) rfl (fun ls9 h9 => kk _ (zz_set1 (v := .int (x + Int32.ofInt n)) (i := 14) hl.2 (zz_hp (i := 13) rfl hp) h9))) k
theorem zz_iinc_15 (S : zz_S G l own cc nL d n0 mcT msT isI rt Qf w) {a0 a1 a2 a3 a4 a5 a6 a7 a8 a9 a10 a11 a12 a13 a14 : Option Value} {n : Int} {x : Int32} (hp : zz_c1 a14 = true) (hd : decode cc pc = .ok (.iinc 15 n, 3)) (hq : pc + 3 = q) (k : w q (a0 :: a1 :: a2 :: a3 :: a4 :: a5 :: a6 :: a7 :: a8 :: a9 :: a10 :: a11 :: a12 :: a13 :: a14 :: some (.int (x + Int32.ofInt n)) :: L) (st) z E im) : w pc (a0 :: a1 :: a2 :: a3 :: a4 :: a5 :: a6 :: a7 :: a8 :: a9 :: a10 :: a11 :: a12 :: a13 :: a14 :: some (.int x) :: L) (st) z E im := by
  subst hq
  exact zz_pure S (fun _ _ _ _ _ _ _ _ _ _ _ _ _ _ _ hx hb hown hts hl kk => by
    obtain ⟨k9, hk9⟩ := List.getElem?_of_mem (zz_l_mem (G := G) (i := 0) (L := a0 :: a1 :: a2 :: a3 :: a4 :: a5 :: a6 :: a7 :: a8 :: a9 :: a10 :: a11 :: a12 :: a13 :: a14 :: some (.int x) :: L) (q := (15, .int x)) |>.mpr ⟨15, .int x, rfl, rfl⟩)
    exact lv_iinc (k := k9) hx hb hd hl.1 hk9 rfl (by have := hl.2; simp only [List.length_cons] at this; omega) rfl (fun ls9 h9 => kk _ (zz_set1 (v := .int (x + Int32.ofInt n)) (i := 15) hl.2 (zz_hp (i := 14) rfl hp) h9))) k
theorem zz_iinc_16 (S : zz_S G l own cc nL d n0 mcT msT isI rt Qf w) {a0 a1 a2 a3 a4 a5 a6 a7 a8 a9 a10 a11 a12 a13 a14 a15 : Option Value} {n : Int} {x : Int32} (hp : zz_c1 a15 = true) (hd : decode cc pc = .ok (.iinc 16 n, 3)) (hq : pc + 3 = q) (k : w q (a0 :: a1 :: a2 :: a3 :: a4 :: a5 :: a6 :: a7 :: a8 :: a9 :: a10 :: a11 :: a12 :: a13 :: a14 :: a15 :: some (.int (x + Int32.ofInt n)) :: L) (st) z E im) : w pc (a0 :: a1 :: a2 :: a3 :: a4 :: a5 :: a6 :: a7 :: a8 :: a9 :: a10 :: a11 :: a12 :: a13 :: a14 :: a15 :: some (.int x) :: L) (st) z E im := by
  subst hq
  exact zz_pure S (fun _ _ _ _ _ _ _ _ _ _ _ _ _ _ _ hx hb hown hts hl kk => by
    obtain ⟨k9, hk9⟩ := List.getElem?_of_mem (zz_l_mem (G := G) (i := 0) (L := a0 :: a1 :: a2 :: a3 :: a4 :: a5 :: a6 :: a7 :: a8 :: a9 :: a10 :: a11 :: a12 :: a13 :: a14 :: a15 :: some (.int x) :: L) (q := (16, .int x)) |>.mpr ⟨16, .int x, rfl, rfl⟩)
    exact lv_iinc (k := k9) hx hb hd hl.1 hk9 rfl (by have := hl.2; simp only [List.length_cons] at this; omega) rfl (fun ls9 h9 => kk _ (zz_set1 (v := .int (x + Int32.ofInt n)) (i := 16) hl.2 (zz_hp (i := 15) rfl hp) h9))) k
theorem zz_if_eq (S : zz_S G l own cc nL d n0 mcT msT isI rt Qf w) {x : Int32} {off : Int} (hd : decode cc pc = .ok (.ifCond .eq off, 3)) (ht : (pc : Int) + off = (t : Int)) (hq : pc + 3 = q) (kt : x = 0 → w t L st z E im) (kf : ¬ x = 0 → w q L st z E im) : w pc L (.int x :: st) z E im := by
  subst hq
  exact zz_br S (fun _ _ _ _ _ _ _ _ _ _ _ _ _ _ _ hx hb a b => lv_if_eq hx hb hd ht a b) kt kf
theorem zz_icmp_eq (S : zz_S G l own cc nL d n0 mcT msT isI rt Qf w) {x y : Int32} {off : Int} (hd : decode cc pc = .ok (.if_icmp .eq off, 3)) (ht : (pc : Int) + off = (t : Int)) (hq : pc + 3 = q) (kt : x = y → w t L st z E im) (kf : ¬ x = y → w q L st z E im) : w pc L (.int y :: .int x :: st) z E im := by
  subst hq
  exact zz_br S (fun _ _ _ _ _ _ _ _ _ _ _ _ _ _ _ hx hb a b => lv_icmp_eq hx hb hd ht a b) kt kf
theorem zz_if_ne (S : zz_S G l own cc nL d n0 mcT msT isI rt Qf w) {x : Int32} {off : Int} (hd : decode cc pc = .ok (.ifCond .ne off, 3)) (ht : (pc : Int) + off = (t : Int)) (hq : pc + 3 = q) (kt : x ≠ 0 → w t L st z E im) (kf : x = 0 → w q L st z E im) : w pc L (.int x :: st) z E im := by
  subst hq
  exact zz_br S (fun _ _ _ _ _ _ _ _ _ _ _ _ _ _ _ hx hb a b => lv_if_ne hx hb hd ht a (fun h => b (fun z => z h))) kt (fun h => kf (Classical.not_not.mp h))
theorem zz_icmp_ne (S : zz_S G l own cc nL d n0 mcT msT isI rt Qf w) {x y : Int32} {off : Int} (hd : decode cc pc = .ok (.if_icmp .ne off, 3)) (ht : (pc : Int) + off = (t : Int)) (hq : pc + 3 = q) (kt : x ≠ y → w t L st z E im) (kf : x = y → w q L st z E im) : w pc L (.int y :: .int x :: st) z E im := by
  subst hq
  exact zz_br S (fun _ _ _ _ _ _ _ _ _ _ _ _ _ _ _ hx hb a b => lv_icmp_ne hx hb hd ht a (fun h => b (fun z => z h))) kt (fun h => kf (Classical.not_not.mp h))
theorem zz_if_lt (S : zz_S G l own cc nL d n0 mcT msT isI rt Qf w) {x : Int32} {off : Int} (hd : decode cc pc = .ok (.ifCond .lt off, 3)) (ht : (pc : Int) + off = (t : Int)) (hq : pc + 3 = q) (kt : x < 0 → w t L st z E im) (kf : ¬ x < 0 → w q L st z E im) : w pc L (.int x :: st) z E im := by
  subst hq
  exact zz_br S (fun _ _ _ _ _ _ _ _ _ _ _ _ _ _ _ hx hb a b => lv_if_lt hx hb hd ht a b) kt kf
theorem zz_icmp_lt (S : zz_S G l own cc nL d n0 mcT msT isI rt Qf w) {x y : Int32} {off : Int} (hd : decode cc pc = .ok (.if_icmp .lt off, 3)) (ht : (pc : Int) + off = (t : Int)) (hq : pc + 3 = q) (kt : x < y → w t L st z E im) (kf : ¬ x < y → w q L st z E im) : w pc L (.int y :: .int x :: st) z E im := by
  subst hq
  exact zz_br S (fun _ _ _ _ _ _ _ _ _ _ _ _ _ _ _ hx hb a b => lv_icmp_lt hx hb hd ht a b) kt kf
theorem zz_if_ge (S : zz_S G l own cc nL d n0 mcT msT isI rt Qf w) {x : Int32} {off : Int} (hd : decode cc pc = .ok (.ifCond .ge off, 3)) (ht : (pc : Int) + off = (t : Int)) (hq : pc + 3 = q) (kt : x ≥ 0 → w t L st z E im) (kf : ¬ x ≥ 0 → w q L st z E im) : w pc L (.int x :: st) z E im := by
  subst hq
  exact zz_br S (fun _ _ _ _ _ _ _ _ _ _ _ _ _ _ _ hx hb a b => lv_if_ge hx hb hd ht a b) kt kf
theorem zz_icmp_ge (S : zz_S G l own cc nL d n0 mcT msT isI rt Qf w) {x y : Int32} {off : Int} (hd : decode cc pc = .ok (.if_icmp .ge off, 3)) (ht : (pc : Int) + off = (t : Int)) (hq : pc + 3 = q) (kt : x ≥ y → w t L st z E im) (kf : ¬ x ≥ y → w q L st z E im) : w pc L (.int y :: .int x :: st) z E im := by
  subst hq
  exact zz_br S (fun _ _ _ _ _ _ _ _ _ _ _ _ _ _ _ hx hb a b => lv_icmp_ge hx hb hd ht a b) kt kf
theorem zz_if_gt (S : zz_S G l own cc nL d n0 mcT msT isI rt Qf w) {x : Int32} {off : Int} (hd : decode cc pc = .ok (.ifCond .gt off, 3)) (ht : (pc : Int) + off = (t : Int)) (hq : pc + 3 = q) (kt : x > 0 → w t L st z E im) (kf : ¬ x > 0 → w q L st z E im) : w pc L (.int x :: st) z E im := by
  subst hq
  exact zz_br S (fun _ _ _ _ _ _ _ _ _ _ _ _ _ _ _ hx hb a b => lv_if_gt hx hb hd ht a b) kt kf
theorem zz_icmp_gt (S : zz_S G l own cc nL d n0 mcT msT isI rt Qf w) {x y : Int32} {off : Int} (hd : decode cc pc = .ok (.if_icmp .gt off, 3)) (ht : (pc : Int) + off = (t : Int)) (hq : pc + 3 = q) (kt : x > y → w t L st z E im) (kf : ¬ x > y → w q L st z E im) : w pc L (.int y :: .int x :: st) z E im := by
  subst hq
  exact zz_br S (fun _ _ _ _ _ _ _ _ _ _ _ _ _ _ _ hx hb a b => lv_icmp_gt hx hb hd ht a b) kt kf
theorem zz_if_le (S : zz_S G l own cc nL d n0 mcT msT isI rt Qf w) {x : Int32} {off : Int} (hd : decode cc pc = .ok (.ifCond .le off, 3)) (ht : (pc : Int) + off = (t : Int)) (hq : pc + 3 = q) (kt : x ≤ 0 → w t L st z E im) (kf : ¬ x ≤ 0 → w q L st z E im) : w pc L (.int x :: st) z E im := by
  subst hq
  exact zz_br S (fun _ _ _ _ _ _ _ _ _ _ _ _ _ _ _ hx hb a b => lv_if_le hx hb hd ht a b) kt kf
theorem zz_icmp_le (S : zz_S G l own cc nL d n0 mcT msT isI rt Qf w) {x y : Int32} {off : Int} (hd : decode cc pc = .ok (.if_icmp .le off, 3)) (ht : (pc : Int) + off = (t : Int)) (hq : pc + 3 = q) (kt : x ≤ y → w t L st z E im) (kf : ¬ x ≤ y → w q L st z E im) : w pc L (.int y :: .int x :: st) z E im := by
  subst hq
  exact zz_br S (fun _ _ _ _ _ _ _ _ _ _ _ _ _ _ _ hx hb a b => lv_icmp_le hx hb hd ht a b) kt kf
theorem zz_goto (S : zz_S G l own cc nL d n0 mcT msT isI rt Qf w) {off : Int} (hd : decode cc pc = .ok (.goto off, 3)) (ht : (pc : Int) + off = (t : Int)) (k : w t L st z E im) : w pc L st z E im :=
  zz_pure S (fun _ _ _ _ _ _ _ _ _ _ _ _ _ _ _ hx hb _ _ hl kk => lv_goto hx hb hd ht (kk _ hl)) k
theorem zz_tabOut (S : zz_S G l own cc nL d n0 mcT msT isI rt Qf w) {dflt lo hi : Int} {offs : Array Int} {len : Nat} {x : Int32} (hd : decode cc pc = .ok (.tableswitch dflt lo hi offs, len)) (h : x.toInt < lo ∨ hi < x.toInt) (ht : (pc : Int) + dflt = (t : Int)) (k : w t L st z E im) : w pc L (.int x :: st) z E im :=
  zz_pure S (fun _ _ _ _ _ _ _ _ _ _ _ _ _ _ _ hx hb _ _ hl kk => lv_tableOut hx hb hd h ht (kk _ hl)) k
theorem zz_tabIn (S : zz_S G l own cc nL d n0 mcT msT isI rt Qf w) {dflt lo hi : Int} {offs : Array Int} {len : Nat} {x : Int32} {off : Int} (hd : decode cc pc = .ok (.tableswitch dflt lo hi offs, len)) (h1 : ¬ x.toInt < lo) (h2 : ¬ hi < x.toInt) (ho : offs[(x.toInt - lo).toNat]? = some off) (ht : (pc : Int) + off = (t : Int)) (k : w t L st z E im) : w pc L (.int x :: st) z E im :=
  zz_pure S (fun _ _ _ _ _ _ _ _ _ _ _ _ _ _ _ hx hb _ _ hl kk => lv_tableIn hx hb hd h1 h2 ho ht (kk _ hl)) k
theorem zz_fin (S : zz_S G l own cc nL d n0 mcT msT isI rt Qf w) {v : Option Value} (hr : zz_ret rt cc pc st v) (hQ : Qf v E im) : w pc L st z E im := by
  obtain ⟨p, e, R, s, m, args, below, meth, c, Q, ⟨hx, hb, hml, hown, hts⟩, -, -, -, -, hret, rfl⟩ := S
  intro H locs ls h1 h2 h3 h4 h5 h6
  exact hret pc H locs ls st v z E im hr h1 h2 h3 h4 h5 hQ
theorem zz_vret (S : zz_S G l own cc nL d n0 mcT msT isI none Qf w) (hd : decode cc pc = .ok (.return_, 1)) (hQ : Qf none E im) : w pc L [] z E im := zz_fin S (v := none) ⟨hd, rfl, rfl⟩ hQ
theorem zz_iret (S : zz_S G l own cc nL d n0 mcT msT isI (some .int) Qf w) {r : Int32} (hd : decode cc pc = .ok (.ireturn, 1)) (hQ : Qf (some (.int r)) E im) : w pc L [.int r] z E im := zz_fin S (v := some (.int r)) ⟨hd, r, rfl, rfl, rfl⟩ hQ
theorem zz_zret (S : zz_S G l own cc nL d n0 mcT msT isI (some .boolean) Qf w) {r : Int32} (hr : narrow .boolean (.int r) = .int r) (hd : decode cc pc = .ok (.ireturn, 1)) (hQ : Qf (some (.int r)) E im) : w pc L [.int r] z E im := zz_fin S (v := some (.int r)) ⟨hd, r, rfl, rfl, hr⟩ hQ
theorem zz_bret (S : zz_S G l own cc nL d n0 mcT msT isI (some .byte) Qf w) {r : Int32} (hr : narrow .byte (.int r) = .int r) (hd : decode cc pc = .ok (.ireturn, 1)) (hQ : Qf (some (.int r)) E im) : w pc L [.int r] z E im := zz_fin S (v := some (.int r)) ⟨hd, r, rfl, rfl, hr⟩ hQ
theorem zz_cret (S : zz_S G l own cc nL d n0 mcT msT isI (some .char) Qf w) {r : Int32} (hr : narrow .char (.int r) = .int r) (hd : decode cc pc = .ok (.ireturn, 1)) (hQ : Qf (some (.int r)) E im) : w pc L [.int r] z E im := zz_fin S (v := some (.int r)) ⟨hd, r, rfl, rfl, hr⟩ hQ
theorem zz_lret (S : zz_S G l own cc nL d n0 mcT msT isI (some .long) Qf w) {r : Int64} (hd : decode cc pc = .ok (.lreturn, 1)) (hQ : Qf (some (.long r)) E im) : w pc L [.long r] z E im := zz_fin S (v := some (.long r)) ⟨hd, r, rfl, rfl⟩ hQ
theorem zz_aret (S : zz_S G l own cc nL d n0 mcT msT isI rt Qf w) {C : String} (hrt : rt = some (.object C)) {r : Nat} (hd : decode cc pc = .ok (.areturn, 1)) (hQ : Qf (some (.ref r)) E im) : w pc L [.ref r] z E im := by
  subst hrt
  exact zz_fin S (v := some (.ref r)) ⟨hd, r, rfl, rfl⟩ hQ
end ZR
end
section
/-! ROWS: cells -/
def zz_cn : Nat → String
  | 0 => RX0
  | 1 => RX1
  | 2 => RX2
  | 3 => RX3
  | 4 => RX4
  | 5 => RX5
  | 6 => RX6
  | 7 => RX7
  | _ => RX8
def zz_T : Nat → u_T
  | 0 => TX0
  | 1 => TX1
  | 2 => TX2
  | 3 => TX3
  | 4 => TX4
  | 5 => TX5
  | 6 => TX6
  | 7 => TX7
  | _ => TX8
theorem zz_in0 : ∀ w ∈ u_ws RX0 TX0 8, w ∈ zz_t := zz_pl [134, 136, 138, 140, 142, 144, 146, 148] (by decide +kernel) (by decide +kernel)
theorem zz_in1 : ∀ w ∈ u_ws RX1 TX1 3, w ∈ zz_t := zz_pl [257, 259, 261] (by decide +kernel) (by decide +kernel)
theorem zz_in2 : ∀ w ∈ u_ws RX2 TX2 3, w ∈ zz_t := zz_pl [213, 215, 217] (by decide +kernel) (by decide +kernel)
theorem zz_in3 : ∀ w ∈ u_ws RX3 TX3 5, w ∈ zz_t := zz_pl [234, 236, 238, 240, 242] (by decide +kernel) (by decide +kernel)
theorem zz_in4 : ∀ w ∈ u_ws RX4 TX4 8, w ∈ zz_t := zz_pl [170, 172, 174, 176, 178, 180, 182, 184] (by decide +kernel) (by decide +kernel)
theorem zz_in5 : ∀ w ∈ u_ws RX5 TX5 3, w ∈ zz_t := zz_pl [192, 194, 196] (by decide +kernel) (by decide +kernel)
theorem zz_in6 : ∀ w ∈ u_ws RX6 TX6 2, w ∈ zz_t := zz_pl [100, 102] (by decide +kernel) (by decide +kernel)
theorem zz_in7 : ∀ w ∈ u_ws RX7 TX7 5, w ∈ zz_t := zz_pl [269, 271, 273, 275, 277] (by decide +kernel) (by decide +kernel)
theorem zz_in8 : ∀ w ∈ u_ws RX8 TX8 15, w ∈ zz_t := zz_pl [769, 771, 773, 775, 777, 779, 781, 783, 785, 787, 789, 791, 793, 795, 797] (by decide +kernel) (by decide +kernel)
theorem zz_cls {c : Nat} (hc : c < 9) : zz_cl[c]? = some (zz_cn c, zz_T c, zz_n c) ∧ (∀ w ∈ u_ws (zz_cn c) (zz_T c) (zz_n c), w ∈ zz_t) ∧ (∀ k, k < zz_n c → parseFieldDescriptor (zz_T c k).2.2.1 = some (zz_ty c k)) ∧ ∀ a, a < zz_n c → ∀ b, b < zz_n c → a ≠ b → (zz_T c a).2.1 ≠ (zz_T c b).2.1 := by
  match c, hc with
  | 0, _ => exact ⟨rfl, zz_in0, tyX0_ok, nmX0⟩
  | 1, _ => exact ⟨rfl, zz_in1, tyX1_ok, nmX1⟩
  | 2, _ => exact ⟨rfl, zz_in2, tyX2_ok, nmX2⟩
  | 3, _ => exact ⟨rfl, zz_in3, tyX3_ok, nmX3⟩
  | 4, _ => exact ⟨rfl, zz_in4, tyX4_ok, nmX4⟩
  | 5, _ => exact ⟨rfl, zz_in5, tyX5_ok, nmX5⟩
  | 6, _ => exact ⟨rfl, zz_in6, tyX6_ok, nmX6⟩
  | 7, _ => exact ⟨rfl, zz_in7, tyX7_ok, nmX7⟩
  | 8, _ => exact ⟨rfl, zz_in8, tyX8_ok, nmX8⟩
/-- entry idx of the class own is the field j of the class c -/
def zz_F (own : String) (idx c j : Nat) : Prop := Cond.fieldLink own idx (zz_cn c) (zz_T c j).2.1 (zz_T c j).2.2.1 ∈ zz_t ∧ c < 9 ∧ j < zz_n c ∧ (zz_T c j).1 = zz_cn c
section ZH
variable {G : ZG} {l : Launch} {own : String} {cc : ByteArray} {nL d n0 mcT msT : Nat} {isI : Bool} {rt : Option FieldType} {Qf : Option Value → ZE → ZI → Prop} {w : Nat → ZL → List Value → Nat → ZE → ZI → Prop}
variable {pc q t : Nat} {L L' : ZL} {st st' : List Value} {z : Nat} {E : ZE} {im : ZI}
theorem zz_b_lt {G : ZG} {k : Nat} (h : k < 1000) : zz_b G k = G.2.2.1 + k := by
  unfold zz_b
  rw [if_pos h]
theorem zz_w_obj {k c : Nat} (hk : k < E.1) (hkd : E.2.1 k = (0, c)) : (zz_w G E im)[k]? = some (zz_b G k, .inr (c, zz_fs G c (im k) (E.2.2 k))) := by
  rw [zz_w_get hk, hkd]
  rfl
theorem zz_w_ints {k t n : Nat} (hk : k < E.1) (hkd : E.2.1 k = (t, n)) (h1 : 1 ≤ t) (h3 : t ≤ 3) : (zz_w G E im)[k]? = some (zz_b G k, .inl (G.2.1 t, n, .inl (im k))) := by
  rw [zz_w_get hk, hkd]
  unfold zz_c
  rw [if_neg (by show ¬ t = 0; omega), if_pos h3]
theorem zz_w_refs {k t n : Nat} (hk : k < E.1) (hkd : E.2.1 k = (t, n)) (h4 : 4 ≤ t) : (zz_w G E im)[k]? = some (zz_b G k, .inl (G.2.1 t, n, .inr (.inr (.inr (.inr (fun j => (E.2.2 k j).map (zz_b G))))))) := by
  rw [zz_w_get hk, hkd]
  unfold zz_c
  rw [if_neg (by show ¬ t = 0; omega), if_neg (by show ¬ t ≤ 3; omega)]
theorem zz_getI (S : zz_S G l own cc nL d n0 mcT msT isI rt Qf w) {idx c j k : Nat} (hf : zz_F own idx c j) (hr : zz_r c j = false) (hk : k < E.1) (hkd : E.2.1 k = (0, c)) (hd : decode cc pc = .ok (.getfield idx, 3)) (hq : pc + 3 = q) (kk : w q L (.int (im k j) :: st) z E im) : w pc L (.ref k :: st) z E im := by
  subst hq
  obtain ⟨p, e, R, s, m, args, below, meth, c0, Q, ⟨hx, hb, hml, hown, hts⟩, hR, hI, hK, hsz, hret, rfl⟩ := S
  intro H locs ls h1 h2 h3 h4 h5 h6
  obtain ⟨f1, f2, f3, f4⟩ := hf
  obtain ⟨c1, c2, c3, c4⟩ := zz_cls f2
  exact va_get hx hb hts c2 hown hK.1.1 h1.2 k (zz_w_obj hk hkd) c1 j f3 (hts _ f1) (by rw [f4]; exact fun _ h => h) (v := .int (im k j)) (by rw [zz_fs_get f3]; simp [zz_fv, hr]) hd (kk H locs ls h1 h2 h3 h4 h5 h6)
theorem zz_getR (S : zz_S G l own cc nL d n0 mcT msT isI rt Qf w) {idx c j k x : Nat} (hf : zz_F own idx c j) (hr : zz_r c j = true) (hk : k < E.1) (hkd : E.2.1 k = (0, c)) (hx1 : E.2.2 k j = some x) (hd : decode cc pc = .ok (.getfield idx, 3)) (hq : pc + 3 = q) (kk : w q L (.ref x :: st) z E im) : w pc L (.ref k :: st) z E im := by
  subst hq
  obtain ⟨p, e, R, s, m, args, below, meth, c0, Q, ⟨hx, hb, hml, hown, hts⟩, hR, hI, hK, hsz, hret, rfl⟩ := S
  intro H locs ls h1 h2 h3 h4 h5 h6
  obtain ⟨f1, f2, f3, f4⟩ := hf
  obtain ⟨c1, c2, c3, c4⟩ := zz_cls f2
  exact va_get hx hb hts c2 hown hK.1.1 h1.2 k (zz_w_obj hk hkd) c1 j f3 (hts _ f1) (by rw [f4]; exact fun _ h => h) (v := .ref (zz_b G x)) (by rw [zz_fs_get f3]; simp [zz_fv, hr, hx1, va_rf]) hd (kk H locs ls h1 h2 h3 h4 h5 h6)
theorem zz_putI (S : zz_S G l own cc nL d n0 mcT msT isI rt Qf w) {idx c j k : Nat} {x : Int32} (hf : zz_F own idx c j) (hty : zz_ty c j = .int) (hfin : (zz_T c j).2.2.2 = false) (hk : k < E.1) (hkd : E.2.1 k = (0, c)) (hd : decode cc pc = .ok (.putfield idx, 3)) (hq : pc + 3 = q) (kk : w q L st z E (zz_u im k j x)) : w pc L (.int x :: .ref k :: st) z E im := by
  subst hq
  obtain ⟨p, e, R, s, m, args, below, meth, c0, Q, ⟨hx, hb, hml, hown, hts⟩, hR, hI, hK, hsz, hret, rfl⟩ := S
  intro H locs ls h1 h2 h3 h4 h5 h6
  obtain ⟨f1, f2, f3, f4⟩ := hf
  obtain ⟨c1, c2, c3, c4⟩ := zz_cls f2
  have hr : zz_r c j = false := by unfold zz_r; rw [hty]; rfl
  refine va_put hx hb hts c2 (zz_ty c) c3 c4 hown hK.1.1 h1.2 (zz_w_D h1.1) h5 k (zz_w_obj hk hkd) c1 j f3 (hts _ f1) (by rw [f4]; exact fun _ h => h) hfin (ty := .int) (v := .int x) (by rw [c3 j f3, hty]) rfl rfl (by rw [zz_fs_len]; exact f3) hd (fun H1 locs1 hP1 hD1 hS1 => ?_)
  rw [zz_fs_setI f3 hr] at hP1
  have e1 := zz_w_set (G := G) (E := E) (E' := E) (im := im) (im' := zz_u im k j x) (q := k) rfl hk (fun _ _ => rfl) (fun _ h => zz_u_off _ _ _ _ h) (fun _ _ => rfl)
  rw [hkd, zz_u_row] at e1
  exact kk H1 locs1 ls ⟨h1.1, by rw [← e1]; exact hP1⟩ h2 h3 h4 hS1 h6
theorem zz_putF (S : zz_S G l own cc nL d n0 mcT msT true rt Qf w) {idx c j k x : Nat} (hf : zz_F own idx c j) (hr : zz_r c j = true) (hfit : ∀ a, narrow (zz_ty c j) (.ref a) = .ref a ∧ fits (zz_ty c j) (.ref a) = true) (hfin : (zz_T c j).2.2.2 = true) (hdecl : (zz_T c j).1 = own) (hk : k < E.1) (hkd : E.2.1 k = (0, c)) (hd : decode cc pc = .ok (.putfield idx, 3)) (hq : pc + 3 = q) (kk : w q L st z (E.1, E.2.1, zz_ru E.2.2 k j (some x)) im) : w pc L (.ref x :: .ref k :: st) z E im := by
  subst hq
  obtain ⟨p, e, R, s, m, args, below, meth, c0, Q, ⟨hx, hb, hml, hown, hts⟩, hR, hI, hK, hsz, hret, rfl⟩ := S
  intro H locs ls h1 h2 h3 h4 h5 h6
  obtain ⟨f1, f2, f3, f4⟩ := hf
  obtain ⟨c1, c2, c3, c4⟩ := zz_cls f2
  refine va_putF hx hb hts c2 (zz_ty c) c3 c4 hown hK.1.1 h1.2 (zz_w_D h1.1) h5 k (zz_w_obj hk hkd) c1 j f3 (hts _ f1) (by rw [f4]; exact fun _ h => h) hfin (hI rfl) hdecl (ty := zz_ty c j) (v := .ref (zz_b G x)) (c3 j f3) (hfit _).1 (hfit _).2 (by rw [zz_fs_len]; exact f3) hd (fun H1 locs1 hP1 hD1 hS1 => ?_)
  rw [zz_fs_setR f3 hr] at hP1
  have e1 := zz_w_set (G := G) (E := E) (E' := (E.1, E.2.1, zz_ru E.2.2 k j (some x))) (im := im) (im' := im) (q := k) rfl hk (fun _ _ => rfl) (fun _ _ => rfl) (fun _ h => zz_ru_off _ _ _ _ h)
  dsimp only at e1
  rw [hkd, zz_ru_row] at e1
  exact kk H1 locs1 ls ⟨h1.1, by rw [← e1]; exact hP1⟩ h2 h3 h4 hS1 h6
/-- an index within, as the walk asks it -/
theorem zz_vp {i : Int32} {n : Nat} (h : 0 ≤ i.toInt ∧ i.toInt < n) : vp_in i n := vp_in_iff.mpr h
theorem zz_iald (S : zz_S G l own cc nL d n0 mcT msT isI rt Qf w) {k n : Nat} {i : Int32} (hk : k < E.1) (hkd : E.2.1 k = (1, n)) (hi : vp_in i n) (hd : decode cc pc = .ok (.iaload, 1)) (hq : pc + 1 = q) (kk : w q L (.int (im k i.toNatClampNeg) :: st) z E im) : w pc L (.int i :: .ref k :: st) z E im := by
  subst hq
  obtain ⟨p, e, R, s, m, args, below, meth, c0, Q, ⟨hx, hb, hml, hown, hts⟩, hR, hI, hK, hsz, hret, rfl⟩ := S
  intro H locs ls h1 h2 h3 h4 h5 h6
  exact va_iald hx hb hK.1.1 h1.2 k 1 (zz_w_ints hk hkd (by decide) (by decide)) rfl hi hd (kk H locs ls h1 h2 h3 h4 h5 h6)
theorem zz_zald (S : zz_S G l own cc nL d n0 mcT msT isI rt Qf w) {k n : Nat} {i : Int32} (hk : k < E.1) (hkd : E.2.1 k = (2, n)) (hi : vp_in i n) (hd : decode cc pc = .ok (.baload, 1)) (hq : pc + 1 = q) (kk : w q L (.int (im k i.toNatClampNeg) :: st) z E im) : w pc L (.int i :: .ref k :: st) z E im := by
  subst hq
  obtain ⟨p, e, R, s, m, args, below, meth, c0, Q, ⟨hx, hb, hml, hown, hts⟩, hR, hI, hK, hsz, hret, rfl⟩ := S
  intro H locs ls h1 h2 h3 h4 h5 h6
  exact va_zald hx hb hK.1.1 h1.2 k 2 (zz_w_ints hk hkd (by decide) (by decide)) rfl hi hd (kk H locs ls h1 h2 h3 h4 h5 h6)
theorem zz_cald (S : zz_S G l own cc nL d n0 mcT msT isI rt Qf w) {k n : Nat} {i : Int32} (hk : k < E.1) (hkd : E.2.1 k = (3, n)) (hi : vp_in i n) (hd : decode cc pc = .ok (.caload, 1)) (hq : pc + 1 = q) (kk : w q L (.int (im k i.toNatClampNeg) :: st) z E im) : w pc L (.int i :: .ref k :: st) z E im := by
  subst hq
  obtain ⟨p, e, R, s, m, args, below, meth, c0, Q, ⟨hx, hb, hml, hown, hts⟩, hR, hI, hK, hsz, hret, rfl⟩ := S
  intro H locs ls h1 h2 h3 h4 h5 h6
  exact va_cald hx hb hK.1.1 h1.2 k 3 (zz_w_ints hk hkd (by decide) (by decide)) rfl hi hd (kk H locs ls h1 h2 h3 h4 h5 h6)
theorem zz_iast (S : zz_S G l own cc nL d n0 mcT msT isI rt Qf w) {k n : Nat} {i x : Int32} (hk : k < E.1) (hkd : E.2.1 k = (1, n)) (hi : vp_in i n) (hd : decode cc pc = .ok (.iastore, 1)) (hq : pc + 1 = q) (kk : w q L st z E (zz_u im k i.toNatClampNeg x)) : w pc L (.int x :: .int i :: .ref k :: st) z E im := by
  subst hq
  obtain ⟨p, e, R, s, m, args, below, meth, c0, Q, ⟨hx, hb, hml, hown, hts⟩, hR, hI, hK, hsz, hret, rfl⟩ := S
  intro H locs ls h1 h2 h3 h4 h5 h6
  refine va_iast hx hb hK.1.1 h1.2 (zz_w_D h1.1) h5 k 1 (zz_w_ints hk hkd (by decide) (by decide)) rfl hi hd (fun H1 locs1 hP1 hD1 hS1 => ?_)
  have e1 := zz_w_set (G := G) (E := E) (E' := E) (im := im) (im' := zz_u im k i.toNatClampNeg x) (q := k) rfl hk (fun _ _ => rfl) (fun _ h => zz_u_off _ _ _ _ h) (fun _ _ => rfl)
  rw [hkd, zz_u_row] at e1
  exact kk H1 locs1 ls ⟨h1.1, by rw [← e1]; exact hP1⟩ h2 h3 h4 hS1 h6
theorem zz_zast (S : zz_S G l own cc nL d n0 mcT msT isI rt Qf w) {k n : Nat} {i x : Int32} (hk : k < E.1) (hkd : E.2.1 k = (2, n)) (hi : vp_in i n) (hd : decode cc pc = .ok (.bastore, 1)) (hq : pc + 1 = q) (kk : w q L st z E (zz_u im k i.toNatClampNeg (vp_nar .boolean x))) : w pc L (.int x :: .int i :: .ref k :: st) z E im := by
  subst hq
  obtain ⟨p, e, R, s, m, args, below, meth, c0, Q, ⟨hx, hb, hml, hown, hts⟩, hR, hI, hK, hsz, hret, rfl⟩ := S
  intro H locs ls h1 h2 h3 h4 h5 h6
  refine va_zast hx hb hK.1.1 h1.2 (zz_w_D h1.1) h5 k 2 (zz_w_ints hk hkd (by decide) (by decide)) rfl hi hd (fun H1 locs1 hP1 hD1 hS1 => ?_)
  have e1 := zz_w_set (G := G) (E := E) (E' := E) (im := im) (im' := zz_u im k i.toNatClampNeg (vp_nar .boolean x)) (q := k) rfl hk (fun _ _ => rfl) (fun _ h => zz_u_off _ _ _ _ h) (fun _ _ => rfl)
  rw [hkd, zz_u_row] at e1
  exact kk H1 locs1 ls ⟨h1.1, by rw [← e1]; exact hP1⟩ h2 h3 h4 hS1 h6
theorem zz_cast (S : zz_S G l own cc nL d n0 mcT msT isI rt Qf w) {k n : Nat} {i x : Int32} (hk : k < E.1) (hkd : E.2.1 k = (3, n)) (hi : vp_in i n) (hd : decode cc pc = .ok (.castore, 1)) (hq : pc + 1 = q) (kk : w q L st z E (zz_u im k i.toNatClampNeg (vp_nar .char x))) : w pc L (.int x :: .int i :: .ref k :: st) z E im := by
  subst hq
  obtain ⟨p, e, R, s, m, args, below, meth, c0, Q, ⟨hx, hb, hml, hown, hts⟩, hR, hI, hK, hsz, hret, rfl⟩ := S
  intro H locs ls h1 h2 h3 h4 h5 h6
  refine va_cast hx hb hK.1.1 h1.2 (zz_w_D h1.1) h5 k 3 (zz_w_ints hk hkd (by decide) (by decide)) rfl hi hd (fun H1 locs1 hP1 hD1 hS1 => ?_)
  have e1 := zz_w_set (G := G) (E := E) (E' := E) (im := im) (im' := zz_u im k i.toNatClampNeg (vp_nar .char x)) (q := k) rfl hk (fun _ _ => rfl) (fun _ h => zz_u_off _ _ _ _ h) (fun _ _ => rfl)
  rw [hkd, zz_u_row] at e1
  exact kk H1 locs1 ls ⟨h1.1, by rw [← e1]; exact hP1⟩ h2 h3 h4 hS1 h6
theorem zz_aald (S : zz_S G l own cc nL d n0 mcT msT isI rt Qf w) {k t0 n x : Nat} {i : Int32} (hk : k < E.1) (hkd : E.2.1 k = (t0, n)) (ht0 : 4 ≤ t0 ∧ t0 ≤ 7) (hi : vp_in i n) (hx1 : E.2.2 k i.toNatClampNeg = some x) (hd : decode cc pc = .ok (.aaload, 1)) (hq : pc + 1 = q) (kk : w q L (.ref x :: st) z E im) : w pc L (.int i :: .ref k :: st) z E im := by
  subst hq
  obtain ⟨p, e, R, s, m, args, below, meth, c0, Q, ⟨hx, hb, hml, hown, hts⟩, hR, hI, hK, hsz, hret, rfl⟩ := S
  intro H locs ls h1 h2 h3 h4 h5 h6
  have kk2 := kk H locs ls h1 h2 h3 h4 h5 h6
  have e2 : va_rf ((fun j => (E.2.2 k j).map (zz_b G)) i.toNatClampNeg) = .ref (zz_b G x) := by simp [hx1, va_rf]
  have hcell := zz_w_refs (G := G) (im := im) hk hkd ht0.1
  rw [List.map_cons, zz_v_ref, ← e2] at kk2
  rcases (show t0 = 4 ∨ t0 = 5 ∨ t0 = 6 ∨ t0 = 7 by omega) with rfl | rfl | rfl | rfl
  · exact va_aldq (C := RX6) hx hb hK.1.1 h1.2 k 4 hcell rfl hi hd kk2
  · exact va_aldq (C := RX0) hx hb hK.1.1 h1.2 k 5 hcell rfl hi hd kk2
  · exact va_aldq (C := RX4) hx hb hK.1.1 h1.2 k 6 hcell rfl hi hd kk2
  · exact va_aldq (C := RX5) hx hb hK.1.1 h1.2 k 7 hcell rfl hi hd kk2
theorem zz_aast (S : zz_S G l own cc nL d n0 mcT msT isI rt Qf w) {k t0 c n x : Nat} {i : Int32} (hk : k < E.1) (hkd : E.2.1 k = (t0, n)) (ht0 : (t0, c) ∈ [(4, 6), (5, 0), (6, 4), (7, 5)]) (hi : vp_in i n) (hkx : x < E.1) (hkdx : E.2.1 x = (0, c)) (hd : decode cc pc = .ok (.aastore, 1)) (hq : pc + 1 = q) (kk : w q L st z (E.1, E.2.1, zz_ru E.2.2 k i.toNatClampNeg (some x)) im) : w pc L (.ref x :: .int i :: .ref k :: st) z E im := by
  subst hq
  obtain ⟨p, e, R, s, m, args, below, meth, c0, Q, ⟨hx, hb, hml, hown, hts⟩, hR, hI, hK, hsz, hret, rfl⟩ := S
  intro H locs ls h1 h2 h3 h4 h5 h6
  have key : ∀ (r : vw_C), zz_cl[c]? = some r → (zz_tys G)[t0]? = some (G.2.1 t0, .object r.1) → 4 ≤ t0 → W p l e R s m args below meth c0 H locs (E.1 - n0) z Q (F0 m pc ls (.ref (zz_b G x) :: .int i :: .ref (zz_b G k) :: st.map (zz_v G))) := by
    intro r hr hty ht4
    refine va_astq hx hb hK.1.1 h1.2 (zz_w_D h1.1) h5 k t0 x c (zz_w_refs hk hkd ht4) hty (zz_w_obj hkx hkdx) hr hi hd (fun H1 locs1 hP1 hD1 hS1 => ?_)
    have e1 := zz_w_set (G := G) (E := E) (E' := (E.1, E.2.1, zz_ru E.2.2 k i.toNatClampNeg (some x))) (im := im) (im' := im) (q := k) rfl hk (fun _ _ => rfl) (fun _ _ => rfl) (fun _ h => zz_ru_off _ _ _ _ h)
    dsimp only at e1
    have e2 : zz_c G (t0, n) (im k) (zz_ru E.2.2 k i.toNatClampNeg (some x) k) = .inl (G.2.1 t0, n, .inr (.inr (.inr (.inr (va_up (fun j => (E.2.2 k j).map (zz_b G)) i.toNatClampNeg (some (zz_b G x))))))) := by
      unfold zz_c
      rw [if_neg (by show ¬ t0 = 0; omega), if_neg (by show ¬ t0 ≤ 3; omega), zz_ru_row]
      congr 7
      funext j
      by_cases hj : j = i.toNatClampNeg
      · subst hj; simp [va_up]
      · simp [va_up, hj]
    rw [hkd, e2] at e1
    exact kk H1 locs1 ls ⟨h1.1, by rw [← e1]; exact hP1⟩ h2 h3 h4 hS1 h6
  simp only [List.mem_cons, Prod.mk.injEq, List.not_mem_nil, or_false] at ht0
  rcases ht0 with ⟨rfl, rfl⟩ | ⟨rfl, rfl⟩ | ⟨rfl, rfl⟩ | ⟨rfl, rfl⟩
  · exact key (RX6, TX6, 2) rfl rfl (by decide)
  · exact key (RX0, TX0, 8) rfl rfl (by decide)
  · exact key (RX4, TX4, 8) rfl rfl (by decide)
  · exact key (RX5, TX5, 3) rfl rfl (by decide)
theorem zz_gets (S : zz_S G l own cc nL d n0 mcT msT isI rt Qf w) {idx i : Nat} (hi : i < 4) (hn : Cond.fieldLinkNest own idx "SundialWorks" (zz_sn i) "[I" "SundialWorks" ∈ zz_nw) (hd : decode cc pc = .ok (.getstatic idx, 3)) (hq : pc + 3 = q) (kk : w q L (.ref (1000 + i) :: st) z E im) : w pc L st z E im := by
  subst hq
  obtain ⟨p, e, R, s, m, args, below, meth, c0, Q, ⟨hx, hb, hml, hown, hts⟩, hR, hI, hK, hsz, hret, rfl⟩ := S
  intro H locs ls h1 h2 h3 h4 h5 h6
  have hl : va_Nw (.fieldLinkNest own idx "SundialWorks" (zz_sn i) "[I" "SundialWorks") s := hK.1.2.1 _ hn
  exact va_getsN hx hb (hK.2.1 i hi).1 h5 hown (va_Nw.use rfl hl) (fun _ h => h) hd (kk H locs ls h1 h2 h3 h4 h5 h6)
theorem zz_sald (S : zz_S G l own cc nL d n0 mcT msT isI rt Qf w) {k : Nat} {i : Int32} (hk : k < 4) (hi : vp_in i (zz_st k).length) (hd : decode cc pc = .ok (.iaload, 1)) (hq : pc + 1 = q) (kk : w q L (.int ((zz_st k).getD i.toNatClampNeg 0) :: st) z E im) : w pc L (.int i :: .ref (1000 + k) :: st) z E im := by
  subst hq
  obtain ⟨p, e, R, s, m, args, below, meth, c0, Q, ⟨hx, hb, hml, hown, hts⟩, hR, hI, hK, hsz, hret, rfl⟩ := S
  intro H locs ls h1 h2 h3 h4 h5 h6
  exact va_ti hx hb (hK.2.1 k hk).2 h5 hi (v := .int ((zz_st k).getD i.toNatClampNeg 0)) rfl hd (kk H locs ls h1 h2 h3 h4 h5 h6)
/-! new cells -/
theorem zz_top {H : Heap} {s : State} {locs : List Loc} {A : Nat → Prop} (h1 : zz_R G H E im) (h2 : n0 ≤ E.1) (hS : va_S A s.heap H locs) (hsz : s.heap.size = G.2.2.1 + n0) : G.2.2.1 + E.1 ≤ H.size := by
  by_cases h : E.1 = n0
  · have := hS.1
    omega
  · have hk : E.1 - 1 < E.1 := by omega
    have h4 := (h1.2 (E.1 - 1) _ (zz_w_get hk)).lt
    have h5 : zz_b G (E.1 - 1) = G.2.2.1 + (E.1 - 1) := zz_b_lt (by have := h1.1; omega)
    have h6 : zz_b G (E.1 - 1) < H.size := h4
    omega
theorem zz_Wsz {p : Program} {e : Env} {R : Room} {s : State} {m : MethodId} {args : Array Value} {below : List Frame} {meth : Method} {c : Code} {H : Heap} {locs : List Loc} {cells slots : Nat} {Q : State → Prop} {g : JFrame} (k : H.size ≤ s.heap.size + cells → W p l e R s m args below meth c H locs cells slots Q g) : W p l e R s m args below meth c H locs cells slots Q g := by
  intro T hT X
  have h := X.heapSize
  rw [hT] at h
  exact k h T hT X
theorem zz_fresh {H1 : Heap} {x : va_E} {qv : Nat} {A : Nat → Prop} (hA : A = zz_A G) (hP : va_P G.1 zz_cl (zz_w G E im ++ [(qv, x)]) H1) (hD : va_D A (zz_w G E im ++ [(qv, x)])) (h1 : E.1 ≤ 1000) (hs : H1.size ≤ G.2.2.1 + (E.1 + 1)) (h9 : E.1 < 1000) : qv = zz_b G E.1 := by
  subst hA
  have hlen : (zz_w G E im).length = E.1 := by simp [zz_w]
  have hq : (zz_w G E im ++ [(qv, x)])[E.1]? = some (qv, x) := by rw [List.getElem?_append_right (by omega), hlen, Nat.sub_self]; rfl
  have h2 : qv < H1.size := (hP E.1 _ hq).lt
  have h3 : G.2.2.1 ≤ qv := hD.2 E.1 _ hq
  rw [zz_b_lt h9]
  by_cases hk : qv - G.2.2.1 < E.1
  · exfalso
    have h4 : (zz_w G E im ++ [(qv, x)])[qv - G.2.2.1]? = some (zz_b G (qv - G.2.2.1), zz_c G (E.2.1 (qv - G.2.2.1)) (im (qv - G.2.2.1)) (E.2.2 (qv - G.2.2.1))) := by
      rw [List.getElem?_append_left (by omega)]
      exact zz_w_get hk
    have h5 := hD.1 _ _ _ _ h4 hq (by rw [zz_b_lt (by omega)]; show G.2.2.1 + (qv - G.2.2.1) = qv; omega)
    omega
  · omega
/-- the memory with one new cell of the kind kd -/
def zz_nE (E : ZE) (kd : Nat × Nat) : ZE := (E.1 + 1, fun k => if k = E.1 then kd else E.2.1 k, fun k => if k = E.1 then fun _ => none else E.2.2 k)
def zz_nI (E : ZE) (im : ZI) : ZI := fun k => if k = E.1 then fun _ => 0 else im k
theorem zz_nw_eq (kd : Nat × Nat) : zz_w G E im ++ [(zz_b G E.1, zz_c G kd (fun _ => 0) (fun _ => none))] = zz_w G (zz_nE E kd) (zz_nI E im) :=
  zz_w_push (E' := zz_nE E kd) (im' := zz_nI E im) rfl (fun k hk => if_neg (by omega)) (fun k hk => if_neg (by omega)) (fun k hk => if_neg (by omega)) (if_pos rfl) (if_pos rfl) (if_pos rfl)
theorem zz_new (S : zz_S G l own cc nL d n0 mcT msT isI rt Qf w) {idx c : Nat} (hc : c < 9) (hl1 : Cond.classLink own idx (zz_cn c) ∈ zz_t) (hl2 : Cond.instantiable (zz_cn c) (zz_n c) ∈ zz_t) (hl3 : Cond.initialized (zz_cn c) ∈ zz_t) (hE : E.1 < 1000) (hm : n0 ≤ E.1 → E.1 + 1 ≤ n0 + mcT) (hz : z + zz_n c ≤ msT) (hd : decode cc pc = .ok (.new idx, 3)) (hq : pc + 3 = q) (kk : w q L (.ref E.1 :: st) (z + zz_n c) (zz_nE E (0, c)) (zz_nI E im)) : w pc L st z E im := by
  subst hq
  obtain ⟨p, e, R, s, m, args, below, meth, c0, Q, ⟨hx, hb, hml, hown, hts⟩, hR, hI, hK, hsz, hret, rfl⟩ := S
  intro H locs ls h1 h2 h3 h4 h5 h6
  obtain ⟨c1, c2, c3, c4⟩ := zz_cls hc
  refine va_new hx hb hts c2 (zz_ty c) c3 hown (hts _ hl1) (hts _ hl2) (hts _ hl3) hK.1.1 h1.2 (zz_w_D h1.1) h5 (fun q hq => by show G.2.2.1 ≤ q; omega) c1 (fs := zz_fs G c (fun _ => 0) (fun _ => none)) (fun j hj => ?_) (by have := hm h2; omega) (by omega) hd (fun qv H1 hP1 hD1 hS1 => ?_)
  · unfold vp_V
    rw [List.getD_eq_getElem?_getD, zz_fs_get hj]
    have hall : ∀ c, c < 9 → ∀ j, j < zz_n c → defaultValue (zz_ty c j) = (if zz_r c j = true then .null else .int 0) := by decide +kernel
    rw [hall c hc j hj]
    simp only [zz_fv, Option.map_none, va_rf, Option.getD_some]
  · refine zz_Wsz (fun hsz1 => ?_)
    have hqv := zz_fresh rfl hP1 hD1 h1.1 (by omega) hE
    subst hqv
    have key := kk H1 locs ls ⟨by show E.1 + 1 ≤ 1000; omega, by rw [← zz_nw_eq]; exact hP1⟩ (by show n0 ≤ E.1 + 1; omega) (hm h2) hz hS1 h6
    rw [show (zz_nE E (0, c)).1 - n0 = E.1 - n0 + 1 by show E.1 + 1 - n0 = _; omega] at key
    exact key
theorem zz_newI (S : zz_S G l own cc nL d n0 mcT msT isI rt Qf w) {n : Int32} {N : Nat} (hl : Cond.arrayClass .int ∈ zz_t) (hn : ¬ n < 0) (hN : n.toNatClampNeg = N) (hby : N * componentBytes .int ≤ 536870912) (hE : E.1 < 1000) (hm : n0 ≤ E.1 → E.1 + 1 ≤ n0 + mcT) (hz : z + N ≤ msT) (hd : decode cc pc = .ok (.newarray .int, 2)) (hq : pc + 2 = q) (kk : w q L (.ref E.1 :: st) (z + N) (zz_nE E (1, N)) (zz_nI E im)) : w pc L (.int n :: st) z E im := by
  subst hq
  obtain ⟨p, e, R, s, m, args, below, meth, c0, Q, ⟨hx, hb, hml, hown, hts⟩, hR, hI, hK, hsz, hret, rfl⟩ := S
  intro H locs ls h1 h2 h3 h4 h5 h6
  refine va_newa (atype := .int) (ty := .int) hx hb (hts _ hl) rfl hK.1.1 h1.2 (zz_w_D h1.1) h5 (fun q hq => by show G.2.2.1 ≤ q; omega) (a0 := (N, .inl (fun _ => 0))) (fun _ => rfl) hn hN hby (by have := hm h2; omega) (by omega) hd (fun qv cA H1 hK1 hP1 hD1 hS1 => ?_)
  refine zz_Wsz (fun hsz1 => ?_)
  have hqv := zz_fresh rfl hP1 hD1 h1.1 (by omega) hE
  subst hqv
  have hcA : cA = G.2.1 1 := by
    have a1 := (hK1.2 8 (cA, .int) rfl).2
    have a2 := (hK1.2 1 (G.2.1 1, .int) rfl).2
    exact Option.some.inj ((show s.vm.findClass _ = some cA from a1).symm.trans (show s.vm.findClass _ = some (G.2.1 1) from a2))
  subst hcA
  have key := kk H1 locs ls ⟨by show E.1 + 1 ≤ 1000; omega, by rw [← zz_nw_eq]; exact hP1⟩ (by show n0 ≤ E.1 + 1; omega) (hm h2) hz hS1 h6
  rw [show (zz_nE E (1, N)).1 - n0 = E.1 - n0 + 1 by show E.1 + 1 - n0 = _; omega] at key
  exact key
theorem zz_newZ (S : zz_S G l own cc nL d n0 mcT msT isI rt Qf w) {n : Int32} {N : Nat} (hl : Cond.arrayClass .boolean ∈ zz_t) (hn : ¬ n < 0) (hN : n.toNatClampNeg = N) (hby : N * componentBytes .boolean ≤ 536870912) (hE : E.1 < 1000) (hm : n0 ≤ E.1 → E.1 + 1 ≤ n0 + mcT) (hz : z + N ≤ msT) (hd : decode cc pc = .ok (.newarray .boolean, 2)) (hq : pc + 2 = q) (kk : w q L (.ref E.1 :: st) (z + N) (zz_nE E (2, N)) (zz_nI E im)) : w pc L (.int n :: st) z E im := by
  subst hq
  obtain ⟨p, e, R, s, m, args, below, meth, c0, Q, ⟨hx, hb, hml, hown, hts⟩, hR, hI, hK, hsz, hret, rfl⟩ := S
  intro H locs ls h1 h2 h3 h4 h5 h6
  refine va_newa (atype := .boolean) (ty := .boolean) hx hb (hts _ hl) rfl hK.1.1 h1.2 (zz_w_D h1.1) h5 (fun q hq => by show G.2.2.1 ≤ q; omega) (a0 := (N, .inl (fun _ => 0))) (fun _ => rfl) hn hN hby (by have := hm h2; omega) (by omega) hd (fun qv cA H1 hK1 hP1 hD1 hS1 => ?_)
  refine zz_Wsz (fun hsz1 => ?_)
  have hqv := zz_fresh rfl hP1 hD1 h1.1 (by omega) hE
  subst hqv
  have hcA : cA = G.2.1 2 := by
    have a1 := (hK1.2 8 (cA, .boolean) rfl).2
    have a2 := (hK1.2 2 (G.2.1 2, .boolean) rfl).2
    exact Option.some.inj ((show s.vm.findClass _ = some cA from a1).symm.trans (show s.vm.findClass _ = some (G.2.1 2) from a2))
  subst hcA
  have key := kk H1 locs ls ⟨by show E.1 + 1 ≤ 1000; omega, by rw [← zz_nw_eq]; exact hP1⟩ (by show n0 ≤ E.1 + 1; omega) (hm h2) hz hS1 h6
  rw [show (zz_nE E (2, N)).1 - n0 = E.1 - n0 + 1 by show E.1 + 1 - n0 = _; omega] at key
  exact key
theorem zz_newC (S : zz_S G l own cc nL d n0 mcT msT isI rt Qf w) {n : Int32} {N : Nat} (hl : Cond.arrayClass .char ∈ zz_t) (hn : ¬ n < 0) (hN : n.toNatClampNeg = N) (hby : N * componentBytes .char ≤ 536870912) (hE : E.1 < 1000) (hm : n0 ≤ E.1 → E.1 + 1 ≤ n0 + mcT) (hz : z + N ≤ msT) (hd : decode cc pc = .ok (.newarray .char, 2)) (hq : pc + 2 = q) (kk : w q L (.ref E.1 :: st) (z + N) (zz_nE E (3, N)) (zz_nI E im)) : w pc L (.int n :: st) z E im := by
  subst hq
  obtain ⟨p, e, R, s, m, args, below, meth, c0, Q, ⟨hx, hb, hml, hown, hts⟩, hR, hI, hK, hsz, hret, rfl⟩ := S
  intro H locs ls h1 h2 h3 h4 h5 h6
  refine va_newa (atype := .char) (ty := .char) hx hb (hts _ hl) rfl hK.1.1 h1.2 (zz_w_D h1.1) h5 (fun q hq => by show G.2.2.1 ≤ q; omega) (a0 := (N, .inl (fun _ => 0))) (fun _ => rfl) hn hN hby (by have := hm h2; omega) (by omega) hd (fun qv cA H1 hK1 hP1 hD1 hS1 => ?_)
  refine zz_Wsz (fun hsz1 => ?_)
  have hqv := zz_fresh rfl hP1 hD1 h1.1 (by omega) hE
  subst hqv
  have hcA : cA = G.2.1 3 := by
    have a1 := (hK1.2 8 (cA, .char) rfl).2
    have a2 := (hK1.2 3 (G.2.1 3, .char) rfl).2
    exact Option.some.inj ((show s.vm.findClass _ = some cA from a1).symm.trans (show s.vm.findClass _ = some (G.2.1 3) from a2))
  subst hcA
  have key := kk H1 locs ls ⟨by show E.1 + 1 ≤ 1000; omega, by rw [← zz_nw_eq]; exact hP1⟩ (by show n0 ≤ E.1 + 1; omega) (hm h2) hz hS1 h6
  rw [show (zz_nE E (3, N)).1 - n0 = E.1 - n0 + 1 by show E.1 + 1 - n0 = _; omega] at key
  exact key
theorem zz_newW (S : zz_S G l own cc nL d n0 mcT msT isI rt Qf w) {idx : Nat} {n : Int32} {N : Nat} (hl : Cond.classLink own idx RX6 ∈ zz_t) (hn : ¬ n < 0) (hN : n.toNatClampNeg = N) (hby : N * 4 ≤ 536870912) (hE : E.1 < 1000) (hm : n0 ≤ E.1 → E.1 + 1 ≤ n0 + mcT) (hz : z + N ≤ msT) (hd : decode cc pc = .ok (.anewarray idx, 3)) (hq : pc + 3 = q) (kk : w q L (.ref E.1 :: st) (z + N) (zz_nE E (4, N)) (zz_nI E im)) : w pc L (.int n :: st) z E im := by
  subst hq
  obtain ⟨p, e, R, s, m, args, below, meth, c0, Q, ⟨hx, hb, hml, hown, hts⟩, hR, hI, hK, hsz, hret, rfl⟩ := S
  intro H locs ls h1 h2 h3 h4 h5 h6
  refine va_newq hx hb hown (hts _ hl) hK.1.2.2.1 hK.1.1 h1.2 (zz_w_D h1.1) h5 (fun q hq => by show G.2.2.1 ≤ q; omega) hn hN hby (by have := hm h2; omega) (by omega) hd (fun qv cA H1 hK1 hP1 hD1 hS1 => ?_)
  refine zz_Wsz (fun hsz1 => ?_)
  have hqv := zz_fresh rfl hP1 hD1 h1.1 (by omega) hE
  subst hqv
  have hcA : cA = G.2.1 4 := by
    obtain ⟨_, _, _, _, _, a1⟩ := (hK1.2 8 (cA, .object RX6) rfl).2
    obtain ⟨_, _, _, _, _, a2⟩ := (hK1.2 4 (G.2.1 4, .object RX6) rfl).2
    exact Option.some.inj (a1.symm.trans a2)
  subst hcA
  have key := kk H1 locs ls ⟨by show E.1 + 1 ≤ 1000; omega, by rw [← zz_nw_eq]; exact hP1⟩ (by show n0 ≤ E.1 + 1; omega) (hm h2) hz hS1 h6
  rw [show (zz_nE E (4, N)).1 - n0 = E.1 - n0 + 1 by show E.1 + 1 - n0 = _; omega] at key
  exact key
theorem zz_newK (S : zz_S G l own cc nL d n0 mcT msT isI rt Qf w) {idx : Nat} {n : Int32} {N : Nat} (hl : Cond.classLink own idx RX0 ∈ zz_t) (hn : ¬ n < 0) (hN : n.toNatClampNeg = N) (hby : N * 4 ≤ 536870912) (hE : E.1 < 1000) (hm : n0 ≤ E.1 → E.1 + 1 ≤ n0 + mcT) (hz : z + N ≤ msT) (hd : decode cc pc = .ok (.anewarray idx, 3)) (hq : pc + 3 = q) (kk : w q L (.ref E.1 :: st) (z + N) (zz_nE E (5, N)) (zz_nI E im)) : w pc L (.int n :: st) z E im := by
  subst hq
  obtain ⟨p, e, R, s, m, args, below, meth, c0, Q, ⟨hx, hb, hml, hown, hts⟩, hR, hI, hK, hsz, hret, rfl⟩ := S
  intro H locs ls h1 h2 h3 h4 h5 h6
  refine va_newq hx hb hown (hts _ hl) hK.1.2.2.2.1 hK.1.1 h1.2 (zz_w_D h1.1) h5 (fun q hq => by show G.2.2.1 ≤ q; omega) hn hN hby (by have := hm h2; omega) (by omega) hd (fun qv cA H1 hK1 hP1 hD1 hS1 => ?_)
  refine zz_Wsz (fun hsz1 => ?_)
  have hqv := zz_fresh rfl hP1 hD1 h1.1 (by omega) hE
  subst hqv
  have hcA : cA = G.2.1 5 := by
    obtain ⟨_, _, _, _, _, a1⟩ := (hK1.2 8 (cA, .object RX0) rfl).2
    obtain ⟨_, _, _, _, _, a2⟩ := (hK1.2 5 (G.2.1 5, .object RX0) rfl).2
    exact Option.some.inj (a1.symm.trans a2)
  subst hcA
  have key := kk H1 locs ls ⟨by show E.1 + 1 ≤ 1000; omega, by rw [← zz_nw_eq]; exact hP1⟩ (by show n0 ≤ E.1 + 1; omega) (hm h2) hz hS1 h6
  rw [show (zz_nE E (5, N)).1 - n0 = E.1 - n0 + 1 by show E.1 + 1 - n0 = _; omega] at key
  exact key
theorem zz_newP (S : zz_S G l own cc nL d n0 mcT msT isI rt Qf w) {idx : Nat} {n : Int32} {N : Nat} (hl : Cond.classLink own idx RX4 ∈ zz_t) (hn : ¬ n < 0) (hN : n.toNatClampNeg = N) (hby : N * 4 ≤ 536870912) (hE : E.1 < 1000) (hm : n0 ≤ E.1 → E.1 + 1 ≤ n0 + mcT) (hz : z + N ≤ msT) (hd : decode cc pc = .ok (.anewarray idx, 3)) (hq : pc + 3 = q) (kk : w q L (.ref E.1 :: st) (z + N) (zz_nE E (6, N)) (zz_nI E im)) : w pc L (.int n :: st) z E im := by
  subst hq
  obtain ⟨p, e, R, s, m, args, below, meth, c0, Q, ⟨hx, hb, hml, hown, hts⟩, hR, hI, hK, hsz, hret, rfl⟩ := S
  intro H locs ls h1 h2 h3 h4 h5 h6
  refine va_newq hx hb hown (hts _ hl) hK.1.2.2.2.2.1 hK.1.1 h1.2 (zz_w_D h1.1) h5 (fun q hq => by show G.2.2.1 ≤ q; omega) hn hN hby (by have := hm h2; omega) (by omega) hd (fun qv cA H1 hK1 hP1 hD1 hS1 => ?_)
  refine zz_Wsz (fun hsz1 => ?_)
  have hqv := zz_fresh rfl hP1 hD1 h1.1 (by omega) hE
  subst hqv
  have hcA : cA = G.2.1 6 := by
    obtain ⟨_, _, _, _, _, a1⟩ := (hK1.2 8 (cA, .object RX4) rfl).2
    obtain ⟨_, _, _, _, _, a2⟩ := (hK1.2 6 (G.2.1 6, .object RX4) rfl).2
    exact Option.some.inj (a1.symm.trans a2)
  subst hcA
  have key := kk H1 locs ls ⟨by show E.1 + 1 ≤ 1000; omega, by rw [← zz_nw_eq]; exact hP1⟩ (by show n0 ≤ E.1 + 1; omega) (hm h2) hz hS1 h6
  rw [show (zz_nE E (6, N)).1 - n0 = E.1 - n0 + 1 by show E.1 + 1 - n0 = _; omega] at key
  exact key
theorem zz_newT (S : zz_S G l own cc nL d n0 mcT msT isI rt Qf w) {idx : Nat} {n : Int32} {N : Nat} (hl : Cond.classLink own idx RX5 ∈ zz_t) (hn : ¬ n < 0) (hN : n.toNatClampNeg = N) (hby : N * 4 ≤ 536870912) (hE : E.1 < 1000) (hm : n0 ≤ E.1 → E.1 + 1 ≤ n0 + mcT) (hz : z + N ≤ msT) (hd : decode cc pc = .ok (.anewarray idx, 3)) (hq : pc + 3 = q) (kk : w q L (.ref E.1 :: st) (z + N) (zz_nE E (7, N)) (zz_nI E im)) : w pc L (.int n :: st) z E im := by
  subst hq
  obtain ⟨p, e, R, s, m, args, below, meth, c0, Q, ⟨hx, hb, hml, hown, hts⟩, hR, hI, hK, hsz, hret, rfl⟩ := S
  intro H locs ls h1 h2 h3 h4 h5 h6
  refine va_newq hx hb hown (hts _ hl) hK.1.2.2.2.2.2 hK.1.1 h1.2 (zz_w_D h1.1) h5 (fun q hq => by show G.2.2.1 ≤ q; omega) hn hN hby (by have := hm h2; omega) (by omega) hd (fun qv cA H1 hK1 hP1 hD1 hS1 => ?_)
  refine zz_Wsz (fun hsz1 => ?_)
  have hqv := zz_fresh rfl hP1 hD1 h1.1 (by omega) hE
  subst hqv
  have hcA : cA = G.2.1 7 := by
    obtain ⟨_, _, _, _, _, a1⟩ := (hK1.2 8 (cA, .object RX5) rfl).2
    obtain ⟨_, _, _, _, _, a2⟩ := (hK1.2 7 (G.2.1 7, .object RX5) rfl).2
    exact Option.some.inj (a1.symm.trans a2)
  subst hcA
  have key := kk H1 locs ls ⟨by show E.1 + 1 ≤ 1000; omega, by rw [← zz_nw_eq]; exact hP1⟩ (by show n0 ≤ E.1 + 1; omega) (hm h2) hz hS1 h6
  rw [show (zz_nE E (7, N)).1 - n0 = E.1 - n0 + 1 by show E.1 + 1 - n0 = _; omega] at key
  exact key
end ZH
end
section
/-! ROWS: calls -/
section ZCALL
variable {p : Program} {l : Launch} {e : Env} {R : Room} {s : State} {m : MethodId} {args : Array Value} {below : List Frame} {meth : Method} {c : Code} {H : Heap} {locs : List Loc} {cells slots : Nat} {Q : State → Prop}
variable {pc : Nat} {ls : Array Slot} {rest st0 : List Value} {G : ZG} {E : ZE} {mc ms : Nat} {Qg : Option Value → ZE → ZI → Prop} {a : Array Value}
theorem zz_callK (hr : va_Run p l e R s m args below meth c H locs cells slots mc ms (F0 m pc ls st0) rest (zz_Post G mc E Qg a) (zz_A G)) (hS : va_S (zz_A G) s.heap H locs)
    (kk : ∀ (v : Option Value) (E' : ZE) (im' : ZI) (H1 : Heap) (locs1 : List Loc), E'.1 = E.1 + mc → Qg v E' im' → zz_R G H1 E' im' → va_S (zz_A G) s.heap H1 locs1 → W p l e R s m args below meth c H1 locs1 (cells + mc) (slots + ms) Q (F0 m (pc + 3) ls ((v.map (zz_v G)).toList ++ rest))) :
    W p l e R s m args below meth c H locs cells slots Q (F0 m pc ls st0) := by
  intro T hT X
  obtain ⟨v, st₀, t, T', L, h0, X', hL, e1, e2, ⟨⟨u, E', im', hv, hE', hR', hq⟩, hz, hk⟩, st⟩ := hr T hT X
  cases hv
  rw [h0] at hz hk
  obtain ⟨t2, a1, b1⟩ := kk u E' im' T'.heap (locs ++ L) hE' hq (by rw [e1]; exact hR')
    ⟨Nat.le_trans hS.1 (by rw [e1]; exact hz), fun q h1 h2 => by rw [e1, hk q (Nat.lt_of_lt_of_le h1 hS.1) h2]; exact hS.2.1 q h1 h2, fun q hq => by
      rcases List.mem_append.mp hq with h | h
      · exact hS.2.2 q h
      · exact hL q h⟩ T' rfl X'
  exact ⟨t2, st t2 a1, b1⟩
end ZCALL
/-- what the tables say of a method -/
def zz_Y (y : ZY) (n : Nat) : Prop := Cond.initialized y.1.cls ∈ zz_t ∧ Cond.code y.1 y.2.1 y.2.2.1 y.2.2.2 ∈ zz_t ∧ (y.1.cls ≠ "java/lang/invoke/MethodHandle" ∧ y.1.cls ≠ "java/lang/invoke/VarHandle" ∧ (parseMethodDescriptor y.1.desc).map (fun d => d.parameters.length) = some n) ∧ y.2.2.1 ≤ 17
def zz_YV (y : ZY) (n : Nat) : Prop := zz_Y y n ∧ Cond.instanceMethod y.1 ∈ zz_t ∧ Cond.selects y.1.cls y.1 y.1 ∈ zz_t
def zz_YS (y : ZY) (n : Nat) : Prop := zz_Y y n ∧ Cond.static y.1 ∈ zz_t
def zz_YI (y : ZY) (n : Nat) : Prop := zz_Y y n ∧ Cond.instanceMethod y.1 ∈ zz_t ∧ y.1.name = "<init>" ∧ y.2.2.2 = none
theorem zz_blind {G : ZG} {as : List Value} {E : ZE} {im : ZI} : FrameBlind (zz_Pre G as E im) := fun _ _ _ _ h => ⟨h.1, h.2.1, zz_K.call h.2.2.1, h.2.2.2⟩
theorem zz_rev {G : ZG} {as rest st : List Value} {v : Value} (h : as.reverse ++ v :: rest = st) : st.map (zz_v G) = (as.map (zz_v G)).reverse ++ zz_v G v :: rest.map (zz_v G) := by
  rw [← h, List.map_append, List.map_cons, List.map_reverse]
theorem zz_revS {G : ZG} {as rest st : List Value} (h : as.reverse ++ rest = st) : st.map (zz_v G) = (as.map (zz_v G)).reverse ++ rest.map (zz_v G) := by
  rw [← h, List.map_append, List.map_reverse]
theorem zz_tl {G : ZG} {rest : List Value} (v : Option Value) : (v.map (zz_v G)).toList ++ rest.map (zz_v G) = (v.toList ++ rest).map (zz_v G) := by
  cases v <;> rfl
section ZC
variable {G : ZG} {l : Launch} {own : String} {cc : ByteArray} {nL d n0 mcT msT : Nat} {isI : Bool} {rt : Option FieldType} {Qf : Option Value → ZE → ZI → Prop} {w : Nat → ZL → List Value → Nat → ZE → ZI → Prop}
variable {pc q t : Nat} {L L' : ZL} {st rest as : List Value} {z : Nat} {E : ZE} {im : ZI} {idx d2 mc ms : Nat} {y : ZY} {Qg : Option Value → ZE → ZI → Prop}
theorem zz_virt {ci k : Nat} (S : zz_S G l own cc nL d n0 mcT msT isI rt Qf w) (hy : zz_YV y as.length) (hlk : Cond.methodLink own idx y.1 ∈ zz_t) (hci : ci < 9) (hcn : zz_cn ci = y.1.cls) (hO : zz_O G l d2 y (.ref k :: as) E im mc ms Qg) (hdd : d2 + 1 ≤ d) (hk : k < E.1) (hkd : E.2.1 k = (0, ci))
    (hm : E.1 ≤ n0 + mcT → E.1 + mc ≤ n0 + mcT) (hz : z ≤ msT → z + ms ≤ msT) (hrs : (rest.map fun v => v.category).sum ≤ 8) (hst : as.reverse ++ .ref k :: rest = st) (hd : decode cc pc = .ok (.invokevirtual idx, 3)) (hq : pc + 3 = q)
    (kk : ∀ (v : Option Value) (E' : ZE) (im' : ZI), E'.1 = E.1 + mc → Qg v E' im' → w q L (v.toList ++ rest) (z + ms) E' im') : w pc L st z E im := by
  subst hq
  obtain ⟨p, e, R, s, m, args, below, meth, c0, Q, hfix, hR, hI, hK, hsz, hret, rfl⟩ := S
  intro H locs ls h1 h2 h3 h4 h5 h6
  have hfix' := hfix
  obtain ⟨hx, hb, hml, hown, hts⟩ := hfix
  obtain ⟨⟨y1, y2, y3, y4⟩, y5, y6⟩ := hy
  refine zz_Wsz (fun hs1 => ?_)
  have hs2 := zz_top h1 h2 h5 hsz
  have hn : n0 ≤ E.1 := h2
  rw [zz_rev hst]
  refine zz_callK (va_runV (ws := .code y.1 y.2.1 y.2.2.1 y.2.2.2 :: zz_t) (rm := zz_rm d2 mc ms) (bytes := y.2.1) (maxL := y.2.2.1) (ret := y.2.2.2) (n := as.length) (C := y.1.cls) (index := idx) (b := zz_b G k) (As := as.map (zz_v G)) (rest := rest.map (zz_v G)) hfix' hO
    ⟨callB_of as.length hts (zz_goodIn y2) rfl rfl rfl (hts _ y1) (hts _ hlk) y3 ⟨by show d2 + 1 ≤ R.frames; omega, by show 8 + (y.2.2.1 + 11) + 36 * d2 ≤ R.locals; omega⟩, hts _ y5, hts _ y6⟩
    ⟨zz_blind, ?_, fun U hU hW => ⟨rfl, by rw [hU]; exact h1, zz_K.warm hK h5 hU hW, by rw [hU]; omega⟩⟩
    rfl (by rw [List.length_map]) h6.1.1 rfl (lv_room (by rw [zz_sum]; exact hrs)) hd ⟨by have := hm h3; omega, by have := hz h4; omega⟩) h5 (fun v E' im' H1 locs1 g1 g2 g3 g4 => ?_)
  · have hv := va_recv hK.1.1 h1.2 (zz_cls hci).1 (zz_w_obj hk hkd)
    obtain ⟨cell, v1, v2, v3⟩ := hv
    exact ⟨cell, v1, v2, by rw [← hcn]; exact v3⟩
  · have key := kk v E' im' g1 g2 H1 locs1 ls g3 (by omega) (by have := hm h3; omega) (hz h4) g4 h6
    rw [zz_tl, show E.1 - n0 + mc = E'.1 - n0 by omega]
    exact key
theorem zz_stat (S : zz_S G l own cc nL d n0 mcT msT isI rt Qf w) (hy : zz_YS y as.length) (hlk : Cond.methodLink own idx y.1 ∈ zz_t) (hO : zz_O G l d2 y as E im mc ms Qg) (hdd : d2 + 1 ≤ d)
    (hm : E.1 ≤ n0 + mcT → E.1 + mc ≤ n0 + mcT) (hz : z ≤ msT → z + ms ≤ msT) (hrs : (rest.map fun v => v.category).sum ≤ 8) (hst : as.reverse ++ rest = st) (hd : decode cc pc = .ok (.invokestatic idx, 3)) (hq : pc + 3 = q)
    (kk : ∀ (v : Option Value) (E' : ZE) (im' : ZI), E'.1 = E.1 + mc → Qg v E' im' → w q L (v.toList ++ rest) (z + ms) E' im') : w pc L st z E im := by
  subst hq
  obtain ⟨p, e, R, s, m, args, below, meth, c0, Q, hfix, hR, hI, hK, hsz, hret, rfl⟩ := S
  intro H locs ls h1 h2 h3 h4 h5 h6
  have hfix' := hfix
  obtain ⟨hx, hb, hml, hown, hts⟩ := hfix
  obtain ⟨⟨y1, y2, y3, y4⟩, y5⟩ := hy
  refine zz_Wsz (fun hs1 => ?_)
  have hs2 := zz_top h1 h2 h5 hsz
  have hn : n0 ≤ E.1 := h2
  rw [zz_revS hst]
  refine zz_callK (va_runS (ws := .code y.1 y.2.1 y.2.2.1 y.2.2.2 :: zz_t) (rm := zz_rm d2 mc ms) (bytes := y.2.1) (maxL := y.2.2.1) (ret := y.2.2.2) (n := as.length) (index := idx) (As := as.map (zz_v G)) (rest := rest.map (zz_v G)) hfix' hO
    ⟨callB_of as.length hts (zz_goodIn y2) rfl rfl rfl (hts _ y1) (hts _ hlk) y3 ⟨by show d2 + 1 ≤ R.frames; omega, by show 8 + (y.2.2.1 + 11) + 36 * d2 ≤ R.locals; omega⟩, hts _ y5⟩
    ⟨zz_blind, fun U hU hW => ⟨rfl, by rw [hU]; exact h1, zz_K.warm hK h5 hU hW, by rw [hU]; omega⟩⟩
    rfl (by rw [List.length_map]) h6.1.1 rfl (lv_room (by rw [zz_sum]; exact hrs)) hd ⟨by have := hm h3; omega, by have := hz h4; omega⟩) h5 (fun v E' im' H1 locs1 g1 g2 g3 g4 => ?_)
  have key := kk v E' im' g1 g2 H1 locs1 ls g3 (by omega) (by have := hm h3; omega) (hz h4) g4 h6
  rw [zz_tl, show E.1 - n0 + mc = E'.1 - n0 by omega]
  exact key
/-- a static method of a nest mate -/
theorem zz_statN {host : String} (S : zz_S G l own cc nL d n0 mcT msT isI rt Qf w) (hy : zz_YS y as.length) (hlk : Cond.methodLinkNest own idx y.1 host ∈ zz_nw) (hO : zz_O G l d2 y as E im mc ms Qg) (hdd : d2 + 1 ≤ d)
    (hm : E.1 ≤ n0 + mcT → E.1 + mc ≤ n0 + mcT) (hz : z ≤ msT → z + ms ≤ msT) (hrs : (rest.map fun v => v.category).sum ≤ 8) (hst : as.reverse ++ rest = st) (hd : decode cc pc = .ok (.invokestatic idx, 3)) (hq : pc + 3 = q)
    (kk : ∀ (v : Option Value) (E' : ZE) (im' : ZI), E'.1 = E.1 + mc → Qg v E' im' → w q L (v.toList ++ rest) (z + ms) E' im') : w pc L st z E im := by
  subst hq
  obtain ⟨p, e, R, s, m, args, below, meth, c0, Q, hfix, hR, hI, hK, hsz, hret, rfl⟩ := S
  intro H locs ls h1 h2 h3 h4 h5 h6
  have hfix' := hfix
  obtain ⟨hx, hb, hml, hown, hts⟩ := hfix
  obtain ⟨⟨y1, y2, y3, y4⟩, y5⟩ := hy
  refine zz_Wsz (fun hs1 => ?_)
  have hs2 := zz_top h1 h2 h5 hsz
  have hn : n0 ≤ E.1 := h2
  rw [zz_revS hst]
  refine zz_callK (va_runSN (ws := .code y.1 y.2.1 y.2.2.1 y.2.2.2 :: zz_t) (rm := zz_rm d2 mc ms) (bytes := y.2.1) (maxL := y.2.2.1) (ret := y.2.2.2) (n := as.length) (index := idx) (host := host) (As := as.map (zz_v G)) (rest := rest.map (zz_v G)) hfix' hO
    ⟨va_cnB as.length hts (zz_goodIn y2) rfl rfl rfl (hK.1.2.1 _ hlk) (hts _ y1) y3 ⟨by show d2 + 1 ≤ R.frames; omega, by show 8 + (y.2.2.1 + 11) + 36 * d2 ≤ R.locals; omega⟩, hts _ y5, trivial⟩
    ⟨zz_blind, fun U hU hW => ⟨rfl, by rw [hU]; exact h1, zz_K.warm hK h5 hU hW, by rw [hU]; omega⟩⟩
    rfl (by rw [List.length_map]) h6.1.1 rfl (lv_room (by rw [zz_sum]; exact hrs)) hd ⟨by have := hm h3; omega, by have := hz h4; omega⟩) h5 (fun v E' im' H1 locs1 g1 g2 g3 g4 => ?_)
  have key := kk v E' im' g1 g2 H1 locs1 ls g3 (by omega) (by have := hm h3; omega) (hz h4) g4 h6
  rw [zz_tl, show E.1 - n0 + mc = E'.1 - n0 by omega]
  exact key
/-- a constructor -/
theorem zz_init {k : Nat} (S : zz_S G l own cc nL d n0 mcT msT isI rt Qf w) (hy : zz_YI y as.length) (hlk : Cond.methodLink own idx y.1 ∈ zz_t) (hO : zz_O G l d2 y (.ref k :: as) E im mc ms Qg) (hdd : d2 + 1 ≤ d)
    (hm : E.1 ≤ n0 + mcT → E.1 + mc ≤ n0 + mcT) (hz : z ≤ msT → z + ms ≤ msT) (hrs : (rest.map fun v => v.category).sum ≤ 8) (hst : as.reverse ++ .ref k :: rest = st) (hd : decode cc pc = .ok (.invokespecial idx, 3)) (hq : pc + 3 = q)
    (kk : ∀ (v : Option Value) (E' : ZE) (im' : ZI), E'.1 = E.1 + mc → Qg v E' im' → w q L (v.toList ++ rest) (z + ms) E' im') : w pc L st z E im := by
  subst hq
  obtain ⟨p, e, R, s, m, args, below, meth, c0, Q, hfix, hR, hI, hK, hsz, hret, rfl⟩ := S
  intro H locs ls h1 h2 h3 h4 h5 h6
  have hfix' := hfix
  obtain ⟨hx, hb, hml, hown, hts⟩ := hfix
  obtain ⟨⟨y1, y2, y3, y4⟩, y5, y6, y7⟩ := hy
  refine zz_Wsz (fun hs1 => ?_)
  have hs2 := zz_top h1 h2 h5 hsz
  have hn : n0 ≤ E.1 := h2
  rw [zz_rev hst]
  rw [y7] at y2
  refine zz_callK (va_runI (ws := .code y.1 y.2.1 y.2.2.1 y.2.2.2 :: zz_t) (rm := zz_rm d2 mc ms) (bytes := y.2.1) (maxL := y.2.2.1) (n := as.length) (index := idx) (b := zz_b G k) (As := as.map (zz_v G)) (rest := rest.map (zz_v G)) hfix' hO
    ⟨callB_of (ws' := zz_t) as.length hts (by rw [y7]; exact zz_goodIn y2) (by rw [y7]) rfl rfl (hts _ y1) (hts _ hlk) y3 ⟨by show d2 + 1 ≤ R.frames; omega, by show 8 + (y.2.2.1 + 11) + 36 * d2 ≤ R.locals; omega⟩, y6, hts _ y5⟩
    ⟨zz_blind, fun U hU hW => ⟨rfl, by rw [hU]; exact h1, zz_K.warm hK h5 hU hW, by rw [hU]; omega⟩⟩
    rfl (by rw [List.length_map]) h6.1.1 rfl (lv_room (by rw [zz_sum]; exact hrs)) hd ⟨by have := hm h3; omega, by have := hz h4; omega⟩) h5 (fun v E' im' H1 locs1 g1 g2 g3 g4 => ?_)
  have key := kk v E' im' g1 g2 H1 locs1 ls g3 (by omega) (by have := hm h3; omega) (hz h4) g4 h6
  rw [zz_tl, show E.1 - n0 + mc = E'.1 - n0 by omega]
  exact key
theorem zz_initN {k : Nat} {host : String} (S : zz_S G l own cc nL d n0 mcT msT isI rt Qf w) (hy : zz_YI y as.length) (hlk : Cond.methodLinkNest own idx y.1 host ∈ zz_nw) (hO : zz_O G l d2 y (.ref k :: as) E im mc ms Qg) (hdd : d2 + 1 ≤ d)
    (hm : E.1 ≤ n0 + mcT → E.1 + mc ≤ n0 + mcT) (hz : z ≤ msT → z + ms ≤ msT) (hrs : (rest.map fun v => v.category).sum ≤ 8) (hst : as.reverse ++ .ref k :: rest = st) (hd : decode cc pc = .ok (.invokespecial idx, 3)) (hq : pc + 3 = q)
    (kk : ∀ (v : Option Value) (E' : ZE) (im' : ZI), E'.1 = E.1 + mc → Qg v E' im' → w q L (v.toList ++ rest) (z + ms) E' im') : w pc L st z E im := by
  subst hq
  obtain ⟨p, e, R, s, m, args, below, meth, c0, Q, hfix, hR, hI, hK, hsz, hret, rfl⟩ := S
  intro H locs ls h1 h2 h3 h4 h5 h6
  have hfix' := hfix
  obtain ⟨hx, hb, hml, hown, hts⟩ := hfix
  obtain ⟨⟨y1, y2, y3, y4⟩, y5, y6, y7⟩ := hy
  refine zz_Wsz (fun hs1 => ?_)
  have hs2 := zz_top h1 h2 h5 hsz
  have hn : n0 ≤ E.1 := h2
  rw [zz_rev hst]
  rw [y7] at y2
  refine zz_callK (va_runIN (ws := .code y.1 y.2.1 y.2.2.1 y.2.2.2 :: zz_t) (rm := zz_rm d2 mc ms) (bytes := y.2.1) (maxL := y.2.2.1) (n := as.length) (index := idx) (host := host) (b := zz_b G k) (As := as.map (zz_v G)) (rest := rest.map (zz_v G)) hfix' hO
    ⟨va_cnB (ws' := zz_t) as.length hts (by rw [y7]; exact zz_goodIn y2) (by rw [y7]) rfl rfl (hK.1.2.1 _ hlk) (hts _ y1) y3 ⟨by show d2 + 1 ≤ R.frames; omega, by show 8 + (y.2.2.1 + 11) + 36 * d2 ≤ R.locals; omega⟩, y6, hts _ y5⟩
    ⟨zz_blind, fun U hU hW => ⟨rfl, by rw [hU]; exact h1, zz_K.warm hK h5 hU hW, by rw [hU]; omega⟩⟩
    rfl (by rw [List.length_map]) h6.1.1 rfl (lv_room (by rw [zz_sum]; exact hrs)) hd ⟨by have := hm h3; omega, by have := hz h4; omega⟩) h5 (fun v E' im' H1 locs1 g1 g2 g3 g4 => ?_)
  have key := kk v E' im' g1 g2 H1 locs1 ls g3 (by omega) (by have := hm h3; omega) (hz h4) g4 h6
  rw [zz_tl, show E.1 - n0 + mc = E'.1 - n0 by omega]
  exact key
theorem zz_obj {k : Nat} (S : zz_S G l own cc nL d n0 mcT msT isI rt Qf w) (hlk : Cond.methodLink own idx objectInit ∈ zz_t) (hin : Cond.instanceMethod objectInit ∈ zz_t) (hco : Cond.code objectInit ⟨#[0xb1]⟩ 1 none ∈ zz_t) (hdd : 1 ≤ d) (hrs : (rest.map fun v => v.category).sum ≤ 8) (hd : decode cc pc = .ok (.invokespecial idx, 3)) (hq : pc + 3 = q)
    (kk : w q L rest z E im) : w pc L (.ref k :: rest) z E im := by
  subst hq
  obtain ⟨p, e, R, s, m, args, below, meth, c0, Q, ⟨hx, hb, hml, hown, hts⟩, hR, hI, hK, hsz, hret, rfl⟩ := S
  intro H locs ls h1 h2 h3 h4 h5 h6
  refine W.objInit hx hb hown (hts _ hlk) (hts _ hin) (hts _ hco) rfl (by rw [hml]; exact h6.1.1) rfl hd (by omega) ?_ (kk H locs ls h1 h2 h3 h4 h5 h6)
  have := lv_room (pc := pc) (ls := ls) (m := m) (rest := rest) (st := rest.map (zz_v G)) (by rw [zz_sum]; exact hrs)
  show 2 * 0 + _ + 12 ≤ R.locals
  have e2 : 2 * (F0 m pc ls rest).monitorRoom = 2 * 0 := rfl
  omega
theorem zz_abs {x : Int32} (S : zz_S G l own cc nL d n0 mcT msT isI rt Qf w) (hlk : Cond.methodLink own idx Lib.Math.abs.name ∈ zz_t) (h7 : Cond.static Lib.Math.abs.name ∈ zz_t ∧ Cond.initialized "java/lang/Math" ∈ zz_t ∧ Cond.code Lib.Math.abs.name Lib.Math.abs.code 1 (some .int) ∈ zz_t) (hdd : 1 ≤ d) (hrs : (rest.map fun v => v.category).sum ≤ 8) (hd : decode cc pc = .ok (.invokestatic idx, 3)) (hq : pc + 3 = q)
    (kk : w q L (.int (if 0 ≤ x then x else 0 - x) :: rest) z E im) : w pc L (.int x :: rest) z E im := by
  subst hq
  obtain ⟨p, e, R, s, m, args, below, meth, c0, Q, ⟨hx, hb, hml, hown, hts⟩, hR, hI, hK, hsz, hret, rfl⟩ := S
  intro H locs ls h1 h2 h3 h4 h5 h6
  exact va_mabs hx hb (by rw [hml]; exact h6.1.1.symm) hown (hts _ hlk) (hts _ h7.1) (hts _ h7.2.1) (hts _ h7.2.2) (by omega) (by rw [zz_sum]; omega) (by omega) (by omega) hd (kk H locs ls h1 h2 h3 h4 h5 h6)
theorem zz_min {x y : Int32} (S : zz_S G l own cc nL d n0 mcT msT isI rt Qf w) (hlk : Cond.methodLink own idx Lib.Math.min.name ∈ zz_t) (h7 : Cond.static Lib.Math.min.name ∈ zz_t ∧ Cond.initialized "java/lang/Math" ∈ zz_t ∧ Cond.code Lib.Math.min.name Lib.Math.min.code 2 (some .int) ∈ zz_t) (hdd : 1 ≤ d) (hrs : (rest.map fun v => v.category).sum ≤ 8) (hd : decode cc pc = .ok (.invokestatic idx, 3)) (hq : pc + 3 = q)
    (kk : w q L (.int (if y < x then y else x) :: rest) z E im) : w pc L (.int y :: .int x :: rest) z E im := by
  subst hq
  obtain ⟨p, e, R, s, m, args, below, meth, c0, Q, ⟨hx, hb, hml, hown, hts⟩, hR, hI, hK, hsz, hret, rfl⟩ := S
  intro H locs ls h1 h2 h3 h4 h5 h6
  exact va_mmin hx hb (by rw [hml]; exact h6.1.1.symm) hown (hts _ hlk) (hts _ h7.1) (hts _ h7.2.1) (hts _ h7.2.2) (by omega) (by rw [zz_sum]; omega) (by omega) (by omega) hd (kk H locs ls h1 h2 h3 h4 h5 h6)
/-- the memory with a part of a row of ints copied -/
def zz_cp (im : ZI) (a b : Nat) (sp dp n : Nat) : ZI := fun k => if k = b then va_cpy (im a) (im b) sp dp n else im k
theorem zz_copy {a b na nb : Nat} {sp dp n : Int32} (S : zz_S G l own cc nL d n0 mcT msT isI rt Qf w) (hlk : Cond.methodLink own idx arraycopyName ∈ zz_t) (h7 : Cond.native arraycopyName ∈ zz_t ∧ Cond.static arraycopyName ∈ zz_t ∧ Cond.initialized "java/lang/System" ∈ zz_t) (hdd : 2 ≤ d) (hrs : (rest.map fun v => v.category).sum ≤ 8)
    (hka : a < E.1) (hkb : b < E.1) (hkda : E.2.1 a = (1, na)) (hkdb : E.2.1 b = (1, nb)) (g1 : ¬ sp < 0) (g2 : ¬ dp < 0) (g3 : ¬ n < 0) (g4 : sp.toNatClampNeg + n.toNatClampNeg ≤ na) (g5 : dp.toNatClampNeg + n.toNatClampNeg ≤ nb) (hd : decode cc pc = .ok (.invokestatic idx, 3)) (hq : pc + 3 = q)
    (kk : w q L rest z E (zz_cp im a b sp.toNatClampNeg dp.toNatClampNeg n.toNatClampNeg)) : w pc L (.int n :: .int dp :: .ref b :: .int sp :: .ref a :: rest) z E im := by
  subst hq
  obtain ⟨p, e, R, s, m, args, below, meth, c0, Q, ⟨hx, hb, hml, hown, hts⟩, hR, hI, hK, hsz, hret, rfl⟩ := S
  intro H locs ls h1 h2 h3 h4 h5 h6
  have hnw : nativeFrameWords "java/lang/System" "arraycopy" 5 ≤ 50 := by decide +kernel
  refine va_copyi hx hb (by rw [hml]; exact h6.1.1.symm) hown (hts _ hlk) (hts _ h7.1) (hts _ h7.2.1) (hts _ h7.2.2) hK.1.1 h1.2 (zz_w_D h1.1) h5 a b 1 1 (zz_w_ints hka hkda (by decide) (by decide)) (zz_w_ints hkb hkdb (by decide) (by decide)) rfl rfl rfl g1 g2 g3 g4 g5 (fun _ _ => rfl) (by omega) (by rw [zz_sum]; omega) hd (fun H1 locs1 hP1 hD1 hS1 => ?_)
  have e1 := zz_w_set (G := G) (E := E) (E' := E) (im := im) (im' := zz_cp im a b sp.toNatClampNeg dp.toNatClampNeg n.toNatClampNeg) (q := b) rfl hkb (fun _ _ => rfl) (fun _ h => if_neg h) (fun _ _ => rfl)
  have e2 : zz_cp im a b sp.toNatClampNeg dp.toNatClampNeg n.toNatClampNeg b = va_cpy (im a) (im b) sp.toNatClampNeg dp.toNatClampNeg n.toNatClampNeg := if_pos rfl
  rw [hkdb, e2] at e1
  exact kk H1 locs1 ls ⟨h1.1, by rw [← e1]; exact hP1⟩ h2 h3 h4 hS1 h6
end ZC
end
