theorem dX4_init_0 : decode cX4_init 0 = .ok (.aload_n 0, 1) := by decide +kernel
theorem dX4_init_1 : decode cX4_init 1 = .ok (.invokespecial 3, 3) := by decide +kernel
theorem dX4_init_4 : decode cX4_init 4 = .ok (.aload_n 0, 1) := by decide +kernel
theorem dX4_init_5 : decode cX4_init 5 = .ok (.bipush 6, 2) := by decide +kernel
theorem dX4_init_7 : decode cX4_init 7 = .ok (.anewarray 9, 3) := by decide +kernel
theorem dX4_init_10 : decode cX4_init 10 = .ok (.putfield 11, 3) := by decide +kernel
theorem dX4_init_13 : decode cX4_init 13 = .ok (.aload_n 0, 1) := by decide +kernel
theorem dX4_init_14 : decode cX4_init 14 = .ok (.bipush 12, 2) := by decide +kernel
theorem dX4_init_16 : decode cX4_init 16 = .ok (.newarray .int, 2) := by decide +kernel
theorem dX4_init_18 : decode cX4_init 18 = .ok (.putfield 17, 3) := by decide +kernel
theorem dX4_init_21 : decode cX4_init 21 = .ok (.aload_n 0, 1) := by decide +kernel
theorem dX4_init_22 : decode cX4_init 22 = .ok (.iconst 4, 1) := by decide +kernel
theorem dX4_init_23 : decode cX4_init 23 = .ok (.newarray .int, 2) := by decide +kernel
theorem dX4_init_25 : decode cX4_init 25 = .ok (.putfield 21, 3) := by decide +kernel
theorem dX4_init_28 : decode cX4_init 28 = .ok (.aload_n 0, 1) := by decide +kernel
theorem dX4_init_29 : decode cX4_init 29 = .ok (.bipush 10, 2) := by decide +kernel
theorem dX4_init_31 : decode cX4_init 31 = .ok (.anewarray 24, 3) := by decide +kernel
theorem dX4_init_34 : decode cX4_init 34 = .ok (.putfield 26, 3) := by decide +kernel
theorem dX4_init_37 : decode cX4_init 37 = .ok (.iconst 0, 1) := by decide +kernel
theorem dX4_init_38 : decode cX4_init 38 = .ok (.istore_n 1, 1) := by decide +kernel
theorem dX4_init_39 : decode cX4_init 39 = .ok (.iload_n 1, 1) := by decide +kernel
theorem dX4_init_40 : decode cX4_init 40 = .ok (.bipush 6, 2) := by decide +kernel
theorem dX4_init_42 : decode cX4_init 42 = .ok (.if_icmp .ge 22, 3) := by decide +kernel
theorem dX4_init_45 : decode cX4_init 45 = .ok (.aload_n 0, 1) := by decide +kernel
theorem dX4_init_46 : decode cX4_init 46 = .ok (.getfield 11, 3) := by decide +kernel
theorem dX4_init_49 : decode cX4_init 49 = .ok (.iload_n 1, 1) := by decide +kernel
theorem dX4_init_50 : decode cX4_init 50 = .ok (.new 9, 3) := by decide +kernel
theorem dX4_init_53 : decode cX4_init 53 = .ok (.dup, 1) := by decide +kernel
theorem dX4_init_54 : decode cX4_init 54 = .ok (.invokespecial 30, 3) := by decide +kernel
theorem dX4_init_57 : decode cX4_init 57 = .ok (.aastore, 1) := by decide +kernel
theorem dX4_init_58 : decode cX4_init 58 = .ok (.iinc 1 1, 3) := by decide +kernel
theorem dX4_init_61 : decode cX4_init 61 = .ok (.goto (-22), 3) := by decide +kernel
theorem dX4_init_64 : decode cX4_init 64 = .ok (.iconst 0, 1) := by decide +kernel
theorem dX4_init_65 : decode cX4_init 65 = .ok (.istore_n 1, 1) := by decide +kernel
theorem dX4_init_66 : decode cX4_init 66 = .ok (.iload_n 1, 1) := by decide +kernel
theorem dX4_init_67 : decode cX4_init 67 = .ok (.bipush 10, 2) := by decide +kernel
theorem dX4_init_69 : decode cX4_init 69 = .ok (.if_icmp .ge 22, 3) := by decide +kernel
theorem dX4_init_72 : decode cX4_init 72 = .ok (.aload_n 0, 1) := by decide +kernel
theorem dX4_init_73 : decode cX4_init 73 = .ok (.getfield 26, 3) := by decide +kernel
theorem dX4_init_76 : decode cX4_init 76 = .ok (.iload_n 1, 1) := by decide +kernel
theorem dX4_init_77 : decode cX4_init 77 = .ok (.new 24, 3) := by decide +kernel
theorem dX4_init_80 : decode cX4_init 80 = .ok (.dup, 1) := by decide +kernel
theorem dX4_init_81 : decode cX4_init 81 = .ok (.invokespecial 31, 3) := by decide +kernel
theorem dX4_init_84 : decode cX4_init 84 = .ok (.aastore, 1) := by decide +kernel
theorem dX4_init_85 : decode cX4_init 85 = .ok (.iinc 1 1, 3) := by decide +kernel
theorem dX4_init_88 : decode cX4_init 88 = .ok (.goto (-22), 3) := by decide +kernel
theorem dX4_init_91 : decode cX4_init 91 = .ok (.iconst 0, 1) := by decide +kernel
theorem dX4_init_92 : decode cX4_init 92 = .ok (.istore_n 1, 1) := by decide +kernel
theorem dX4_init_93 : decode cX4_init 93 = .ok (.iload_n 1, 1) := by decide +kernel
theorem dX4_init_94 : decode cX4_init 94 = .ok (.iconst 4, 1) := by decide +kernel
theorem dX4_init_95 : decode cX4_init 95 = .ok (.if_icmp .ge 20, 3) := by decide +kernel
theorem dX4_init_98 : decode cX4_init 98 = .ok (.aload_n 0, 1) := by decide +kernel
theorem dX4_init_99 : decode cX4_init 99 = .ok (.getfield 21, 3) := by decide +kernel
theorem dX4_init_102 : decode cX4_init 102 = .ok (.iload_n 1, 1) := by decide +kernel
theorem dX4_init_103 : decode cX4_init 103 = .ok (.getstatic 32, 3) := by decide +kernel
theorem dX4_init_106 : decode cX4_init 106 = .ok (.iload_n 1, 1) := by decide +kernel
theorem dX4_init_107 : decode cX4_init 107 = .ok (.iaload, 1) := by decide +kernel
theorem dX4_init_108 : decode cX4_init 108 = .ok (.iastore, 1) := by decide +kernel
theorem dX4_init_109 : decode cX4_init 109 = .ok (.iinc 1 1, 3) := by decide +kernel
theorem dX4_init_112 : decode cX4_init 112 = .ok (.goto (-19), 3) := by decide +kernel
theorem dX4_init_115 : decode cX4_init 115 = .ok (.return_, 1) := by decide +kernel
theorem dX4_copyFrom_0 : decode cX4_copyFrom 0 = .ok (.iconst 0, 1) := by decide +kernel
theorem dX4_copyFrom_1 : decode cX4_copyFrom 1 = .ok (.istore_n 2, 1) := by decide +kernel
theorem dX4_copyFrom_2 : decode cX4_copyFrom 2 = .ok (.iload_n 2, 1) := by decide +kernel
theorem dX4_copyFrom_3 : decode cX4_copyFrom 3 = .ok (.bipush 6, 2) := by decide +kernel
theorem dX4_copyFrom_5 : decode cX4_copyFrom 5 = .ok (.if_icmp .ge 24, 3) := by decide +kernel
theorem dX4_copyFrom_8 : decode cX4_copyFrom 8 = .ok (.aload_n 0, 1) := by decide +kernel
theorem dX4_copyFrom_9 : decode cX4_copyFrom 9 = .ok (.getfield 11, 3) := by decide +kernel
theorem dX4_copyFrom_12 : decode cX4_copyFrom 12 = .ok (.iload_n 2, 1) := by decide +kernel
theorem dX4_copyFrom_13 : decode cX4_copyFrom 13 = .ok (.aaload, 1) := by decide +kernel
theorem dX4_copyFrom_14 : decode cX4_copyFrom 14 = .ok (.aload_n 1, 1) := by decide +kernel
theorem dX4_copyFrom_15 : decode cX4_copyFrom 15 = .ok (.getfield 11, 3) := by decide +kernel
theorem dX4_copyFrom_18 : decode cX4_copyFrom 18 = .ok (.iload_n 2, 1) := by decide +kernel
theorem dX4_copyFrom_19 : decode cX4_copyFrom 19 = .ok (.aaload, 1) := by decide +kernel
theorem dX4_copyFrom_20 : decode cX4_copyFrom 20 = .ok (.invokevirtual 35, 3) := by decide +kernel
theorem dX4_copyFrom_23 : decode cX4_copyFrom 23 = .ok (.iinc 2 1, 3) := by decide +kernel
theorem dX4_copyFrom_26 : decode cX4_copyFrom 26 = .ok (.goto (-24), 3) := by decide +kernel
theorem dX4_copyFrom_29 : decode cX4_copyFrom 29 = .ok (.iconst 0, 1) := by decide +kernel
theorem dX4_copyFrom_30 : decode cX4_copyFrom 30 = .ok (.istore_n 2, 1) := by decide +kernel
theorem dX4_copyFrom_31 : decode cX4_copyFrom 31 = .ok (.iload_n 2, 1) := by decide +kernel
theorem dX4_copyFrom_32 : decode cX4_copyFrom 32 = .ok (.bipush 10, 2) := by decide +kernel
theorem dX4_copyFrom_34 : decode cX4_copyFrom 34 = .ok (.if_icmp .ge 24, 3) := by decide +kernel
theorem dX4_copyFrom_37 : decode cX4_copyFrom 37 = .ok (.aload_n 0, 1) := by decide +kernel
theorem dX4_copyFrom_38 : decode cX4_copyFrom 38 = .ok (.getfield 26, 3) := by decide +kernel
theorem dX4_copyFrom_41 : decode cX4_copyFrom 41 = .ok (.iload_n 2, 1) := by decide +kernel
theorem dX4_copyFrom_42 : decode cX4_copyFrom 42 = .ok (.aaload, 1) := by decide +kernel
theorem dX4_copyFrom_43 : decode cX4_copyFrom 43 = .ok (.aload_n 1, 1) := by decide +kernel
theorem dX4_copyFrom_44 : decode cX4_copyFrom 44 = .ok (.getfield 26, 3) := by decide +kernel
theorem dX4_copyFrom_47 : decode cX4_copyFrom 47 = .ok (.iload_n 2, 1) := by decide +kernel
theorem dX4_copyFrom_48 : decode cX4_copyFrom 48 = .ok (.aaload, 1) := by decide +kernel
theorem dX4_copyFrom_49 : decode cX4_copyFrom 49 = .ok (.invokevirtual 39, 3) := by decide +kernel
theorem dX4_copyFrom_52 : decode cX4_copyFrom 52 = .ok (.iinc 2 1, 3) := by decide +kernel
theorem dX4_copyFrom_55 : decode cX4_copyFrom 55 = .ok (.goto (-24), 3) := by decide +kernel
theorem dX4_copyFrom_58 : decode cX4_copyFrom 58 = .ok (.aload_n 1, 1) := by decide +kernel
theorem dX4_copyFrom_59 : decode cX4_copyFrom 59 = .ok (.getfield 17, 3) := by decide +kernel
theorem dX4_copyFrom_62 : decode cX4_copyFrom 62 = .ok (.iconst 0, 1) := by decide +kernel
theorem dX4_copyFrom_63 : decode cX4_copyFrom 63 = .ok (.aload_n 0, 1) := by decide +kernel
theorem dX4_copyFrom_64 : decode cX4_copyFrom 64 = .ok (.getfield 17, 3) := by decide +kernel
theorem dX4_copyFrom_67 : decode cX4_copyFrom 67 = .ok (.iconst 0, 1) := by decide +kernel
theorem dX4_copyFrom_68 : decode cX4_copyFrom 68 = .ok (.bipush 12, 2) := by decide +kernel
theorem dX4_copyFrom_70 : decode cX4_copyFrom 70 = .ok (.invokestatic 42, 3) := by decide +kernel
theorem dX4_copyFrom_73 : decode cX4_copyFrom 73 = .ok (.aload_n 1, 1) := by decide +kernel
theorem dX4_copyFrom_74 : decode cX4_copyFrom 74 = .ok (.getfield 21, 3) := by decide +kernel
theorem dX4_copyFrom_77 : decode cX4_copyFrom 77 = .ok (.iconst 0, 1) := by decide +kernel
theorem dX4_copyFrom_78 : decode cX4_copyFrom 78 = .ok (.aload_n 0, 1) := by decide +kernel
theorem dX4_copyFrom_79 : decode cX4_copyFrom 79 = .ok (.getfield 21, 3) := by decide +kernel
theorem dX4_copyFrom_82 : decode cX4_copyFrom 82 = .ok (.iconst 0, 1) := by decide +kernel
theorem dX4_copyFrom_83 : decode cX4_copyFrom 83 = .ok (.iconst 4, 1) := by decide +kernel
theorem dX4_copyFrom_84 : decode cX4_copyFrom 84 = .ok (.invokestatic 42, 3) := by decide +kernel
theorem dX4_copyFrom_87 : decode cX4_copyFrom 87 = .ok (.aload_n 0, 1) := by decide +kernel
theorem dX4_copyFrom_88 : decode cX4_copyFrom 88 = .ok (.aload_n 1, 1) := by decide +kernel
theorem dX4_copyFrom_89 : decode cX4_copyFrom 89 = .ok (.getfield 48, 3) := by decide +kernel
theorem dX4_copyFrom_92 : decode cX4_copyFrom 92 = .ok (.putfield 48, 3) := by decide +kernel
theorem dX4_copyFrom_95 : decode cX4_copyFrom 95 = .ok (.aload_n 0, 1) := by decide +kernel
theorem dX4_copyFrom_96 : decode cX4_copyFrom 96 = .ok (.aload_n 1, 1) := by decide +kernel
theorem dX4_copyFrom_97 : decode cX4_copyFrom 97 = .ok (.getfield 52, 3) := by decide +kernel
theorem dX4_copyFrom_100 : decode cX4_copyFrom 100 = .ok (.putfield 52, 3) := by decide +kernel
theorem dX4_copyFrom_103 : decode cX4_copyFrom 103 = .ok (.aload_n 0, 1) := by decide +kernel
theorem dX4_copyFrom_104 : decode cX4_copyFrom 104 = .ok (.aload_n 1, 1) := by decide +kernel
theorem dX4_copyFrom_105 : decode cX4_copyFrom 105 = .ok (.getfield 55, 3) := by decide +kernel
theorem dX4_copyFrom_108 : decode cX4_copyFrom 108 = .ok (.putfield 55, 3) := by decide +kernel
theorem dX4_copyFrom_111 : decode cX4_copyFrom 111 = .ok (.aload_n 0, 1) := by decide +kernel
theorem dX4_copyFrom_112 : decode cX4_copyFrom 112 = .ok (.aload_n 1, 1) := by decide +kernel
theorem dX4_copyFrom_113 : decode cX4_copyFrom 113 = .ok (.getfield 58, 3) := by decide +kernel
theorem dX4_copyFrom_116 : decode cX4_copyFrom 116 = .ok (.putfield 58, 3) := by decide +kernel
theorem dX4_copyFrom_119 : decode cX4_copyFrom 119 = .ok (.return_, 1) := by decide +kernel
theorem dX4_hasWall_0 : decode cX4_hasWall 0 = .ok (.iload_n 1, 1) := by decide +kernel
theorem dX4_hasWall_1 : decode cX4_hasWall 1 = .ok (.ifCond .lt 15, 3) := by decide +kernel
theorem dX4_hasWall_4 : decode cX4_hasWall 4 = .ok (.iload_n 1, 1) := by decide +kernel
theorem dX4_hasWall_5 : decode cX4_hasWall 5 = .ok (.aload_n 0, 1) := by decide +kernel
theorem dX4_hasWall_6 : decode cX4_hasWall 6 = .ok (.getfield 48, 3) := by decide +kernel
theorem dX4_hasWall_9 : decode cX4_hasWall 9 = .ok (.if_icmp .ge 7, 3) := by decide +kernel
theorem dX4_hasWall_12 : decode cX4_hasWall 12 = .ok (.iconst 1, 1) := by decide +kernel
theorem dX4_hasWall_13 : decode cX4_hasWall 13 = .ok (.goto 4, 3) := by decide +kernel
theorem dX4_hasWall_16 : decode cX4_hasWall 16 = .ok (.iconst 0, 1) := by decide +kernel
theorem dX4_hasWall_17 : decode cX4_hasWall 17 = .ok (.ireturn, 1) := by decide +kernel
theorem dX4_hasCommission_0 : decode cX4_hasCommission 0 = .ok (.iload_n 1, 1) := by decide +kernel
theorem dX4_hasCommission_1 : decode cX4_hasCommission 1 = .ok (.ifCond .lt 15, 3) := by decide +kernel
theorem dX4_hasCommission_4 : decode cX4_hasCommission 4 = .ok (.iload_n 1, 1) := by decide +kernel
theorem dX4_hasCommission_5 : decode cX4_hasCommission 5 = .ok (.aload_n 0, 1) := by decide +kernel
theorem dX4_hasCommission_6 : decode cX4_hasCommission 6 = .ok (.getfield 52, 3) := by decide +kernel
theorem dX4_hasCommission_9 : decode cX4_hasCommission 9 = .ok (.if_icmp .ge 7, 3) := by decide +kernel
theorem dX4_hasCommission_12 : decode cX4_hasCommission 12 = .ok (.iconst 1, 1) := by decide +kernel
theorem dX4_hasCommission_13 : decode cX4_hasCommission 13 = .ok (.goto 4, 3) := by decide +kernel
theorem dX4_hasCommission_16 : decode cX4_hasCommission 16 = .ok (.iconst 0, 1) := by decide +kernel
theorem dX4_hasCommission_17 : decode cX4_hasCommission 17 = .ok (.ireturn, 1) := by decide +kernel
theorem dX4_changeCorrection_0 : decode cX4_changeCorrection 0 = .ok (.iload_n 1, 1) := by decide +kernel
theorem dX4_changeCorrection_1 : decode cX4_changeCorrection 1 = .ok (.iconst 0, 1) := by decide +kernel
theorem dX4_changeCorrection_2 : decode cX4_changeCorrection 2 = .ok (.bipush 11, 2) := by decide +kernel
theorem dX4_changeCorrection_4 : decode cX4_changeCorrection 4 = .ok (.invokestatic 61, 3) := by decide +kernel
theorem dX4_changeCorrection_7 : decode cX4_changeCorrection 7 = .ok (.ifCond .eq 14, 3) := by decide +kernel
theorem dX4_changeCorrection_10 : decode cX4_changeCorrection 10 = .ok (.iload_n 2, 1) := by decide +kernel
theorem dX4_changeCorrection_11 : decode cX4_changeCorrection 11 = .ok (.bipush (-20), 2) := by decide +kernel
theorem dX4_changeCorrection_13 : decode cX4_changeCorrection 13 = .ok (.bipush 20, 2) := by decide +kernel
theorem dX4_changeCorrection_15 : decode cX4_changeCorrection 15 = .ok (.invokestatic 61, 3) := by decide +kernel
theorem dX4_changeCorrection_18 : decode cX4_changeCorrection 18 = .ok (.ifCond .ne 6, 3) := by decide +kernel
theorem dX4_changeCorrection_21 : decode cX4_changeCorrection 21 = .ok (.ldc 65, 2) := by decide +kernel
theorem dX4_changeCorrection_23 : decode cX4_changeCorrection 23 = .ok (.ireturn, 1) := by decide +kernel
theorem dX4_changeCorrection_24 : decode cX4_changeCorrection 24 = .ok (.aload_n 0, 1) := by decide +kernel
theorem dX4_changeCorrection_25 : decode cX4_changeCorrection 25 = .ok (.getfield 17, 3) := by decide +kernel
theorem dX4_changeCorrection_28 : decode cX4_changeCorrection 28 = .ok (.iload_n 1, 1) := by decide +kernel
theorem dX4_changeCorrection_29 : decode cX4_changeCorrection 29 = .ok (.iaload, 1) := by decide +kernel
theorem dX4_changeCorrection_30 : decode cX4_changeCorrection 30 = .ok (.istore_n 3, 1) := by decide +kernel
theorem dX4_changeCorrection_31 : decode cX4_changeCorrection 31 = .ok (.aload_n 0, 1) := by decide +kernel
theorem dX4_changeCorrection_32 : decode cX4_changeCorrection 32 = .ok (.getfield 17, 3) := by decide +kernel
theorem dX4_changeCorrection_35 : decode cX4_changeCorrection 35 = .ok (.iload_n 1, 1) := by decide +kernel
theorem dX4_changeCorrection_36 : decode cX4_changeCorrection 36 = .ok (.iload_n 2, 1) := by decide +kernel
theorem dX4_changeCorrection_37 : decode cX4_changeCorrection 37 = .ok (.iastore, 1) := by decide +kernel
theorem dX4_changeCorrection_38 : decode cX4_changeCorrection 38 = .ok (.iload_n 3, 1) := by decide +kernel
theorem dX4_changeCorrection_39 : decode cX4_changeCorrection 39 = .ok (.ireturn, 1) := by decide +kernel
theorem dX4_changeSetting_0 : decode cX4_changeSetting 0 = .ok (.iload_n 1, 1) := by decide +kernel
theorem dX4_changeSetting_1 : decode cX4_changeSetting 1 = .ok (.iconst 0, 1) := by decide +kernel
theorem dX4_changeSetting_2 : decode cX4_changeSetting 2 = .ok (.iconst 3, 1) := by decide +kernel
theorem dX4_changeSetting_3 : decode cX4_changeSetting 3 = .ok (.invokestatic 61, 3) := by decide +kernel
theorem dX4_changeSetting_6 : decode cX4_changeSetting 6 = .ok (.ifCond .eq 20, 3) := by decide +kernel
theorem dX4_changeSetting_9 : decode cX4_changeSetting 9 = .ok (.iload_n 2, 1) := by decide +kernel
theorem dX4_changeSetting_10 : decode cX4_changeSetting 10 = .ok (.getstatic 66, 3) := by decide +kernel
theorem dX4_changeSetting_13 : decode cX4_changeSetting 13 = .ok (.iload_n 1, 1) := by decide +kernel
theorem dX4_changeSetting_14 : decode cX4_changeSetting 14 = .ok (.iaload, 1) := by decide +kernel
theorem dX4_changeSetting_15 : decode cX4_changeSetting 15 = .ok (.getstatic 69, 3) := by decide +kernel
theorem dX4_changeSetting_18 : decode cX4_changeSetting 18 = .ok (.iload_n 1, 1) := by decide +kernel
theorem dX4_changeSetting_19 : decode cX4_changeSetting 19 = .ok (.iaload, 1) := by decide +kernel
theorem dX4_changeSetting_20 : decode cX4_changeSetting 20 = .ok (.invokestatic 61, 3) := by decide +kernel
theorem dX4_changeSetting_23 : decode cX4_changeSetting 23 = .ok (.ifCond .ne 6, 3) := by decide +kernel
theorem dX4_changeSetting_26 : decode cX4_changeSetting 26 = .ok (.ldc 65, 2) := by decide +kernel
theorem dX4_changeSetting_28 : decode cX4_changeSetting 28 = .ok (.ireturn, 1) := by decide +kernel
theorem dX4_changeSetting_29 : decode cX4_changeSetting 29 = .ok (.aload_n 0, 1) := by decide +kernel
theorem dX4_changeSetting_30 : decode cX4_changeSetting 30 = .ok (.getfield 21, 3) := by decide +kernel
theorem dX4_changeSetting_33 : decode cX4_changeSetting 33 = .ok (.iload_n 1, 1) := by decide +kernel
theorem dX4_changeSetting_34 : decode cX4_changeSetting 34 = .ok (.iaload, 1) := by decide +kernel
theorem dX4_changeSetting_35 : decode cX4_changeSetting 35 = .ok (.istore_n 3, 1) := by decide +kernel
theorem dX4_changeSetting_36 : decode cX4_changeSetting 36 = .ok (.aload_n 0, 1) := by decide +kernel
theorem dX4_changeSetting_37 : decode cX4_changeSetting 37 = .ok (.getfield 21, 3) := by decide +kernel
theorem dX4_changeSetting_40 : decode cX4_changeSetting 40 = .ok (.iload_n 1, 1) := by decide +kernel
theorem dX4_changeSetting_41 : decode cX4_changeSetting 41 = .ok (.iload_n 2, 1) := by decide +kernel
theorem dX4_changeSetting_42 : decode cX4_changeSetting 42 = .ok (.iastore, 1) := by decide +kernel
theorem dX4_changeSetting_43 : decode cX4_changeSetting 43 = .ok (.iload_n 3, 1) := by decide +kernel
theorem dX4_changeSetting_44 : decode cX4_changeSetting 44 = .ok (.ireturn, 1) := by decide +kernel
theorem dX4_openWall_0 : decode cX4_openWall 0 = .ok (.aload_n 0, 1) := by decide +kernel
theorem dX4_openWall_1 : decode cX4_openWall 1 = .ok (.getfield 48, 3) := by decide +kernel
theorem dX4_openWall_4 : decode cX4_openWall 4 = .ok (.bipush 6, 2) := by decide +kernel
theorem dX4_openWall_6 : decode cX4_openWall 6 = .ok (.if_icmp .lt 6, 3) := by decide +kernel
theorem dX4_openWall_9 : decode cX4_openWall 9 = .ok (.ldc 72, 2) := by decide +kernel
theorem dX4_openWall_11 : decode cX4_openWall 11 = .ok (.ireturn, 1) := by decide +kernel
theorem dX4_openWall_12 : decode cX4_openWall 12 = .ok (.aload_n 0, 1) := by decide +kernel
theorem dX4_openWall_13 : decode cX4_openWall 13 = .ok (.getfield 11, 3) := by decide +kernel
theorem dX4_openWall_16 : decode cX4_openWall 16 = .ok (.aload_n 0, 1) := by decide +kernel
theorem dX4_openWall_17 : decode cX4_openWall 17 = .ok (.getfield 48, 3) := by decide +kernel
theorem dX4_openWall_20 : decode cX4_openWall 20 = .ok (.aaload, 1) := by decide +kernel
theorem dX4_openWall_21 : decode cX4_openWall 21 = .ok (.astore_n 1, 1) := by decide +kernel
theorem dX4_openWall_22 : decode cX4_openWall 22 = .ok (.aload_n 1, 1) := by decide +kernel
theorem dX4_openWall_23 : decode cX4_openWall 23 = .ok (.ldc 73, 2) := by decide +kernel
theorem dX4_openWall_25 : decode cX4_openWall 25 = .ok (.putfield 74, 3) := by decide +kernel
theorem dX4_openWall_28 : decode cX4_openWall 28 = .ok (.aload_n 1, 1) := by decide +kernel
theorem dX4_openWall_29 : decode cX4_openWall 29 = .ok (.ldc 73, 2) := by decide +kernel
theorem dX4_openWall_31 : decode cX4_openWall 31 = .ok (.putfield 77, 3) := by decide +kernel
theorem dX4_openWall_34 : decode cX4_openWall 34 = .ok (.aload_n 0, 1) := by decide +kernel
theorem dX4_openWall_35 : decode cX4_openWall 35 = .ok (.dup, 1) := by decide +kernel
theorem dX4_openWall_36 : decode cX4_openWall 36 = .ok (.getfield 48, 3) := by decide +kernel
theorem dX4_openWall_39 : decode cX4_openWall 39 = .ok (.iconst 1, 1) := by decide +kernel
theorem dX4_openWall_40 : decode cX4_openWall 40 = .ok (.iadd, 1) := by decide +kernel
theorem dX4_openWall_41 : decode cX4_openWall 41 = .ok (.putfield 48, 3) := by decide +kernel
theorem dX4_openWall_44 : decode cX4_openWall 44 = .ok (.aload_n 0, 1) := by decide +kernel
theorem dX4_openWall_45 : decode cX4_openWall 45 = .ok (.getfield 48, 3) := by decide +kernel
theorem dX4_openWall_48 : decode cX4_openWall 48 = .ok (.iconst 1, 1) := by decide +kernel
theorem dX4_openWall_49 : decode cX4_openWall 49 = .ok (.isub, 1) := by decide +kernel
theorem dX4_openWall_50 : decode cX4_openWall 50 = .ok (.ireturn, 1) := by decide +kernel
theorem dX4_measureWall_0 : decode cX4_measureWall 0 = .ok (.aload_n 0, 1) := by decide +kernel
theorem dX4_measureWall_1 : decode cX4_measureWall 1 = .ok (.iload_n 1, 1) := by decide +kernel
theorem dX4_measureWall_2 : decode cX4_measureWall 2 = .ok (.invokevirtual 80, 3) := by decide +kernel
theorem dX4_measureWall_5 : decode cX4_measureWall 5 = .ok (.ifCond .eq 14, 3) := by decide +kernel
theorem dX4_measureWall_8 : decode cX4_measureWall 8 = .ok (.iload_n 2, 1) := by decide +kernel
theorem dX4_measureWall_9 : decode cX4_measureWall 9 = .ok (.bipush (-60), 2) := by decide +kernel
theorem dX4_measureWall_11 : decode cX4_measureWall 11 = .ok (.bipush 60, 2) := by decide +kernel
theorem dX4_measureWall_13 : decode cX4_measureWall 13 = .ok (.invokestatic 61, 3) := by decide +kernel
theorem dX4_measureWall_16 : decode cX4_measureWall 16 = .ok (.ifCond .ne 6, 3) := by decide +kernel
theorem dX4_measureWall_19 : decode cX4_measureWall 19 = .ok (.ldc 65, 2) := by decide +kernel
theorem dX4_measureWall_21 : decode cX4_measureWall 21 = .ok (.ireturn, 1) := by decide +kernel
theorem dX4_measureWall_22 : decode cX4_measureWall 22 = .ok (.aload_n 0, 1) := by decide +kernel
theorem dX4_measureWall_23 : decode cX4_measureWall 23 = .ok (.getfield 11, 3) := by decide +kernel
theorem dX4_measureWall_26 : decode cX4_measureWall 26 = .ok (.iload_n 1, 1) := by decide +kernel
theorem dX4_measureWall_27 : decode cX4_measureWall 27 = .ok (.aaload, 1) := by decide +kernel
theorem dX4_measureWall_28 : decode cX4_measureWall 28 = .ok (.astore_n 3, 1) := by decide +kernel
theorem dX4_measureWall_29 : decode cX4_measureWall 29 = .ok (.aload_n 3, 1) := by decide +kernel
theorem dX4_measureWall_30 : decode cX4_measureWall 30 = .ok (.aload_n 3, 1) := by decide +kernel
theorem dX4_measureWall_31 : decode cX4_measureWall 31 = .ok (.getfield 74, 3) := by decide +kernel
theorem dX4_measureWall_34 : decode cX4_measureWall 34 = .ok (.putfield 77, 3) := by decide +kernel
theorem dX4_measureWall_37 : decode cX4_measureWall 37 = .ok (.aload_n 3, 1) := by decide +kernel
theorem dX4_measureWall_38 : decode cX4_measureWall 38 = .ok (.iload_n 2, 1) := by decide +kernel
theorem dX4_measureWall_39 : decode cX4_measureWall 39 = .ok (.putfield 74, 3) := by decide +kernel
theorem dX4_measureWall_42 : decode cX4_measureWall 42 = .ok (.aload_n 3, 1) := by decide +kernel
theorem dX4_measureWall_43 : decode cX4_measureWall 43 = .ok (.aload_n 0, 1) := by decide +kernel
theorem dX4_measureWall_44 : decode cX4_measureWall 44 = .ok (.getfield 21, 3) := by decide +kernel
theorem dX4_measureWall_47 : decode cX4_measureWall 47 = .ok (.iconst 0, 1) := by decide +kernel
theorem dX4_measureWall_48 : decode cX4_measureWall 48 = .ok (.iaload, 1) := by decide +kernel
theorem dX4_measureWall_49 : decode cX4_measureWall 49 = .ok (.invokevirtual 84, 3) := by decide +kernel
theorem dX4_measureWall_52 : decode cX4_measureWall 52 = .ok (.ifCond .eq 7, 3) := by decide +kernel
theorem dX4_measureWall_55 : decode cX4_measureWall 55 = .ok (.iconst 1, 1) := by decide +kernel
theorem dX4_measureWall_56 : decode cX4_measureWall 56 = .ok (.goto 4, 3) := by decide +kernel
theorem dX4_measureWall_59 : decode cX4_measureWall 59 = .ok (.iconst 0, 1) := by decide +kernel
theorem dX4_measureWall_60 : decode cX4_measureWall 60 = .ok (.ireturn, 1) := by decide +kernel
theorem dX4_openCommission_0 : decode cX4_openCommission 0 = .ok (.iload_n 1, 1) := by decide +kernel
theorem dX4_openCommission_1 : decode cX4_openCommission 1 = .ok (.bipush 10, 2) := by decide +kernel
theorem dX4_openCommission_3 : decode cX4_openCommission 3 = .ok (.bipush 70, 2) := by decide +kernel
theorem dX4_openCommission_5 : decode cX4_openCommission 5 = .ok (.invokestatic 61, 3) := by decide +kernel
theorem dX4_openCommission_8 : decode cX4_openCommission 8 = .ok (.ifCond .eq 39, 3) := by decide +kernel
theorem dX4_openCommission_11 : decode cX4_openCommission 11 = .ok (.iload_n 2, 1) := by decide +kernel
theorem dX4_openCommission_12 : decode cX4_openCommission 12 = .ok (.iconst (-1), 1) := by decide +kernel
theorem dX4_openCommission_13 : decode cX4_openCommission 13 = .ok (.if_icmp .eq 11, 3) := by decide +kernel
theorem dX4_openCommission_16 : decode cX4_openCommission 16 = .ok (.aload_n 0, 1) := by decide +kernel
theorem dX4_openCommission_17 : decode cX4_openCommission 17 = .ok (.iload_n 2, 1) := by decide +kernel
theorem dX4_openCommission_18 : decode cX4_openCommission 18 = .ok (.invokevirtual 80, 3) := by decide +kernel
theorem dX4_openCommission_21 : decode cX4_openCommission 21 = .ok (.ifCond .eq 26, 3) := by decide +kernel
theorem dX4_openCommission_24 : decode cX4_openCommission 24 = .ok (.iload_n 3, 1) := by decide +kernel
theorem dX4_openCommission_25 : decode cX4_openCommission 25 = .ok (.bipush 10, 2) := by decide +kernel
theorem dX4_openCommission_27 : decode cX4_openCommission 27 = .ok (.bipush 60, 2) := by decide +kernel
theorem dX4_openCommission_29 : decode cX4_openCommission 29 = .ok (.invokestatic 61, 3) := by decide +kernel
theorem dX4_openCommission_32 : decode cX4_openCommission 32 = .ok (.ifCond .eq 15, 3) := by decide +kernel
theorem dX4_openCommission_35 : decode cX4_openCommission 35 = .ok (.iload 4, 2) := by decide +kernel
theorem dX4_openCommission_37 : decode cX4_openCommission 37 = .ok (.bipush (-60), 2) := by decide +kernel
theorem dX4_openCommission_39 : decode cX4_openCommission 39 = .ok (.bipush 60, 2) := by decide +kernel
theorem dX4_openCommission_41 : decode cX4_openCommission 41 = .ok (.invokestatic 61, 3) := by decide +kernel
theorem dX4_openCommission_44 : decode cX4_openCommission 44 = .ok (.ifCond .ne 6, 3) := by decide +kernel
theorem dX4_openCommission_47 : decode cX4_openCommission 47 = .ok (.ldc 65, 2) := by decide +kernel
theorem dX4_openCommission_49 : decode cX4_openCommission 49 = .ok (.ireturn, 1) := by decide +kernel
theorem dX4_openCommission_50 : decode cX4_openCommission 50 = .ok (.aload_n 0, 1) := by decide +kernel
theorem dX4_openCommission_51 : decode cX4_openCommission 51 = .ok (.getfield 52, 3) := by decide +kernel
theorem dX4_openCommission_54 : decode cX4_openCommission 54 = .ok (.bipush 10, 2) := by decide +kernel
theorem dX4_openCommission_56 : decode cX4_openCommission 56 = .ok (.if_icmp .lt 6, 3) := by decide +kernel
theorem dX4_openCommission_59 : decode cX4_openCommission 59 = .ok (.ldc 72, 2) := by decide +kernel
theorem dX4_openCommission_61 : decode cX4_openCommission 61 = .ok (.ireturn, 1) := by decide +kernel
theorem dX4_openCommission_62 : decode cX4_openCommission 62 = .ok (.aload_n 0, 1) := by decide +kernel
theorem dX4_openCommission_63 : decode cX4_openCommission 63 = .ok (.getfield 26, 3) := by decide +kernel
theorem dX4_openCommission_66 : decode cX4_openCommission 66 = .ok (.aload_n 0, 1) := by decide +kernel
theorem dX4_openCommission_67 : decode cX4_openCommission 67 = .ok (.getfield 52, 3) := by decide +kernel
theorem dX4_openCommission_70 : decode cX4_openCommission 70 = .ok (.aaload, 1) := by decide +kernel
theorem dX4_openCommission_71 : decode cX4_openCommission 71 = .ok (.astore 5, 2) := by decide +kernel
theorem dX4_openCommission_73 : decode cX4_openCommission 73 = .ok (.aload 5, 2) := by decide +kernel
theorem dX4_openCommission_75 : decode cX4_openCommission 75 = .ok (.iload_n 1, 1) := by decide +kernel
theorem dX4_openCommission_76 : decode cX4_openCommission 76 = .ok (.putfield 87, 3) := by decide +kernel
theorem dX4_openCommission_79 : decode cX4_openCommission 79 = .ok (.aload 5, 2) := by decide +kernel
theorem dX4_openCommission_81 : decode cX4_openCommission 81 = .ok (.iload_n 2, 1) := by decide +kernel
theorem dX4_openCommission_82 : decode cX4_openCommission 82 = .ok (.putfield 90, 3) := by decide +kernel
theorem dX4_openCommission_85 : decode cX4_openCommission 85 = .ok (.aload 5, 2) := by decide +kernel
theorem dX4_openCommission_87 : decode cX4_openCommission 87 = .ok (.iload_n 3, 1) := by decide +kernel
theorem dX4_openCommission_88 : decode cX4_openCommission 88 = .ok (.putfield 93, 3) := by decide +kernel
theorem dX4_openCommission_91 : decode cX4_openCommission 91 = .ok (.aload 5, 2) := by decide +kernel
theorem dX4_openCommission_93 : decode cX4_openCommission 93 = .ok (.iload 4, 2) := by decide +kernel
theorem dX4_openCommission_95 : decode cX4_openCommission 95 = .ok (.putfield 96, 3) := by decide +kernel
theorem dX4_openCommission_98 : decode cX4_openCommission 98 = .ok (.aload 5, 2) := by decide +kernel
theorem dX4_openCommission_100 : decode cX4_openCommission 100 = .ok (.iconst 0, 1) := by decide +kernel
theorem dX4_openCommission_101 : decode cX4_openCommission 101 = .ok (.putfield 99, 3) := by decide +kernel
theorem dX4_openCommission_104 : decode cX4_openCommission 104 = .ok (.aload 5, 2) := by decide +kernel
theorem dX4_openCommission_106 : decode cX4_openCommission 106 = .ok (.ldc 73, 2) := by decide +kernel
theorem dX4_openCommission_108 : decode cX4_openCommission 108 = .ok (.putfield 102, 3) := by decide +kernel
theorem dX4_openCommission_111 : decode cX4_openCommission 111 = .ok (.aload 5, 2) := by decide +kernel
theorem dX4_openCommission_113 : decode cX4_openCommission 113 = .ok (.ldc 73, 2) := by decide +kernel
theorem dX4_openCommission_115 : decode cX4_openCommission 115 = .ok (.putfield 105, 3) := by decide +kernel
theorem dX4_openCommission_118 : decode cX4_openCommission 118 = .ok (.aload 5, 2) := by decide +kernel
theorem dX4_openCommission_120 : decode cX4_openCommission 120 = .ok (.iconst 0, 1) := by decide +kernel
theorem dX4_openCommission_121 : decode cX4_openCommission 121 = .ok (.putfield 108, 3) := by decide +kernel
theorem dX4_openCommission_124 : decode cX4_openCommission 124 = .ok (.aload_n 0, 1) := by decide +kernel
theorem dX4_openCommission_125 : decode cX4_openCommission 125 = .ok (.dup, 1) := by decide +kernel
theorem dX4_openCommission_126 : decode cX4_openCommission 126 = .ok (.getfield 52, 3) := by decide +kernel
theorem dX4_openCommission_129 : decode cX4_openCommission 129 = .ok (.iconst 1, 1) := by decide +kernel
theorem dX4_openCommission_130 : decode cX4_openCommission 130 = .ok (.iadd, 1) := by decide +kernel
theorem dX4_openCommission_131 : decode cX4_openCommission 131 = .ok (.putfield 52, 3) := by decide +kernel
theorem dX4_openCommission_134 : decode cX4_openCommission 134 = .ok (.aload_n 0, 1) := by decide +kernel
theorem dX4_openCommission_135 : decode cX4_openCommission 135 = .ok (.getfield 52, 3) := by decide +kernel
theorem dX4_openCommission_138 : decode cX4_openCommission 138 = .ok (.iconst 1, 1) := by decide +kernel
theorem dX4_openCommission_139 : decode cX4_openCommission 139 = .ok (.isub, 1) := by decide +kernel
theorem dX4_openCommission_140 : decode cX4_openCommission 140 = .ok (.ireturn, 1) := by decide +kernel
theorem dX4_conclude_0 : decode cX4_conclude 0 = .ok (.aload_n 0, 1) := by decide +kernel
theorem dX4_conclude_1 : decode cX4_conclude 1 = .ok (.iload_n 1, 1) := by decide +kernel
theorem dX4_conclude_2 : decode cX4_conclude 2 = .ok (.invokevirtual 111, 3) := by decide +kernel
theorem dX4_conclude_5 : decode cX4_conclude 5 = .ok (.ifCond .ne 6, 3) := by decide +kernel
theorem dX4_conclude_8 : decode cX4_conclude 8 = .ok (.ldc 65, 2) := by decide +kernel
theorem dX4_conclude_10 : decode cX4_conclude 10 = .ok (.ireturn, 1) := by decide +kernel
theorem dX4_conclude_11 : decode cX4_conclude 11 = .ok (.aload_n 0, 1) := by decide +kernel
theorem dX4_conclude_12 : decode cX4_conclude 12 = .ok (.getfield 26, 3) := by decide +kernel
theorem dX4_conclude_15 : decode cX4_conclude 15 = .ok (.iload_n 1, 1) := by decide +kernel
theorem dX4_conclude_16 : decode cX4_conclude 16 = .ok (.aaload, 1) := by decide +kernel
theorem dX4_conclude_17 : decode cX4_conclude 17 = .ok (.astore_n 3, 1) := by decide +kernel
theorem dX4_conclude_18 : decode cX4_conclude 18 = .ok (.aload_n 3, 1) := by decide +kernel
theorem dX4_conclude_19 : decode cX4_conclude 19 = .ok (.getfield 99, 3) := by decide +kernel
theorem dX4_conclude_22 : decode cX4_conclude 22 = .ok (.ifCond .eq 6, 3) := by decide +kernel
theorem dX4_conclude_25 : decode cX4_conclude 25 = .ok (.ldc 114, 2) := by decide +kernel
theorem dX4_conclude_27 : decode cX4_conclude 27 = .ok (.ireturn, 1) := by decide +kernel
theorem dX4_conclude_28 : decode cX4_conclude 28 = .ok (.iload_n 2, 1) := by decide +kernel
theorem dX4_conclude_29 : decode cX4_conclude 29 = .ok (.ifCond .ne 20, 3) := by decide +kernel
theorem dX4_conclude_32 : decode cX4_conclude 32 = .ok (.aload_n 3, 1) := by decide +kernel
theorem dX4_conclude_33 : decode cX4_conclude 33 = .ok (.aload_n 0, 1) := by decide +kernel
theorem dX4_conclude_34 : decode cX4_conclude 34 = .ok (.iload_n 1, 1) := by decide +kernel
theorem dX4_conclude_35 : decode cX4_conclude 35 = .ok (.invokevirtual 115, 3) := by decide +kernel
theorem dX4_conclude_38 : decode cX4_conclude 38 = .ok (.putfield 102, 3) := by decide +kernel
theorem dX4_conclude_41 : decode cX4_conclude 41 = .ok (.aload_n 3, 1) := by decide +kernel
theorem dX4_conclude_42 : decode cX4_conclude 42 = .ok (.iconst 1, 1) := by decide +kernel
theorem dX4_conclude_43 : decode cX4_conclude 43 = .ok (.putfield 99, 3) := by decide +kernel
theorem dX4_conclude_46 : decode cX4_conclude 46 = .ok (.goto 13, 3) := by decide +kernel
theorem dX4_conclude_49 : decode cX4_conclude 49 = .ok (.aload_n 3, 1) := by decide +kernel
theorem dX4_conclude_50 : decode cX4_conclude 50 = .ok (.iload_n 2, 1) := by decide +kernel
theorem dX4_conclude_51 : decode cX4_conclude 51 = .ok (.putfield 108, 3) := by decide +kernel
theorem dX4_conclude_54 : decode cX4_conclude 54 = .ok (.aload_n 3, 1) := by decide +kernel
theorem dX4_conclude_55 : decode cX4_conclude 55 = .ok (.iconst 4, 1) := by decide +kernel
theorem dX4_conclude_56 : decode cX4_conclude 56 = .ok (.putfield 99, 3) := by decide +kernel
theorem dX4_conclude_59 : decode cX4_conclude 59 = .ok (.iload_n 2, 1) := by decide +kernel
theorem dX4_conclude_60 : decode cX4_conclude 60 = .ok (.ireturn, 1) := by decide +kernel
theorem dX4_reopen_0 : decode cX4_reopen 0 = .ok (.aload_n 0, 1) := by decide +kernel
theorem dX4_reopen_1 : decode cX4_reopen 1 = .ok (.iload_n 1, 1) := by decide +kernel
theorem dX4_reopen_2 : decode cX4_reopen 2 = .ok (.invokevirtual 111, 3) := by decide +kernel
theorem dX4_reopen_5 : decode cX4_reopen 5 = .ok (.ifCond .ne 6, 3) := by decide +kernel
theorem dX4_reopen_8 : decode cX4_reopen 8 = .ok (.ldc 65, 2) := by decide +kernel
theorem dX4_reopen_10 : decode cX4_reopen 10 = .ok (.ireturn, 1) := by decide +kernel
theorem dX4_reopen_11 : decode cX4_reopen 11 = .ok (.aload_n 0, 1) := by decide +kernel
theorem dX4_reopen_12 : decode cX4_reopen 12 = .ok (.getfield 26, 3) := by decide +kernel
theorem dX4_reopen_15 : decode cX4_reopen 15 = .ok (.iload_n 1, 1) := by decide +kernel
theorem dX4_reopen_16 : decode cX4_reopen 16 = .ok (.aaload, 1) := by decide +kernel
theorem dX4_reopen_17 : decode cX4_reopen 17 = .ok (.getfield 99, 3) := by decide +kernel
theorem dX4_reopen_20 : decode cX4_reopen 20 = .ok (.iconst 4, 1) := by decide +kernel
theorem dX4_reopen_21 : decode cX4_reopen 21 = .ok (.if_icmp .eq 6, 3) := by decide +kernel
theorem dX4_reopen_24 : decode cX4_reopen 24 = .ok (.ldc 114, 2) := by decide +kernel
theorem dX4_reopen_26 : decode cX4_reopen 26 = .ok (.ireturn, 1) := by decide +kernel
theorem dX4_reopen_27 : decode cX4_reopen 27 = .ok (.aload_n 0, 1) := by decide +kernel
theorem dX4_reopen_28 : decode cX4_reopen 28 = .ok (.getfield 26, 3) := by decide +kernel
theorem dX4_reopen_31 : decode cX4_reopen 31 = .ok (.iload_n 1, 1) := by decide +kernel
theorem dX4_reopen_32 : decode cX4_reopen 32 = .ok (.aaload, 1) := by decide +kernel
theorem dX4_reopen_33 : decode cX4_reopen 33 = .ok (.iconst 0, 1) := by decide +kernel
theorem dX4_reopen_34 : decode cX4_reopen 34 = .ok (.putfield 99, 3) := by decide +kernel
theorem dX4_reopen_37 : decode cX4_reopen 37 = .ok (.iload_n 2, 1) := by decide +kernel
theorem dX4_reopen_38 : decode cX4_reopen 38 = .ok (.ireturn, 1) := by decide +kernel
theorem dX4_castMelt_0 : decode cX4_castMelt 0 = .ok (.aload_n 0, 1) := by decide +kernel
theorem dX4_castMelt_1 : decode cX4_castMelt 1 = .ok (.aload_n 0, 1) := by decide +kernel
theorem dX4_castMelt_2 : decode cX4_castMelt 2 = .ok (.invokevirtual 119, 3) := by decide +kernel
theorem dX4_castMelt_5 : decode cX4_castMelt 5 = .ok (.invokevirtual 123, 3) := by decide +kernel
theorem dX4_castMelt_8 : decode cX4_castMelt 8 = .ok (.istore_n 1, 1) := by decide +kernel
theorem dX4_castMelt_9 : decode cX4_castMelt 9 = .ok (.iload_n 1, 1) := by decide +kernel
theorem dX4_castMelt_10 : decode cX4_castMelt 10 = .ok (.ifCond .ne 6, 3) := by decide +kernel
theorem dX4_castMelt_13 : decode cX4_castMelt 13 = .ok (.ldc 114, 2) := by decide +kernel
theorem dX4_castMelt_15 : decode cX4_castMelt 15 = .ok (.ireturn, 1) := by decide +kernel
theorem dX4_castMelt_16 : decode cX4_castMelt 16 = .ok (.iconst 0, 1) := by decide +kernel
theorem dX4_castMelt_17 : decode cX4_castMelt 17 = .ok (.istore_n 2, 1) := by decide +kernel
theorem dX4_castMelt_18 : decode cX4_castMelt 18 = .ok (.iload_n 2, 1) := by decide +kernel
theorem dX4_castMelt_19 : decode cX4_castMelt 19 = .ok (.aload_n 0, 1) := by decide +kernel
theorem dX4_castMelt_20 : decode cX4_castMelt 20 = .ok (.getfield 52, 3) := by decide +kernel
theorem dX4_castMelt_23 : decode cX4_castMelt 23 = .ok (.if_icmp .ge 58, 3) := by decide +kernel
theorem dX4_castMelt_26 : decode cX4_castMelt 26 = .ok (.iload_n 1, 1) := by decide +kernel
theorem dX4_castMelt_27 : decode cX4_castMelt 27 = .ok (.iconst 1, 1) := by decide +kernel
theorem dX4_castMelt_28 : decode cX4_castMelt 28 = .ok (.iload_n 2, 1) := by decide +kernel
theorem dX4_castMelt_29 : decode cX4_castMelt 29 = .ok (.ishl, 1) := by decide +kernel
theorem dX4_castMelt_30 : decode cX4_castMelt 30 = .ok (.iand, 1) := by decide +kernel
theorem dX4_castMelt_31 : decode cX4_castMelt 31 = .ok (.ifCond .eq 44, 3) := by decide +kernel
theorem dX4_castMelt_34 : decode cX4_castMelt 34 = .ok (.aload_n 0, 1) := by decide +kernel
theorem dX4_castMelt_35 : decode cX4_castMelt 35 = .ok (.getfield 26, 3) := by decide +kernel
theorem dX4_castMelt_38 : decode cX4_castMelt 38 = .ok (.iload_n 2, 1) := by decide +kernel
theorem dX4_castMelt_39 : decode cX4_castMelt 39 = .ok (.aaload, 1) := by decide +kernel
theorem dX4_castMelt_40 : decode cX4_castMelt 40 = .ok (.iconst 2, 1) := by decide +kernel
theorem dX4_castMelt_41 : decode cX4_castMelt 41 = .ok (.putfield 99, 3) := by decide +kernel
theorem dX4_castMelt_44 : decode cX4_castMelt 44 = .ok (.aload_n 0, 1) := by decide +kernel
theorem dX4_castMelt_45 : decode cX4_castMelt 45 = .ok (.getfield 26, 3) := by decide +kernel
theorem dX4_castMelt_48 : decode cX4_castMelt 48 = .ok (.iload_n 2, 1) := by decide +kernel
theorem dX4_castMelt_49 : decode cX4_castMelt 49 = .ok (.aaload, 1) := by decide +kernel
theorem dX4_castMelt_50 : decode cX4_castMelt 50 = .ok (.aload_n 0, 1) := by decide +kernel
theorem dX4_castMelt_51 : decode cX4_castMelt 51 = .ok (.getfield 55, 3) := by decide +kernel
theorem dX4_castMelt_54 : decode cX4_castMelt 54 = .ok (.putfield 105, 3) := by decide +kernel
theorem dX4_castMelt_57 : decode cX4_castMelt 57 = .ok (.aload_n 0, 1) := by decide +kernel
theorem dX4_castMelt_58 : decode cX4_castMelt 58 = .ok (.dup, 1) := by decide +kernel
theorem dX4_castMelt_59 : decode cX4_castMelt 59 = .ok (.getfield 58, 3) := by decide +kernel
theorem dX4_castMelt_62 : decode cX4_castMelt 62 = .ok (.aload_n 0, 1) := by decide +kernel
theorem dX4_castMelt_63 : decode cX4_castMelt 63 = .ok (.getfield 26, 3) := by decide +kernel
theorem dX4_castMelt_66 : decode cX4_castMelt 66 = .ok (.iload_n 2, 1) := by decide +kernel
theorem dX4_castMelt_67 : decode cX4_castMelt 67 = .ok (.aaload, 1) := by decide +kernel
theorem dX4_castMelt_68 : decode cX4_castMelt 68 = .ok (.invokevirtual 126, 3) := by decide +kernel
theorem dX4_castMelt_71 : decode cX4_castMelt 71 = .ok (.iadd, 1) := by decide +kernel
theorem dX4_castMelt_72 : decode cX4_castMelt 72 = .ok (.putfield 58, 3) := by decide +kernel
theorem dX4_castMelt_75 : decode cX4_castMelt 75 = .ok (.iinc 2 1, 3) := by decide +kernel
theorem dX4_castMelt_78 : decode cX4_castMelt 78 = .ok (.goto (-60), 3) := by decide +kernel
theorem dX4_castMelt_81 : decode cX4_castMelt 81 = .ok (.aload_n 0, 1) := by decide +kernel
theorem dX4_castMelt_82 : decode cX4_castMelt 82 = .ok (.dup, 1) := by decide +kernel
theorem dX4_castMelt_83 : decode cX4_castMelt 83 = .ok (.getfield 55, 3) := by decide +kernel
theorem dX4_castMelt_86 : decode cX4_castMelt 86 = .ok (.iconst 1, 1) := by decide +kernel
theorem dX4_castMelt_87 : decode cX4_castMelt 87 = .ok (.iadd, 1) := by decide +kernel
theorem dX4_castMelt_88 : decode cX4_castMelt 88 = .ok (.putfield 55, 3) := by decide +kernel
theorem dX4_castMelt_91 : decode cX4_castMelt 91 = .ok (.iload_n 1, 1) := by decide +kernel
theorem dX4_castMelt_92 : decode cX4_castMelt 92 = .ok (.invokestatic 129, 3) := by decide +kernel
theorem dX4_castMelt_95 : decode cX4_castMelt 95 = .ok (.ireturn, 1) := by decide +kernel
theorem dX4_meltsNeeded_0 : decode cX4_meltsNeeded 0 = .ok (.aload_n 0, 1) := by decide +kernel
theorem dX4_meltsNeeded_1 : decode cX4_meltsNeeded 1 = .ok (.invokevirtual 119, 3) := by decide +kernel
theorem dX4_meltsNeeded_4 : decode cX4_meltsNeeded 4 = .ok (.istore_n 1, 1) := by decide +kernel
theorem dX4_meltsNeeded_5 : decode cX4_meltsNeeded 5 = .ok (.iconst 0, 1) := by decide +kernel
theorem dX4_meltsNeeded_6 : decode cX4_meltsNeeded 6 = .ok (.istore_n 2, 1) := by decide +kernel
theorem dX4_meltsNeeded_7 : decode cX4_meltsNeeded 7 = .ok (.iload_n 2, 1) := by decide +kernel
theorem dX4_meltsNeeded_8 : decode cX4_meltsNeeded 8 = .ok (.bipush 10, 2) := by decide +kernel
theorem dX4_meltsNeeded_10 : decode cX4_meltsNeeded 10 = .ok (.if_icmp .gt 34, 3) := by decide +kernel
theorem dX4_meltsNeeded_13 : decode cX4_meltsNeeded 13 = .ok (.iload_n 1, 1) := by decide +kernel
theorem dX4_meltsNeeded_14 : decode cX4_meltsNeeded 14 = .ok (.ifCond .ne 5, 3) := by decide +kernel
theorem dX4_meltsNeeded_17 : decode cX4_meltsNeeded 17 = .ok (.iload_n 2, 1) := by decide +kernel
theorem dX4_meltsNeeded_18 : decode cX4_meltsNeeded 18 = .ok (.ireturn, 1) := by decide +kernel
theorem dX4_meltsNeeded_19 : decode cX4_meltsNeeded 19 = .ok (.aload_n 0, 1) := by decide +kernel
theorem dX4_meltsNeeded_20 : decode cX4_meltsNeeded 20 = .ok (.iload_n 1, 1) := by decide +kernel
theorem dX4_meltsNeeded_21 : decode cX4_meltsNeeded 21 = .ok (.invokevirtual 123, 3) := by decide +kernel
theorem dX4_meltsNeeded_24 : decode cX4_meltsNeeded 24 = .ok (.istore_n 3, 1) := by decide +kernel
theorem dX4_meltsNeeded_25 : decode cX4_meltsNeeded 25 = .ok (.iload_n 3, 1) := by decide +kernel
theorem dX4_meltsNeeded_26 : decode cX4_meltsNeeded 26 = .ok (.ifCond .ne 6, 3) := by decide +kernel
theorem dX4_meltsNeeded_29 : decode cX4_meltsNeeded 29 = .ok (.ldc 73, 2) := by decide +kernel
theorem dX4_meltsNeeded_31 : decode cX4_meltsNeeded 31 = .ok (.ireturn, 1) := by decide +kernel
theorem dX4_meltsNeeded_32 : decode cX4_meltsNeeded 32 = .ok (.iload_n 1, 1) := by decide +kernel
theorem dX4_meltsNeeded_33 : decode cX4_meltsNeeded 33 = .ok (.iload_n 3, 1) := by decide +kernel
theorem dX4_meltsNeeded_34 : decode cX4_meltsNeeded 34 = .ok (.iconst (-1), 1) := by decide +kernel
theorem dX4_meltsNeeded_35 : decode cX4_meltsNeeded 35 = .ok (.ixor, 1) := by decide +kernel
theorem dX4_meltsNeeded_36 : decode cX4_meltsNeeded 36 = .ok (.iand, 1) := by decide +kernel
theorem dX4_meltsNeeded_37 : decode cX4_meltsNeeded 37 = .ok (.istore_n 1, 1) := by decide +kernel
theorem dX4_meltsNeeded_38 : decode cX4_meltsNeeded 38 = .ok (.iinc 2 1, 3) := by decide +kernel
theorem dX4_meltsNeeded_41 : decode cX4_meltsNeeded 41 = .ok (.goto (-34), 3) := by decide +kernel
theorem dX4_meltsNeeded_44 : decode cX4_meltsNeeded 44 = .ok (.ldc 73, 2) := by decide +kernel
theorem dX4_meltsNeeded_46 : decode cX4_meltsNeeded 46 = .ok (.ireturn, 1) := by decide +kernel
theorem dX4_acceptedOnes_0 : decode cX4_acceptedOnes 0 = .ok (.iconst 0, 1) := by decide +kernel
theorem dX4_acceptedOnes_1 : decode cX4_acceptedOnes 1 = .ok (.istore_n 1, 1) := by decide +kernel
theorem dX4_acceptedOnes_2 : decode cX4_acceptedOnes 2 = .ok (.iconst 0, 1) := by decide +kernel
theorem dX4_acceptedOnes_3 : decode cX4_acceptedOnes 3 = .ok (.istore_n 2, 1) := by decide +kernel
theorem dX4_acceptedOnes_4 : decode cX4_acceptedOnes 4 = .ok (.iload_n 2, 1) := by decide +kernel
theorem dX4_acceptedOnes_5 : decode cX4_acceptedOnes 5 = .ok (.aload_n 0, 1) := by decide +kernel
theorem dX4_acceptedOnes_6 : decode cX4_acceptedOnes 6 = .ok (.getfield 52, 3) := by decide +kernel
theorem dX4_acceptedOnes_9 : decode cX4_acceptedOnes 9 = .ok (.if_icmp .ge 28, 3) := by decide +kernel
theorem dX4_acceptedOnes_12 : decode cX4_acceptedOnes 12 = .ok (.aload_n 0, 1) := by decide +kernel
theorem dX4_acceptedOnes_13 : decode cX4_acceptedOnes 13 = .ok (.getfield 26, 3) := by decide +kernel
theorem dX4_acceptedOnes_16 : decode cX4_acceptedOnes 16 = .ok (.iload_n 2, 1) := by decide +kernel
theorem dX4_acceptedOnes_17 : decode cX4_acceptedOnes 17 = .ok (.aaload, 1) := by decide +kernel
theorem dX4_acceptedOnes_18 : decode cX4_acceptedOnes 18 = .ok (.getfield 99, 3) := by decide +kernel
theorem dX4_acceptedOnes_21 : decode cX4_acceptedOnes 21 = .ok (.iconst 1, 1) := by decide +kernel
theorem dX4_acceptedOnes_22 : decode cX4_acceptedOnes 22 = .ok (.if_icmp .ne 9, 3) := by decide +kernel
theorem dX4_acceptedOnes_25 : decode cX4_acceptedOnes 25 = .ok (.iload_n 1, 1) := by decide +kernel
theorem dX4_acceptedOnes_26 : decode cX4_acceptedOnes 26 = .ok (.iconst 1, 1) := by decide +kernel
theorem dX4_acceptedOnes_27 : decode cX4_acceptedOnes 27 = .ok (.iload_n 2, 1) := by decide +kernel
theorem dX4_acceptedOnes_28 : decode cX4_acceptedOnes 28 = .ok (.ishl, 1) := by decide +kernel
theorem dX4_acceptedOnes_29 : decode cX4_acceptedOnes 29 = .ok (.ior, 1) := by decide +kernel
theorem dX4_acceptedOnes_30 : decode cX4_acceptedOnes 30 = .ok (.istore_n 1, 1) := by decide +kernel
theorem dX4_acceptedOnes_31 : decode cX4_acceptedOnes 31 = .ok (.iinc 2 1, 3) := by decide +kernel
theorem dX4_acceptedOnes_34 : decode cX4_acceptedOnes 34 = .ok (.goto (-30), 3) := by decide +kernel
theorem dX4_acceptedOnes_37 : decode cX4_acceptedOnes 37 = .ok (.iload_n 1, 1) := by decide +kernel
theorem dX4_acceptedOnes_38 : decode cX4_acceptedOnes 38 = .ok (.ireturn, 1) := by decide +kernel
theorem dX4_nextMelt_0 : decode cX4_nextMelt 0 = .ok (.iconst 0, 1) := by decide +kernel
theorem dX4_nextMelt_1 : decode cX4_nextMelt 1 = .ok (.istore_n 2, 1) := by decide +kernel
theorem dX4_nextMelt_2 : decode cX4_nextMelt 2 = .ok (.iconst 0, 1) := by decide +kernel
theorem dX4_nextMelt_3 : decode cX4_nextMelt 3 = .ok (.istore_n 3, 1) := by decide +kernel
theorem dX4_nextMelt_4 : decode cX4_nextMelt 4 = .ok (.iconst 0, 1) := by decide +kernel
theorem dX4_nextMelt_5 : decode cX4_nextMelt 5 = .ok (.istore 4, 2) := by decide +kernel
theorem dX4_nextMelt_7 : decode cX4_nextMelt 7 = .ok (.iload 4, 2) := by decide +kernel
theorem dX4_nextMelt_9 : decode cX4_nextMelt 9 = .ok (.aload_n 0, 1) := by decide +kernel
theorem dX4_nextMelt_10 : decode cX4_nextMelt 10 = .ok (.getfield 52, 3) := by decide +kernel
theorem dX4_nextMelt_13 : decode cX4_nextMelt 13 = .ok (.if_icmp .ge 55, 3) := by decide +kernel
theorem dX4_nextMelt_16 : decode cX4_nextMelt 16 = .ok (.aload_n 0, 1) := by decide +kernel
theorem dX4_nextMelt_17 : decode cX4_nextMelt 17 = .ok (.getfield 26, 3) := by decide +kernel
theorem dX4_nextMelt_20 : decode cX4_nextMelt 20 = .ok (.iload 4, 2) := by decide +kernel
theorem dX4_nextMelt_22 : decode cX4_nextMelt 22 = .ok (.aaload, 1) := by decide +kernel
theorem dX4_nextMelt_23 : decode cX4_nextMelt 23 = .ok (.invokevirtual 126, 3) := by decide +kernel
theorem dX4_nextMelt_26 : decode cX4_nextMelt 26 = .ok (.istore 5, 2) := by decide +kernel
theorem dX4_nextMelt_28 : decode cX4_nextMelt 28 = .ok (.iload_n 1, 1) := by decide +kernel
theorem dX4_nextMelt_29 : decode cX4_nextMelt 29 = .ok (.iconst 1, 1) := by decide +kernel
theorem dX4_nextMelt_30 : decode cX4_nextMelt 30 = .ok (.iload 4, 2) := by decide +kernel
theorem dX4_nextMelt_32 : decode cX4_nextMelt 32 = .ok (.ishl, 1) := by decide +kernel
theorem dX4_nextMelt_33 : decode cX4_nextMelt 33 = .ok (.iand, 1) := by decide +kernel
theorem dX4_nextMelt_34 : decode cX4_nextMelt 34 = .ok (.ifCond .eq 28, 3) := by decide +kernel
theorem dX4_nextMelt_37 : decode cX4_nextMelt 37 = .ok (.iload_n 3, 1) := by decide +kernel
theorem dX4_nextMelt_38 : decode cX4_nextMelt 38 = .ok (.iload 5, 2) := by decide +kernel
theorem dX4_nextMelt_40 : decode cX4_nextMelt 40 = .ok (.iadd, 1) := by decide +kernel
theorem dX4_nextMelt_41 : decode cX4_nextMelt 41 = .ok (.aload_n 0, 1) := by decide +kernel
theorem dX4_nextMelt_42 : decode cX4_nextMelt 42 = .ok (.getfield 21, 3) := by decide +kernel
theorem dX4_nextMelt_45 : decode cX4_nextMelt 45 = .ok (.iconst 3, 1) := by decide +kernel
theorem dX4_nextMelt_46 : decode cX4_nextMelt 46 = .ok (.iaload, 1) := by decide +kernel
theorem dX4_nextMelt_47 : decode cX4_nextMelt 47 = .ok (.if_icmp .gt 15, 3) := by decide +kernel
theorem dX4_nextMelt_50 : decode cX4_nextMelt 50 = .ok (.iload_n 2, 1) := by decide +kernel
theorem dX4_nextMelt_51 : decode cX4_nextMelt 51 = .ok (.iconst 1, 1) := by decide +kernel
theorem dX4_nextMelt_52 : decode cX4_nextMelt 52 = .ok (.iload 4, 2) := by decide +kernel
theorem dX4_nextMelt_54 : decode cX4_nextMelt 54 = .ok (.ishl, 1) := by decide +kernel
theorem dX4_nextMelt_55 : decode cX4_nextMelt 55 = .ok (.ior, 1) := by decide +kernel
theorem dX4_nextMelt_56 : decode cX4_nextMelt 56 = .ok (.istore_n 2, 1) := by decide +kernel
theorem dX4_nextMelt_57 : decode cX4_nextMelt 57 = .ok (.iload_n 3, 1) := by decide +kernel
theorem dX4_nextMelt_58 : decode cX4_nextMelt 58 = .ok (.iload 5, 2) := by decide +kernel
theorem dX4_nextMelt_60 : decode cX4_nextMelt 60 = .ok (.iadd, 1) := by decide +kernel
theorem dX4_nextMelt_61 : decode cX4_nextMelt 61 = .ok (.istore_n 3, 1) := by decide +kernel
theorem dX4_nextMelt_62 : decode cX4_nextMelt 62 = .ok (.iinc 4 1, 3) := by decide +kernel
theorem dX4_nextMelt_65 : decode cX4_nextMelt 65 = .ok (.goto (-58), 3) := by decide +kernel
theorem dX4_nextMelt_68 : decode cX4_nextMelt 68 = .ok (.iload_n 2, 1) := by decide +kernel
theorem dX4_nextMelt_69 : decode cX4_nextMelt 69 = .ok (.ireturn, 1) := by decide +kernel
theorem dX4_handOver_0 : decode cX4_handOver 0 = .ok (.aload_n 0, 1) := by decide +kernel
theorem dX4_handOver_1 : decode cX4_handOver 1 = .ok (.iload_n 1, 1) := by decide +kernel
theorem dX4_handOver_2 : decode cX4_handOver 2 = .ok (.invokevirtual 111, 3) := by decide +kernel
theorem dX4_handOver_5 : decode cX4_handOver 5 = .ok (.ifCond .ne 6, 3) := by decide +kernel
theorem dX4_handOver_8 : decode cX4_handOver 8 = .ok (.ldc 65, 2) := by decide +kernel
theorem dX4_handOver_10 : decode cX4_handOver 10 = .ok (.ireturn, 1) := by decide +kernel
theorem dX4_handOver_11 : decode cX4_handOver 11 = .ok (.aload_n 0, 1) := by decide +kernel
theorem dX4_handOver_12 : decode cX4_handOver 12 = .ok (.getfield 26, 3) := by decide +kernel
theorem dX4_handOver_15 : decode cX4_handOver 15 = .ok (.iload_n 1, 1) := by decide +kernel
theorem dX4_handOver_16 : decode cX4_handOver 16 = .ok (.aaload, 1) := by decide +kernel
theorem dX4_handOver_17 : decode cX4_handOver 17 = .ok (.getfield 99, 3) := by decide +kernel
theorem dX4_handOver_20 : decode cX4_handOver 20 = .ok (.iconst 2, 1) := by decide +kernel
theorem dX4_handOver_21 : decode cX4_handOver 21 = .ok (.if_icmp .eq 6, 3) := by decide +kernel
theorem dX4_handOver_24 : decode cX4_handOver 24 = .ok (.ldc 114, 2) := by decide +kernel
theorem dX4_handOver_26 : decode cX4_handOver 26 = .ok (.ireturn, 1) := by decide +kernel
theorem dX4_handOver_27 : decode cX4_handOver 27 = .ok (.aload_n 0, 1) := by decide +kernel
theorem dX4_handOver_28 : decode cX4_handOver 28 = .ok (.getfield 26, 3) := by decide +kernel
theorem dX4_handOver_31 : decode cX4_handOver 31 = .ok (.iload_n 1, 1) := by decide +kernel
theorem dX4_handOver_32 : decode cX4_handOver 32 = .ok (.aaload, 1) := by decide +kernel
theorem dX4_handOver_33 : decode cX4_handOver 33 = .ok (.iconst 3, 1) := by decide +kernel
theorem dX4_handOver_34 : decode cX4_handOver 34 = .ok (.putfield 99, 3) := by decide +kernel
theorem dX4_handOver_37 : decode cX4_handOver 37 = .ok (.aload_n 0, 1) := by decide +kernel
theorem dX4_handOver_38 : decode cX4_handOver 38 = .ok (.iconst 3, 1) := by decide +kernel
theorem dX4_handOver_39 : decode cX4_handOver 39 = .ok (.invokevirtual 134, 3) := by decide +kernel
theorem dX4_handOver_42 : decode cX4_handOver 42 = .ok (.ireturn, 1) := by decide +kernel
theorem dX4_knownWalls_0 : decode cX4_knownWalls 0 = .ok (.iconst 0, 1) := by decide +kernel
theorem dX4_knownWalls_1 : decode cX4_knownWalls 1 = .ok (.istore_n 1, 1) := by decide +kernel
theorem dX4_knownWalls_2 : decode cX4_knownWalls 2 = .ok (.iconst 0, 1) := by decide +kernel
theorem dX4_knownWalls_3 : decode cX4_knownWalls 3 = .ok (.istore_n 2, 1) := by decide +kernel
theorem dX4_knownWalls_4 : decode cX4_knownWalls 4 = .ok (.iload_n 2, 1) := by decide +kernel
theorem dX4_knownWalls_5 : decode cX4_knownWalls 5 = .ok (.aload_n 0, 1) := by decide +kernel
theorem dX4_knownWalls_6 : decode cX4_knownWalls 6 = .ok (.getfield 48, 3) := by decide +kernel
theorem dX4_knownWalls_9 : decode cX4_knownWalls 9 = .ok (.if_icmp .ge 30, 3) := by decide +kernel
theorem dX4_knownWalls_12 : decode cX4_knownWalls 12 = .ok (.aload_n 0, 1) := by decide +kernel
theorem dX4_knownWalls_13 : decode cX4_knownWalls 13 = .ok (.getfield 11, 3) := by decide +kernel
theorem dX4_knownWalls_16 : decode cX4_knownWalls 16 = .ok (.iload_n 2, 1) := by decide +kernel
theorem dX4_knownWalls_17 : decode cX4_knownWalls 17 = .ok (.aaload, 1) := by decide +kernel
theorem dX4_knownWalls_18 : decode cX4_knownWalls 18 = .ok (.aload_n 0, 1) := by decide +kernel
theorem dX4_knownWalls_19 : decode cX4_knownWalls 19 = .ok (.getfield 21, 3) := by decide +kernel
theorem dX4_knownWalls_22 : decode cX4_knownWalls 22 = .ok (.iconst 0, 1) := by decide +kernel
theorem dX4_knownWalls_23 : decode cX4_knownWalls 23 = .ok (.iaload, 1) := by decide +kernel
theorem dX4_knownWalls_24 : decode cX4_knownWalls 24 = .ok (.invokevirtual 84, 3) := by decide +kernel
theorem dX4_knownWalls_27 : decode cX4_knownWalls 27 = .ok (.ifCond .eq 6, 3) := by decide +kernel
theorem dX4_knownWalls_30 : decode cX4_knownWalls 30 = .ok (.iinc 1 1, 3) := by decide +kernel
theorem dX4_knownWalls_33 : decode cX4_knownWalls 33 = .ok (.iinc 2 1, 3) := by decide +kernel
theorem dX4_knownWalls_36 : decode cX4_knownWalls 36 = .ok (.goto (-32), 3) := by decide +kernel
theorem dX4_knownWalls_39 : decode cX4_knownWalls 39 = .ok (.iload_n 1, 1) := by decide +kernel
theorem dX4_knownWalls_40 : decode cX4_knownWalls 40 = .ok (.ireturn, 1) := by decide +kernel
theorem dX4_commissionsInState_0 : decode cX4_commissionsInState 0 = .ok (.iconst 0, 1) := by decide +kernel
theorem dX4_commissionsInState_1 : decode cX4_commissionsInState 1 = .ok (.istore_n 2, 1) := by decide +kernel
theorem dX4_commissionsInState_2 : decode cX4_commissionsInState 2 = .ok (.iconst 0, 1) := by decide +kernel
theorem dX4_commissionsInState_3 : decode cX4_commissionsInState 3 = .ok (.istore_n 3, 1) := by decide +kernel
theorem dX4_commissionsInState_4 : decode cX4_commissionsInState 4 = .ok (.iload_n 3, 1) := by decide +kernel
theorem dX4_commissionsInState_5 : decode cX4_commissionsInState 5 = .ok (.aload_n 0, 1) := by decide +kernel
theorem dX4_commissionsInState_6 : decode cX4_commissionsInState 6 = .ok (.getfield 52, 3) := by decide +kernel
theorem dX4_commissionsInState_9 : decode cX4_commissionsInState 9 = .ok (.if_icmp .ge 25, 3) := by decide +kernel
theorem dX4_commissionsInState_12 : decode cX4_commissionsInState 12 = .ok (.aload_n 0, 1) := by decide +kernel
theorem dX4_commissionsInState_13 : decode cX4_commissionsInState 13 = .ok (.getfield 26, 3) := by decide +kernel
theorem dX4_commissionsInState_16 : decode cX4_commissionsInState 16 = .ok (.iload_n 3, 1) := by decide +kernel
theorem dX4_commissionsInState_17 : decode cX4_commissionsInState 17 = .ok (.aaload, 1) := by decide +kernel
theorem dX4_commissionsInState_18 : decode cX4_commissionsInState 18 = .ok (.getfield 99, 3) := by decide +kernel
theorem dX4_commissionsInState_21 : decode cX4_commissionsInState 21 = .ok (.iload_n 1, 1) := by decide +kernel
theorem dX4_commissionsInState_22 : decode cX4_commissionsInState 22 = .ok (.if_icmp .ne 6, 3) := by decide +kernel
theorem dX4_commissionsInState_25 : decode cX4_commissionsInState 25 = .ok (.iinc 2 1, 3) := by decide +kernel
theorem dX4_commissionsInState_28 : decode cX4_commissionsInState 28 = .ok (.iinc 3 1, 3) := by decide +kernel
theorem dX4_commissionsInState_31 : decode cX4_commissionsInState 31 = .ok (.goto (-27), 3) := by decide +kernel
theorem dX4_commissionsInState_34 : decode cX4_commissionsInState 34 = .ok (.iload_n 2, 1) := by decide +kernel
theorem dX4_commissionsInState_35 : decode cX4_commissionsInState 35 = .ok (.ireturn, 1) := by decide +kernel
theorem dX4_commissionsForWall_0 : decode cX4_commissionsForWall 0 = .ok (.iconst 0, 1) := by decide +kernel
theorem dX4_commissionsForWall_1 : decode cX4_commissionsForWall 1 = .ok (.istore_n 2, 1) := by decide +kernel
theorem dX4_commissionsForWall_2 : decode cX4_commissionsForWall 2 = .ok (.iconst 0, 1) := by decide +kernel
theorem dX4_commissionsForWall_3 : decode cX4_commissionsForWall 3 = .ok (.istore_n 3, 1) := by decide +kernel
theorem dX4_commissionsForWall_4 : decode cX4_commissionsForWall 4 = .ok (.iload_n 3, 1) := by decide +kernel
theorem dX4_commissionsForWall_5 : decode cX4_commissionsForWall 5 = .ok (.aload_n 0, 1) := by decide +kernel
theorem dX4_commissionsForWall_6 : decode cX4_commissionsForWall 6 = .ok (.getfield 52, 3) := by decide +kernel
theorem dX4_commissionsForWall_9 : decode cX4_commissionsForWall 9 = .ok (.if_icmp .ge 25, 3) := by decide +kernel
theorem dX4_commissionsForWall_12 : decode cX4_commissionsForWall 12 = .ok (.aload_n 0, 1) := by decide +kernel
theorem dX4_commissionsForWall_13 : decode cX4_commissionsForWall 13 = .ok (.getfield 26, 3) := by decide +kernel
theorem dX4_commissionsForWall_16 : decode cX4_commissionsForWall 16 = .ok (.iload_n 3, 1) := by decide +kernel
theorem dX4_commissionsForWall_17 : decode cX4_commissionsForWall 17 = .ok (.aaload, 1) := by decide +kernel
theorem dX4_commissionsForWall_18 : decode cX4_commissionsForWall 18 = .ok (.getfield 90, 3) := by decide +kernel
theorem dX4_commissionsForWall_21 : decode cX4_commissionsForWall 21 = .ok (.iload_n 1, 1) := by decide +kernel
theorem dX4_commissionsForWall_22 : decode cX4_commissionsForWall 22 = .ok (.if_icmp .ne 6, 3) := by decide +kernel
theorem dX4_commissionsForWall_25 : decode cX4_commissionsForWall 25 = .ok (.iinc 2 1, 3) := by decide +kernel
theorem dX4_commissionsForWall_28 : decode cX4_commissionsForWall 28 = .ok (.iinc 3 1, 3) := by decide +kernel
theorem dX4_commissionsForWall_31 : decode cX4_commissionsForWall 31 = .ok (.goto (-27), 3) := by decide +kernel
theorem dX4_commissionsForWall_34 : decode cX4_commissionsForWall 34 = .ok (.iload_n 2, 1) := by decide +kernel
theorem dX4_commissionsForWall_35 : decode cX4_commissionsForWall 35 = .ok (.ireturn, 1) := by decide +kernel
theorem dX4_declinationOfWall_0 : decode cX4_declinationOfWall 0 = .ok (.aload_n 0, 1) := by decide +kernel
theorem dX4_declinationOfWall_1 : decode cX4_declinationOfWall 1 = .ok (.iload_n 1, 1) := by decide +kernel
theorem dX4_declinationOfWall_2 : decode cX4_declinationOfWall 2 = .ok (.invokevirtual 80, 3) := by decide +kernel
theorem dX4_declinationOfWall_5 : decode cX4_declinationOfWall 5 = .ok (.ifCond .eq 21, 3) := by decide +kernel
theorem dX4_declinationOfWall_8 : decode cX4_declinationOfWall 8 = .ok (.aload_n 0, 1) := by decide +kernel
theorem dX4_declinationOfWall_9 : decode cX4_declinationOfWall 9 = .ok (.getfield 11, 3) := by decide +kernel
theorem dX4_declinationOfWall_12 : decode cX4_declinationOfWall 12 = .ok (.iload_n 1, 1) := by decide +kernel
theorem dX4_declinationOfWall_13 : decode cX4_declinationOfWall 13 = .ok (.aaload, 1) := by decide +kernel
theorem dX4_declinationOfWall_14 : decode cX4_declinationOfWall 14 = .ok (.aload_n 0, 1) := by decide +kernel
theorem dX4_declinationOfWall_15 : decode cX4_declinationOfWall 15 = .ok (.getfield 21, 3) := by decide +kernel
theorem dX4_declinationOfWall_18 : decode cX4_declinationOfWall 18 = .ok (.iconst 0, 1) := by decide +kernel
theorem dX4_declinationOfWall_19 : decode cX4_declinationOfWall 19 = .ok (.iaload, 1) := by decide +kernel
theorem dX4_declinationOfWall_20 : decode cX4_declinationOfWall 20 = .ok (.invokevirtual 84, 3) := by decide +kernel
theorem dX4_declinationOfWall_23 : decode cX4_declinationOfWall 23 = .ok (.ifCond .ne 6, 3) := by decide +kernel
theorem dX4_declinationOfWall_26 : decode cX4_declinationOfWall 26 = .ok (.ldc 73, 2) := by decide +kernel
theorem dX4_declinationOfWall_28 : decode cX4_declinationOfWall 28 = .ok (.ireturn, 1) := by decide +kernel
theorem dX4_declinationOfWall_29 : decode cX4_declinationOfWall 29 = .ok (.aload_n 0, 1) := by decide +kernel
theorem dX4_declinationOfWall_30 : decode cX4_declinationOfWall 30 = .ok (.getfield 11, 3) := by decide +kernel
theorem dX4_declinationOfWall_33 : decode cX4_declinationOfWall 33 = .ok (.iload_n 1, 1) := by decide +kernel
theorem dX4_declinationOfWall_34 : decode cX4_declinationOfWall 34 = .ok (.aaload, 1) := by decide +kernel
theorem dX4_declinationOfWall_35 : decode cX4_declinationOfWall 35 = .ok (.getfield 74, 3) := by decide +kernel
theorem dX4_declinationOfWall_38 : decode cX4_declinationOfWall 38 = .ok (.aload_n 0, 1) := by decide +kernel
theorem dX4_declinationOfWall_39 : decode cX4_declinationOfWall 39 = .ok (.getfield 11, 3) := by decide +kernel
theorem dX4_declinationOfWall_42 : decode cX4_declinationOfWall 42 = .ok (.iload_n 1, 1) := by decide +kernel
theorem dX4_declinationOfWall_43 : decode cX4_declinationOfWall 43 = .ok (.aaload, 1) := by decide +kernel
theorem dX4_declinationOfWall_44 : decode cX4_declinationOfWall 44 = .ok (.getfield 77, 3) := by decide +kernel
theorem dX4_declinationOfWall_47 : decode cX4_declinationOfWall 47 = .ok (.iadd, 1) := by decide +kernel
theorem dX4_declinationOfWall_48 : decode cX4_declinationOfWall 48 = .ok (.i2l, 1) := by decide +kernel
theorem dX4_declinationOfWall_49 : decode cX4_declinationOfWall 49 = .ok (.ldc2_w 137, 3) := by decide +kernel
theorem dX4_declinationOfWall_52 : decode cX4_declinationOfWall 52 = .ok (.invokestatic 139, 3) := by decide +kernel
theorem dX4_declinationOfWall_55 : decode cX4_declinationOfWall 55 = .ok (.l2i, 1) := by decide +kernel
theorem dX4_declinationOfWall_56 : decode cX4_declinationOfWall 56 = .ok (.ireturn, 1) := by decide +kernel
theorem dX4_declinationOfDial_0 : decode cX4_declinationOfDial 0 = .ok (.aload_n 0, 1) := by decide +kernel
theorem dX4_declinationOfDial_1 : decode cX4_declinationOfDial 1 = .ok (.iload_n 1, 1) := by decide +kernel
theorem dX4_declinationOfDial_2 : decode cX4_declinationOfDial 2 = .ok (.invokevirtual 111, 3) := by decide +kernel
theorem dX4_declinationOfDial_5 : decode cX4_declinationOfDial 5 = .ok (.ifCond .ne 6, 3) := by decide +kernel
theorem dX4_declinationOfDial_8 : decode cX4_declinationOfDial 8 = .ok (.ldc 73, 2) := by decide +kernel
theorem dX4_declinationOfDial_10 : decode cX4_declinationOfDial 10 = .ok (.ireturn, 1) := by decide +kernel
theorem dX4_declinationOfDial_11 : decode cX4_declinationOfDial 11 = .ok (.aload_n 0, 1) := by decide +kernel
theorem dX4_declinationOfDial_12 : decode cX4_declinationOfDial 12 = .ok (.getfield 26, 3) := by decide +kernel
theorem dX4_declinationOfDial_15 : decode cX4_declinationOfDial 15 = .ok (.iload_n 1, 1) := by decide +kernel
theorem dX4_declinationOfDial_16 : decode cX4_declinationOfDial 16 = .ok (.aaload, 1) := by decide +kernel
theorem dX4_declinationOfDial_17 : decode cX4_declinationOfDial 17 = .ok (.astore_n 2, 1) := by decide +kernel
theorem dX4_declinationOfDial_18 : decode cX4_declinationOfDial 18 = .ok (.aload_n 2, 1) := by decide +kernel
theorem dX4_declinationOfDial_19 : decode cX4_declinationOfDial 19 = .ok (.getfield 90, 3) := by decide +kernel
theorem dX4_declinationOfDial_22 : decode cX4_declinationOfDial 22 = .ok (.iconst (-1), 1) := by decide +kernel
theorem dX4_declinationOfDial_23 : decode cX4_declinationOfDial 23 = .ok (.if_icmp .ne 5, 3) := by decide +kernel
theorem dX4_declinationOfDial_26 : decode cX4_declinationOfDial 26 = .ok (.iconst 0, 1) := by decide +kernel
theorem dX4_declinationOfDial_27 : decode cX4_declinationOfDial 27 = .ok (.ireturn, 1) := by decide +kernel
theorem dX4_declinationOfDial_28 : decode cX4_declinationOfDial 28 = .ok (.aload_n 2, 1) := by decide +kernel
theorem dX4_declinationOfDial_29 : decode cX4_declinationOfDial 29 = .ok (.invokevirtual 143, 3) := by decide +kernel
theorem dX4_declinationOfDial_32 : decode cX4_declinationOfDial 32 = .ok (.ifCond .eq 14, 3) := by decide +kernel
theorem dX4_declinationOfDial_35 : decode cX4_declinationOfDial 35 = .ok (.aload_n 0, 1) := by decide +kernel
theorem dX4_declinationOfDial_36 : decode cX4_declinationOfDial 36 = .ok (.aload_n 2, 1) := by decide +kernel
theorem dX4_declinationOfDial_37 : decode cX4_declinationOfDial 37 = .ok (.getfield 90, 3) := by decide +kernel
theorem dX4_declinationOfDial_40 : decode cX4_declinationOfDial 40 = .ok (.invokevirtual 147, 3) := by decide +kernel
theorem dX4_declinationOfDial_43 : decode cX4_declinationOfDial 43 = .ok (.goto 7, 3) := by decide +kernel
theorem dX4_declinationOfDial_46 : decode cX4_declinationOfDial 46 = .ok (.aload_n 2, 1) := by decide +kernel
theorem dX4_declinationOfDial_47 : decode cX4_declinationOfDial 47 = .ok (.getfield 102, 3) := by decide +kernel
theorem dX4_declinationOfDial_50 : decode cX4_declinationOfDial 50 = .ok (.ireturn, 1) := by decide +kernel
theorem dX7_init_0 : decode cX7_init 0 = .ok (.aload_n 0, 1) := by decide +kernel
theorem dX7_init_1 : decode cX7_init 1 = .ok (.invokespecial 1, 3) := by decide +kernel
theorem dX7_init_4 : decode cX7_init 4 = .ok (.aload_n 0, 1) := by decide +kernel
theorem dX7_init_5 : decode cX7_init 5 = .ok (.new 7, 3) := by decide +kernel
theorem dX7_init_8 : decode cX7_init 8 = .ok (.dup, 1) := by decide +kernel
theorem dX7_init_9 : decode cX7_init 9 = .ok (.invokespecial 9, 3) := by decide +kernel
theorem dX7_init_12 : decode cX7_init 12 = .ok (.putfield 10, 3) := by decide +kernel
theorem dX7_init_15 : decode cX7_init 15 = .ok (.aload_n 0, 1) := by decide +kernel
theorem dX7_init_16 : decode cX7_init 16 = .ok (.new 16, 3) := by decide +kernel
theorem dX7_init_19 : decode cX7_init 19 = .ok (.dup, 1) := by decide +kernel
theorem dX7_init_20 : decode cX7_init 20 = .ok (.invokespecial 18, 3) := by decide +kernel
theorem dX7_init_23 : decode cX7_init 23 = .ok (.putfield 19, 3) := by decide +kernel
theorem dX7_init_26 : decode cX7_init 26 = .ok (.aload_n 0, 1) := by decide +kernel
theorem dX7_init_27 : decode cX7_init 27 = .ok (.new 23, 3) := by decide +kernel
theorem dX7_init_30 : decode cX7_init 30 = .ok (.dup, 1) := by decide +kernel
theorem dX7_init_31 : decode cX7_init 31 = .ok (.invokespecial 25, 3) := by decide +kernel
theorem dX7_init_34 : decode cX7_init 34 = .ok (.putfield 26, 3) := by decide +kernel
theorem dX7_init_37 : decode cX7_init 37 = .ok (.aload_n 0, 1) := by decide +kernel
theorem dX7_init_38 : decode cX7_init 38 = .ok (.new 30, 3) := by decide +kernel
theorem dX7_init_41 : decode cX7_init 41 = .ok (.dup, 1) := by decide +kernel
theorem dX7_init_42 : decode cX7_init 42 = .ok (.invokespecial 32, 3) := by decide +kernel
theorem dX7_init_45 : decode cX7_init 45 = .ok (.putfield 33, 3) := by decide +kernel
theorem dX7_init_48 : decode cX7_init 48 = .ok (.aload_n 0, 1) := by decide +kernel
theorem dX7_init_49 : decode cX7_init 49 = .ok (.aload_n 0, 1) := by decide +kernel
theorem dX7_init_50 : decode cX7_init 50 = .ok (.getfield 10, 3) := by decide +kernel
theorem dX7_init_53 : decode cX7_init 53 = .ok (.getfield 37, 3) := by decide +kernel
theorem dX7_init_56 : decode cX7_init 56 = .ok (.putfield 41, 3) := by decide +kernel
theorem dX7_init_59 : decode cX7_init 59 = .ok (.return_, 1) := by decide +kernel
theorem dX7_setCorrection_0 : decode cX7_setCorrection 0 = .ok (.aload_n 0, 1) := by decide +kernel
theorem dX7_setCorrection_1 : decode cX7_setCorrection 1 = .ok (.getfield 19, 3) := by decide +kernel
theorem dX7_setCorrection_4 : decode cX7_setCorrection 4 = .ok (.aload_n 0, 1) := by decide +kernel
theorem dX7_setCorrection_5 : decode cX7_setCorrection 5 = .ok (.getfield 10, 3) := by decide +kernel
theorem dX7_setCorrection_8 : decode cX7_setCorrection 8 = .ok (.invokevirtual 42, 3) := by decide +kernel
theorem dX7_setCorrection_11 : decode cX7_setCorrection 11 = .ok (.aload_n 0, 1) := by decide +kernel
theorem dX7_setCorrection_12 : decode cX7_setCorrection 12 = .ok (.aload_n 0, 1) := by decide +kernel
theorem dX7_setCorrection_13 : decode cX7_setCorrection 13 = .ok (.getfield 41, 3) := by decide +kernel
theorem dX7_setCorrection_16 : decode cX7_setCorrection 16 = .ok (.iload_n 1, 1) := by decide +kernel
theorem dX7_setCorrection_17 : decode cX7_setCorrection 17 = .ok (.iload_n 2, 1) := by decide +kernel
theorem dX7_setCorrection_18 : decode cX7_setCorrection 18 = .ok (.invokevirtual 46, 3) := by decide +kernel
theorem dX7_setCorrection_21 : decode cX7_setCorrection 21 = .ok (.invokevirtual 52, 3) := by decide +kernel
theorem dX7_setCorrection_24 : decode cX7_setCorrection 24 = .ok (.ireturn, 1) := by decide +kernel
theorem dX7_set_0 : decode cX7_set 0 = .ok (.aload_n 0, 1) := by decide +kernel
theorem dX7_set_1 : decode cX7_set 1 = .ok (.getfield 19, 3) := by decide +kernel
theorem dX7_set_4 : decode cX7_set 4 = .ok (.aload_n 0, 1) := by decide +kernel
theorem dX7_set_5 : decode cX7_set 5 = .ok (.getfield 10, 3) := by decide +kernel
theorem dX7_set_8 : decode cX7_set 8 = .ok (.invokevirtual 42, 3) := by decide +kernel
theorem dX7_set_11 : decode cX7_set 11 = .ok (.aload_n 0, 1) := by decide +kernel
theorem dX7_set_12 : decode cX7_set 12 = .ok (.aload_n 0, 1) := by decide +kernel
theorem dX7_set_13 : decode cX7_set 13 = .ok (.getfield 41, 3) := by decide +kernel
theorem dX7_set_16 : decode cX7_set 16 = .ok (.iload_n 1, 1) := by decide +kernel
theorem dX7_set_17 : decode cX7_set 17 = .ok (.iload_n 2, 1) := by decide +kernel
theorem dX7_set_18 : decode cX7_set 18 = .ok (.invokevirtual 56, 3) := by decide +kernel
theorem dX7_set_21 : decode cX7_set 21 = .ok (.invokevirtual 52, 3) := by decide +kernel
theorem dX7_set_24 : decode cX7_set 24 = .ok (.ireturn, 1) := by decide +kernel
theorem dX7_addWall_0 : decode cX7_addWall 0 = .ok (.aload_n 0, 1) := by decide +kernel
theorem dX7_addWall_1 : decode cX7_addWall 1 = .ok (.getfield 19, 3) := by decide +kernel
theorem dX7_addWall_4 : decode cX7_addWall 4 = .ok (.aload_n 0, 1) := by decide +kernel
theorem dX7_addWall_5 : decode cX7_addWall 5 = .ok (.getfield 10, 3) := by decide +kernel
theorem dX7_addWall_8 : decode cX7_addWall 8 = .ok (.invokevirtual 42, 3) := by decide +kernel
theorem dX7_addWall_11 : decode cX7_addWall 11 = .ok (.aload_n 0, 1) := by decide +kernel
theorem dX7_addWall_12 : decode cX7_addWall 12 = .ok (.aload_n 0, 1) := by decide +kernel
theorem dX7_addWall_13 : decode cX7_addWall 13 = .ok (.getfield 41, 3) := by decide +kernel
theorem dX7_addWall_16 : decode cX7_addWall 16 = .ok (.invokevirtual 59, 3) := by decide +kernel
theorem dX7_addWall_19 : decode cX7_addWall 19 = .ok (.invokevirtual 52, 3) := by decide +kernel
theorem dX7_addWall_22 : decode cX7_addWall 22 = .ok (.ireturn, 1) := by decide +kernel
theorem dX7_measure_0 : decode cX7_measure 0 = .ok (.aload_n 0, 1) := by decide +kernel
theorem dX7_measure_1 : decode cX7_measure 1 = .ok (.getfield 19, 3) := by decide +kernel
theorem dX7_measure_4 : decode cX7_measure 4 = .ok (.aload_n 0, 1) := by decide +kernel
theorem dX7_measure_5 : decode cX7_measure 5 = .ok (.getfield 10, 3) := by decide +kernel
theorem dX7_measure_8 : decode cX7_measure 8 = .ok (.invokevirtual 42, 3) := by decide +kernel
theorem dX7_measure_11 : decode cX7_measure 11 = .ok (.aload_n 0, 1) := by decide +kernel
theorem dX7_measure_12 : decode cX7_measure 12 = .ok (.aload_n 0, 1) := by decide +kernel
theorem dX7_measure_13 : decode cX7_measure 13 = .ok (.getfield 41, 3) := by decide +kernel
theorem dX7_measure_16 : decode cX7_measure 16 = .ok (.iload_n 1, 1) := by decide +kernel
theorem dX7_measure_17 : decode cX7_measure 17 = .ok (.iload_n 2, 1) := by decide +kernel
theorem dX7_measure_18 : decode cX7_measure 18 = .ok (.invokevirtual 63, 3) := by decide +kernel
theorem dX7_measure_21 : decode cX7_measure 21 = .ok (.invokevirtual 52, 3) := by decide +kernel
theorem dX7_measure_24 : decode cX7_measure 24 = .ok (.ireturn, 1) := by decide +kernel
theorem dX7_ask_0 : decode cX7_ask 0 = .ok (.aload_n 0, 1) := by decide +kernel
theorem dX7_ask_1 : decode cX7_ask 1 = .ok (.getfield 19, 3) := by decide +kernel
theorem dX7_ask_4 : decode cX7_ask 4 = .ok (.aload_n 0, 1) := by decide +kernel
theorem dX7_ask_5 : decode cX7_ask 5 = .ok (.getfield 10, 3) := by decide +kernel
theorem dX7_ask_8 : decode cX7_ask 8 = .ok (.invokevirtual 42, 3) := by decide +kernel
theorem dX7_ask_11 : decode cX7_ask 11 = .ok (.aload_n 0, 1) := by decide +kernel
theorem dX7_ask_12 : decode cX7_ask 12 = .ok (.aload_n 0, 1) := by decide +kernel
theorem dX7_ask_13 : decode cX7_ask 13 = .ok (.getfield 41, 3) := by decide +kernel
theorem dX7_ask_16 : decode cX7_ask 16 = .ok (.iload_n 1, 1) := by decide +kernel
theorem dX7_ask_17 : decode cX7_ask 17 = .ok (.iload_n 2, 1) := by decide +kernel
theorem dX7_ask_18 : decode cX7_ask 18 = .ok (.iload_n 3, 1) := by decide +kernel
theorem dX7_ask_19 : decode cX7_ask 19 = .ok (.iload 4, 2) := by decide +kernel
theorem dX7_ask_21 : decode cX7_ask 21 = .ok (.invokevirtual 66, 3) := by decide +kernel
theorem dX7_ask_24 : decode cX7_ask 24 = .ok (.invokevirtual 52, 3) := by decide +kernel
theorem dX7_ask_27 : decode cX7_ask 27 = .ok (.ireturn, 1) := by decide +kernel
theorem dX7_decide_0 : decode cX7_decide 0 = .ok (.aload_n 0, 1) := by decide +kernel
theorem dX7_decide_1 : decode cX7_decide 1 = .ok (.getfield 19, 3) := by decide +kernel
theorem dX7_decide_4 : decode cX7_decide 4 = .ok (.aload_n 0, 1) := by decide +kernel
theorem dX7_decide_5 : decode cX7_decide 5 = .ok (.getfield 10, 3) := by decide +kernel
theorem dX7_decide_8 : decode cX7_decide 8 = .ok (.invokevirtual 42, 3) := by decide +kernel
theorem dX7_decide_11 : decode cX7_decide 11 = .ok (.aload_n 0, 1) := by decide +kernel
theorem dX7_decide_12 : decode cX7_decide 12 = .ok (.aload_n 0, 1) := by decide +kernel
theorem dX7_decide_13 : decode cX7_decide 13 = .ok (.getfield 41, 3) := by decide +kernel
theorem dX7_decide_16 : decode cX7_decide 16 = .ok (.iload_n 1, 1) := by decide +kernel
theorem dX7_decide_17 : decode cX7_decide 17 = .ok (.aload_n 0, 1) := by decide +kernel
theorem dX7_decide_18 : decode cX7_decide 18 = .ok (.iload_n 1, 1) := by decide +kernel
theorem dX7_decide_19 : decode cX7_decide 19 = .ok (.invokevirtual 70, 3) := by decide +kernel
theorem dX7_decide_22 : decode cX7_decide 22 = .ok (.invokevirtual 73, 3) := by decide +kernel
theorem dX7_decide_25 : decode cX7_decide 25 = .ok (.invokevirtual 52, 3) := by decide +kernel
theorem dX7_decide_28 : decode cX7_decide 28 = .ok (.ireturn, 1) := by decide +kernel
theorem dX7_askAgain_0 : decode cX7_askAgain 0 = .ok (.aload_n 0, 1) := by decide +kernel
theorem dX7_askAgain_1 : decode cX7_askAgain 1 = .ok (.getfield 19, 3) := by decide +kernel
theorem dX7_askAgain_4 : decode cX7_askAgain 4 = .ok (.aload_n 0, 1) := by decide +kernel
theorem dX7_askAgain_5 : decode cX7_askAgain 5 = .ok (.getfield 10, 3) := by decide +kernel
theorem dX7_askAgain_8 : decode cX7_askAgain 8 = .ok (.invokevirtual 42, 3) := by decide +kernel
theorem dX7_askAgain_11 : decode cX7_askAgain 11 = .ok (.aload_n 0, 1) := by decide +kernel
theorem dX7_askAgain_12 : decode cX7_askAgain 12 = .ok (.aload_n 0, 1) := by decide +kernel
theorem dX7_askAgain_13 : decode cX7_askAgain 13 = .ok (.getfield 41, 3) := by decide +kernel
theorem dX7_askAgain_16 : decode cX7_askAgain 16 = .ok (.iload_n 1, 1) := by decide +kernel
theorem dX7_askAgain_17 : decode cX7_askAgain 17 = .ok (.aload_n 0, 1) := by decide +kernel
theorem dX7_askAgain_18 : decode cX7_askAgain 18 = .ok (.iload_n 1, 1) := by decide +kernel
theorem dX7_askAgain_19 : decode cX7_askAgain 19 = .ok (.invokevirtual 70, 3) := by decide +kernel
theorem dX7_askAgain_22 : decode cX7_askAgain 22 = .ok (.invokevirtual 76, 3) := by decide +kernel
theorem dX7_askAgain_25 : decode cX7_askAgain 25 = .ok (.invokevirtual 52, 3) := by decide +kernel
theorem dX7_askAgain_28 : decode cX7_askAgain 28 = .ok (.ireturn, 1) := by decide +kernel
theorem dX7_cast_0 : decode cX7_cast 0 = .ok (.aload_n 0, 1) := by decide +kernel
theorem dX7_cast_1 : decode cX7_cast 1 = .ok (.getfield 19, 3) := by decide +kernel
theorem dX7_cast_4 : decode cX7_cast 4 = .ok (.aload_n 0, 1) := by decide +kernel
theorem dX7_cast_5 : decode cX7_cast 5 = .ok (.getfield 10, 3) := by decide +kernel
theorem dX7_cast_8 : decode cX7_cast 8 = .ok (.invokevirtual 42, 3) := by decide +kernel
theorem dX7_cast_11 : decode cX7_cast 11 = .ok (.aload_n 0, 1) := by decide +kernel
theorem dX7_cast_12 : decode cX7_cast 12 = .ok (.aload_n 0, 1) := by decide +kernel
theorem dX7_cast_13 : decode cX7_cast 13 = .ok (.getfield 41, 3) := by decide +kernel
theorem dX7_cast_16 : decode cX7_cast 16 = .ok (.invokevirtual 79, 3) := by decide +kernel
theorem dX7_cast_19 : decode cX7_cast 19 = .ok (.invokevirtual 52, 3) := by decide +kernel
theorem dX7_cast_22 : decode cX7_cast 22 = .ok (.ireturn, 1) := by decide +kernel
theorem dX7_deliver_0 : decode cX7_deliver 0 = .ok (.aload_n 0, 1) := by decide +kernel
theorem dX7_deliver_1 : decode cX7_deliver 1 = .ok (.getfield 19, 3) := by decide +kernel
theorem dX7_deliver_4 : decode cX7_deliver 4 = .ok (.aload_n 0, 1) := by decide +kernel
theorem dX7_deliver_5 : decode cX7_deliver 5 = .ok (.getfield 10, 3) := by decide +kernel
theorem dX7_deliver_8 : decode cX7_deliver 8 = .ok (.invokevirtual 42, 3) := by decide +kernel
theorem dX7_deliver_11 : decode cX7_deliver 11 = .ok (.aload_n 0, 1) := by decide +kernel
theorem dX7_deliver_12 : decode cX7_deliver 12 = .ok (.aload_n 0, 1) := by decide +kernel
theorem dX7_deliver_13 : decode cX7_deliver 13 = .ok (.getfield 41, 3) := by decide +kernel
theorem dX7_deliver_16 : decode cX7_deliver 16 = .ok (.iload_n 1, 1) := by decide +kernel
theorem dX7_deliver_17 : decode cX7_deliver 17 = .ok (.invokevirtual 82, 3) := by decide +kernel
theorem dX7_deliver_20 : decode cX7_deliver 20 = .ok (.invokevirtual 52, 3) := by decide +kernel
theorem dX7_deliver_23 : decode cX7_deliver 23 = .ok (.ireturn, 1) := by decide +kernel
theorem dX7_take_0 : decode cX7_take 0 = .ok (.aload_n 0, 1) := by decide +kernel
theorem dX7_take_1 : decode cX7_take 1 = .ok (.getfield 19, 3) := by decide +kernel
theorem dX7_take_4 : decode cX7_take 4 = .ok (.aload_n 0, 1) := by decide +kernel
theorem dX7_take_5 : decode cX7_take 5 = .ok (.getfield 10, 3) := by decide +kernel
theorem dX7_take_8 : decode cX7_take 8 = .ok (.invokevirtual 42, 3) := by decide +kernel
theorem dX7_take_11 : decode cX7_take 11 = .ok (.aload_n 0, 1) := by decide +kernel
theorem dX7_take_12 : decode cX7_take 12 = .ok (.aload_n 0, 1) := by decide +kernel
theorem dX7_take_13 : decode cX7_take 13 = .ok (.getfield 10, 3) := by decide +kernel
theorem dX7_take_16 : decode cX7_take 16 = .ok (.iload_n 1, 1) := by decide +kernel
theorem dX7_take_17 : decode cX7_take 17 = .ok (.invokevirtual 85, 3) := by decide +kernel
theorem dX7_take_20 : decode cX7_take 20 = .ok (.invokevirtual 52, 3) := by decide +kernel
theorem dX7_take_23 : decode cX7_take 23 = .ok (.ireturn, 1) := by decide +kernel
theorem dX7_undo_0 : decode cX7_undo 0 = .ok (.aload_n 0, 1) := by decide +kernel
theorem dX7_undo_1 : decode cX7_undo 1 = .ok (.getfield 19, 3) := by decide +kernel
theorem dX7_undo_4 : decode cX7_undo 4 = .ok (.getfield 91, 3) := by decide +kernel
theorem dX7_undo_7 : decode cX7_undo 7 = .ok (.ifCond .ne 6, 3) := by decide +kernel
theorem dX7_undo_10 : decode cX7_undo 10 = .ok (.ldc 95, 2) := by decide +kernel
theorem dX7_undo_12 : decode cX7_undo 12 = .ok (.ireturn, 1) := by decide +kernel
theorem dX7_undo_13 : decode cX7_undo 13 = .ok (.aload_n 0, 1) := by decide +kernel
theorem dX7_undo_14 : decode cX7_undo 14 = .ok (.getfield 19, 3) := by decide +kernel
theorem dX7_undo_17 : decode cX7_undo 17 = .ok (.aload_n 0, 1) := by decide +kernel
theorem dX7_undo_18 : decode cX7_undo 18 = .ok (.getfield 10, 3) := by decide +kernel
theorem dX7_undo_21 : decode cX7_undo 21 = .ok (.invokevirtual 96, 3) := by decide +kernel
theorem dX7_undo_24 : decode cX7_undo 24 = .ok (.aload_n 0, 1) := by decide +kernel
theorem dX7_undo_25 : decode cX7_undo 25 = .ok (.getfield 19, 3) := by decide +kernel
theorem dX7_undo_28 : decode cX7_undo 28 = .ok (.getfield 91, 3) := by decide +kernel
theorem dX7_undo_31 : decode cX7_undo 31 = .ok (.ireturn, 1) := by decide +kernel
theorem dX7_count_0 : decode cX7_count 0 = .ok (.iload_n 1, 1) := by decide +kernel
theorem dX7_count_1 : decode cX7_count 1 = .ok (.tableswitch 171 0 16 #[83, 91, 99, 107, 107, 107, 107, 107, 118, 126, 134, 142, 150, 158, 158, 158, 158], 83) := by decide +kernel
theorem dX7_count_84 : decode cX7_count 84 = .ok (.aload_n 0, 1) := by decide +kernel
theorem dX7_count_85 : decode cX7_count 85 = .ok (.getfield 41, 3) := by decide +kernel
theorem dX7_count_88 : decode cX7_count 88 = .ok (.getfield 131, 3) := by decide +kernel
theorem dX7_count_91 : decode cX7_count 91 = .ok (.ireturn, 1) := by decide +kernel
theorem dX7_count_92 : decode cX7_count 92 = .ok (.aload_n 0, 1) := by decide +kernel
theorem dX7_count_93 : decode cX7_count 93 = .ok (.getfield 41, 3) := by decide +kernel
theorem dX7_count_96 : decode cX7_count 96 = .ok (.invokevirtual 134, 3) := by decide +kernel
theorem dX7_count_99 : decode cX7_count 99 = .ok (.ireturn, 1) := by decide +kernel
theorem dX7_count_100 : decode cX7_count 100 = .ok (.aload_n 0, 1) := by decide +kernel
theorem dX7_count_101 : decode cX7_count 101 = .ok (.getfield 41, 3) := by decide +kernel
theorem dX7_count_104 : decode cX7_count 104 = .ok (.getfield 137, 3) := by decide +kernel
theorem dX7_count_107 : decode cX7_count 107 = .ok (.ireturn, 1) := by decide +kernel
theorem dX7_count_108 : decode cX7_count 108 = .ok (.aload_n 0, 1) := by decide +kernel
theorem dX7_count_109 : decode cX7_count 109 = .ok (.getfield 41, 3) := by decide +kernel
theorem dX7_count_112 : decode cX7_count 112 = .ok (.iload_n 1, 1) := by decide +kernel
theorem dX7_count_113 : decode cX7_count 113 = .ok (.iconst 3, 1) := by decide +kernel
theorem dX7_count_114 : decode cX7_count 114 = .ok (.isub, 1) := by decide +kernel
theorem dX7_count_115 : decode cX7_count 115 = .ok (.invokevirtual 140, 3) := by decide +kernel
theorem dX7_count_118 : decode cX7_count 118 = .ok (.ireturn, 1) := by decide +kernel
theorem dX7_count_119 : decode cX7_count 119 = .ok (.aload_n 0, 1) := by decide +kernel
theorem dX7_count_120 : decode cX7_count 120 = .ok (.getfield 41, 3) := by decide +kernel
theorem dX7_count_123 : decode cX7_count 123 = .ok (.getfield 143, 3) := by decide +kernel
theorem dX7_count_126 : decode cX7_count 126 = .ok (.ireturn, 1) := by decide +kernel
theorem dX7_count_127 : decode cX7_count 127 = .ok (.aload_n 0, 1) := by decide +kernel
theorem dX7_count_128 : decode cX7_count 128 = .ok (.getfield 41, 3) := by decide +kernel
theorem dX7_count_131 : decode cX7_count 131 = .ok (.getfield 146, 3) := by decide +kernel
theorem dX7_count_134 : decode cX7_count 134 = .ok (.ireturn, 1) := by decide +kernel
theorem dX7_count_135 : decode cX7_count 135 = .ok (.aload_n 0, 1) := by decide +kernel
theorem dX7_count_136 : decode cX7_count 136 = .ok (.getfield 10, 3) := by decide +kernel
theorem dX7_count_139 : decode cX7_count 139 = .ok (.invokevirtual 149, 3) := by decide +kernel
theorem dX7_count_142 : decode cX7_count 142 = .ok (.ireturn, 1) := by decide +kernel
theorem dX7_count_143 : decode cX7_count 143 = .ok (.aload_n 0, 1) := by decide +kernel
theorem dX7_count_144 : decode cX7_count 144 = .ok (.getfield 19, 3) := by decide +kernel
theorem dX7_count_147 : decode cX7_count 147 = .ok (.getfield 91, 3) := by decide +kernel
theorem dX7_count_150 : decode cX7_count 150 = .ok (.ireturn, 1) := by decide +kernel
theorem dX7_count_151 : decode cX7_count 151 = .ok (.aload_n 0, 1) := by decide +kernel
theorem dX7_count_152 : decode cX7_count 152 = .ok (.getfield 26, 3) := by decide +kernel
theorem dX7_count_155 : decode cX7_count 155 = .ok (.getfield 152, 3) := by decide +kernel
theorem dX7_count_158 : decode cX7_count 158 = .ok (.ireturn, 1) := by decide +kernel
theorem dX7_count_159 : decode cX7_count 159 = .ok (.aload_n 0, 1) := by decide +kernel
theorem dX7_count_160 : decode cX7_count 160 = .ok (.getfield 41, 3) := by decide +kernel
theorem dX7_count_163 : decode cX7_count 163 = .ok (.getfield 155, 3) := by decide +kernel
theorem dX7_count_166 : decode cX7_count 166 = .ok (.iload_n 1, 1) := by decide +kernel
theorem dX7_count_167 : decode cX7_count 167 = .ok (.bipush 13, 2) := by decide +kernel
theorem dX7_count_169 : decode cX7_count 169 = .ok (.isub, 1) := by decide +kernel
theorem dX7_count_170 : decode cX7_count 170 = .ok (.iaload, 1) := by decide +kernel
theorem dX7_count_171 : decode cX7_count 171 = .ok (.ireturn, 1) := by decide +kernel
theorem dX7_count_172 : decode cX7_count 172 = .ok (.ldc 159, 2) := by decide +kernel
theorem dX7_count_174 : decode cX7_count 174 = .ok (.ireturn, 1) := by decide +kernel
theorem dX7_wall_0 : decode cX7_wall 0 = .ok (.aload_n 0, 1) := by decide +kernel
theorem dX7_wall_1 : decode cX7_wall 1 = .ok (.getfield 41, 3) := by decide +kernel
theorem dX7_wall_4 : decode cX7_wall 4 = .ok (.iload_n 1, 1) := by decide +kernel
theorem dX7_wall_5 : decode cX7_wall 5 = .ok (.invokevirtual 160, 3) := by decide +kernel
theorem dX7_wall_8 : decode cX7_wall 8 = .ok (.ifCond .ne 6, 3) := by decide +kernel
theorem dX7_wall_11 : decode cX7_wall 11 = .ok (.ldc 159, 2) := by decide +kernel
theorem dX7_wall_13 : decode cX7_wall 13 = .ok (.ireturn, 1) := by decide +kernel
theorem dX7_wall_14 : decode cX7_wall 14 = .ok (.iload_n 2, 1) := by decide +kernel
theorem dX7_wall_15 : decode cX7_wall 15 = .ok (.tableswitch 73 0 3 #[29, 42, 55, 64], 29) := by decide +kernel
theorem dX7_wall_44 : decode cX7_wall 44 = .ok (.aload_n 0, 1) := by decide +kernel
theorem dX7_wall_45 : decode cX7_wall 45 = .ok (.getfield 41, 3) := by decide +kernel
theorem dX7_wall_48 : decode cX7_wall 48 = .ok (.getfield 163, 3) := by decide +kernel
theorem dX7_wall_51 : decode cX7_wall 51 = .ok (.iload_n 1, 1) := by decide +kernel
theorem dX7_wall_52 : decode cX7_wall 52 = .ok (.aaload, 1) := by decide +kernel
theorem dX7_wall_53 : decode cX7_wall 53 = .ok (.getfield 167, 3) := by decide +kernel
theorem dX7_wall_56 : decode cX7_wall 56 = .ok (.ireturn, 1) := by decide +kernel
theorem dX7_wall_57 : decode cX7_wall 57 = .ok (.aload_n 0, 1) := by decide +kernel
theorem dX7_wall_58 : decode cX7_wall 58 = .ok (.getfield 41, 3) := by decide +kernel
theorem dX7_wall_61 : decode cX7_wall 61 = .ok (.getfield 163, 3) := by decide +kernel
theorem dX7_wall_64 : decode cX7_wall 64 = .ok (.iload_n 1, 1) := by decide +kernel
theorem dX7_wall_65 : decode cX7_wall 65 = .ok (.aaload, 1) := by decide +kernel
theorem dX7_wall_66 : decode cX7_wall 66 = .ok (.getfield 172, 3) := by decide +kernel
theorem dX7_wall_69 : decode cX7_wall 69 = .ok (.ireturn, 1) := by decide +kernel
theorem dX7_wall_70 : decode cX7_wall 70 = .ok (.aload_n 0, 1) := by decide +kernel
theorem dX7_wall_71 : decode cX7_wall 71 = .ok (.getfield 41, 3) := by decide +kernel
theorem dX7_wall_74 : decode cX7_wall 74 = .ok (.iload_n 1, 1) := by decide +kernel
theorem dX7_wall_75 : decode cX7_wall 75 = .ok (.invokevirtual 175, 3) := by decide +kernel
theorem dX7_wall_78 : decode cX7_wall 78 = .ok (.ireturn, 1) := by decide +kernel
theorem dX7_wall_79 : decode cX7_wall 79 = .ok (.aload_n 0, 1) := by decide +kernel
theorem dX7_wall_80 : decode cX7_wall 80 = .ok (.getfield 41, 3) := by decide +kernel
theorem dX7_wall_83 : decode cX7_wall 83 = .ok (.iload_n 1, 1) := by decide +kernel
theorem dX7_wall_84 : decode cX7_wall 84 = .ok (.invokevirtual 178, 3) := by decide +kernel
theorem dX7_wall_87 : decode cX7_wall 87 = .ok (.ireturn, 1) := by decide +kernel
theorem dX7_wall_88 : decode cX7_wall 88 = .ok (.ldc 159, 2) := by decide +kernel
theorem dX7_wall_90 : decode cX7_wall 90 = .ok (.ireturn, 1) := by decide +kernel
theorem dX7_commission_0 : decode cX7_commission 0 = .ok (.aload_n 0, 1) := by decide +kernel
theorem dX7_commission_1 : decode cX7_commission 1 = .ok (.getfield 41, 3) := by decide +kernel
theorem dX7_commission_4 : decode cX7_commission 4 = .ok (.iload_n 1, 1) := by decide +kernel
theorem dX7_commission_5 : decode cX7_commission 5 = .ok (.invokevirtual 181, 3) := by decide +kernel
theorem dX7_commission_8 : decode cX7_commission 8 = .ok (.ifCond .ne 6, 3) := by decide +kernel
theorem dX7_commission_11 : decode cX7_commission 11 = .ok (.ldc 159, 2) := by decide +kernel
theorem dX7_commission_13 : decode cX7_commission 13 = .ok (.ireturn, 1) := by decide +kernel
theorem dX7_commission_14 : decode cX7_commission 14 = .ok (.aload_n 0, 1) := by decide +kernel
theorem dX7_commission_15 : decode cX7_commission 15 = .ok (.getfield 41, 3) := by decide +kernel
theorem dX7_commission_18 : decode cX7_commission 18 = .ok (.getfield 184, 3) := by decide +kernel
theorem dX7_commission_21 : decode cX7_commission 21 = .ok (.iload_n 1, 1) := by decide +kernel
theorem dX7_commission_22 : decode cX7_commission 22 = .ok (.aaload, 1) := by decide +kernel
theorem dX7_commission_23 : decode cX7_commission 23 = .ok (.astore_n 3, 1) := by decide +kernel
theorem dX7_commission_24 : decode cX7_commission 24 = .ok (.iload_n 2, 1) := by decide +kernel
theorem dX7_commission_25 : decode cX7_commission 25 = .ok (.tableswitch 100 0 8 #[51, 56, 61, 66, 71, 76, 85, 90, 95], 51) := by decide +kernel
theorem dX7_commission_76 : decode cX7_commission 76 = .ok (.aload_n 3, 1) := by decide +kernel
theorem dX7_commission_77 : decode cX7_commission 77 = .ok (.getfield 188, 3) := by decide +kernel
theorem dX7_commission_80 : decode cX7_commission 80 = .ok (.ireturn, 1) := by decide +kernel
theorem dX7_commission_81 : decode cX7_commission 81 = .ok (.aload_n 3, 1) := by decide +kernel
theorem dX7_commission_82 : decode cX7_commission 82 = .ok (.getfield 193, 3) := by decide +kernel
theorem dX7_commission_85 : decode cX7_commission 85 = .ok (.ireturn, 1) := by decide +kernel
theorem dX7_commission_86 : decode cX7_commission 86 = .ok (.aload_n 3, 1) := by decide +kernel
theorem dX7_commission_87 : decode cX7_commission 87 = .ok (.getfield 196, 3) := by decide +kernel
theorem dX7_commission_90 : decode cX7_commission 90 = .ok (.ireturn, 1) := by decide +kernel
theorem dX7_commission_91 : decode cX7_commission 91 = .ok (.aload_n 3, 1) := by decide +kernel
theorem dX7_commission_92 : decode cX7_commission 92 = .ok (.getfield 199, 3) := by decide +kernel
theorem dX7_commission_95 : decode cX7_commission 95 = .ok (.ireturn, 1) := by decide +kernel
theorem dX7_commission_96 : decode cX7_commission 96 = .ok (.aload_n 3, 1) := by decide +kernel
theorem dX7_commission_97 : decode cX7_commission 97 = .ok (.getfield 202, 3) := by decide +kernel
theorem dX7_commission_100 : decode cX7_commission 100 = .ok (.ireturn, 1) := by decide +kernel
theorem dX7_commission_101 : decode cX7_commission 101 = .ok (.aload_n 0, 1) := by decide +kernel
theorem dX7_commission_102 : decode cX7_commission 102 = .ok (.getfield 41, 3) := by decide +kernel
theorem dX7_commission_105 : decode cX7_commission 105 = .ok (.iload_n 1, 1) := by decide +kernel
theorem dX7_commission_106 : decode cX7_commission 106 = .ok (.invokevirtual 204, 3) := by decide +kernel
theorem dX7_commission_109 : decode cX7_commission 109 = .ok (.ireturn, 1) := by decide +kernel
theorem dX7_commission_110 : decode cX7_commission 110 = .ok (.aload_n 3, 1) := by decide +kernel
theorem dX7_commission_111 : decode cX7_commission 111 = .ok (.invokevirtual 207, 3) := by decide +kernel
theorem dX7_commission_114 : decode cX7_commission 114 = .ok (.ireturn, 1) := by decide +kernel
theorem dX7_commission_115 : decode cX7_commission 115 = .ok (.aload_n 3, 1) := by decide +kernel
theorem dX7_commission_116 : decode cX7_commission 116 = .ok (.getfield 210, 3) := by decide +kernel
theorem dX7_commission_119 : decode cX7_commission 119 = .ok (.ireturn, 1) := by decide +kernel
theorem dX7_commission_120 : decode cX7_commission 120 = .ok (.aload_n 3, 1) := by decide +kernel
theorem dX7_commission_121 : decode cX7_commission 121 = .ok (.getfield 213, 3) := by decide +kernel
theorem dX7_commission_124 : decode cX7_commission 124 = .ok (.ireturn, 1) := by decide +kernel
theorem dX7_commission_125 : decode cX7_commission 125 = .ok (.ldc 159, 2) := by decide +kernel
theorem dX7_commission_127 : decode cX7_commission 127 = .ok (.ireturn, 1) := by decide +kernel
theorem dX7_correction_0 : decode cX7_correction 0 = .ok (.iload_n 1, 1) := by decide +kernel
theorem dX7_correction_1 : decode cX7_correction 1 = .ok (.iconst 0, 1) := by decide +kernel
theorem dX7_correction_2 : decode cX7_correction 2 = .ok (.bipush 11, 2) := by decide +kernel
theorem dX7_correction_4 : decode cX7_correction 4 = .ok (.invokestatic 216, 3) := by decide +kernel
theorem dX7_correction_7 : decode cX7_correction 7 = .ok (.ifCond .ne 6, 3) := by decide +kernel
theorem dX7_correction_10 : decode cX7_correction 10 = .ok (.ldc 159, 2) := by decide +kernel
theorem dX7_correction_12 : decode cX7_correction 12 = .ok (.ireturn, 1) := by decide +kernel
theorem dX7_correction_13 : decode cX7_correction 13 = .ok (.aload_n 0, 1) := by decide +kernel
theorem dX7_correction_14 : decode cX7_correction 14 = .ok (.getfield 41, 3) := by decide +kernel
theorem dX7_correction_17 : decode cX7_correction 17 = .ok (.getfield 220, 3) := by decide +kernel
theorem dX7_correction_20 : decode cX7_correction 20 = .ok (.iload_n 1, 1) := by decide +kernel
theorem dX7_correction_21 : decode cX7_correction 21 = .ok (.iaload, 1) := by decide +kernel
theorem dX7_correction_22 : decode cX7_correction 22 = .ok (.ireturn, 1) := by decide +kernel
theorem dX7_sine_0 : decode cX7_sine 0 = .ok (.iload_n 1, 1) := by decide +kernel
theorem dX7_sine_1 : decode cX7_sine 1 = .ok (.sipush (-720), 3) := by decide +kernel
theorem dX7_sine_4 : decode cX7_sine 4 = .ok (.sipush 720, 3) := by decide +kernel
theorem dX7_sine_7 : decode cX7_sine 7 = .ok (.invokestatic 216, 3) := by decide +kernel
theorem dX7_sine_10 : decode cX7_sine 10 = .ok (.ifCond .ne 6, 3) := by decide +kernel
theorem dX7_sine_13 : decode cX7_sine 13 = .ok (.ldc 159, 2) := by decide +kernel
theorem dX7_sine_15 : decode cX7_sine 15 = .ok (.ireturn, 1) := by decide +kernel
theorem dX7_sine_16 : decode cX7_sine 16 = .ok (.iload_n 1, 1) := by decide +kernel
theorem dX7_sine_17 : decode cX7_sine 17 = .ok (.invokestatic 223, 3) := by decide +kernel
theorem dX7_sine_20 : decode cX7_sine 20 = .ok (.ireturn, 1) := by decide +kernel
theorem dX7_offset_0 : decode cX7_offset 0 = .ok (.aload_n 0, 1) := by decide +kernel
theorem dX7_offset_1 : decode cX7_offset 1 = .ok (.getfield 41, 3) := by decide +kernel
theorem dX7_offset_4 : decode cX7_offset 4 = .ok (.iload_n 1, 1) := by decide +kernel
theorem dX7_offset_5 : decode cX7_offset 5 = .ok (.invokevirtual 181, 3) := by decide +kernel
theorem dX7_offset_8 : decode cX7_offset 8 = .ok (.ifCond .eq 16, 3) := by decide +kernel
theorem dX7_offset_11 : decode cX7_offset 11 = .ok (.iload_n 2, 1) := by decide +kernel
theorem dX7_offset_12 : decode cX7_offset 12 = .ok (.sipush (-360), 3) := by decide +kernel
theorem dX7_offset_15 : decode cX7_offset 15 = .ok (.sipush 360, 3) := by decide +kernel
theorem dX7_offset_18 : decode cX7_offset 18 = .ok (.invokestatic 216, 3) := by decide +kernel
theorem dX7_offset_21 : decode cX7_offset 21 = .ok (.ifCond .ne 6, 3) := by decide +kernel
theorem dX7_offset_24 : decode cX7_offset 24 = .ok (.ldc 159, 2) := by decide +kernel
theorem dX7_offset_26 : decode cX7_offset 26 = .ok (.ireturn, 1) := by decide +kernel
theorem dX7_offset_27 : decode cX7_offset 27 = .ok (.aload_n 0, 1) := by decide +kernel
theorem dX7_offset_28 : decode cX7_offset 28 = .ok (.iload_n 1, 1) := by decide +kernel
theorem dX7_offset_29 : decode cX7_offset 29 = .ok (.invokevirtual 226, 3) := by decide +kernel
theorem dX7_offset_32 : decode cX7_offset 32 = .ok (.ifCond .ne 6, 3) := by decide +kernel
theorem dX7_offset_35 : decode cX7_offset 35 = .ok (.ldc 95, 2) := by decide +kernel
theorem dX7_offset_37 : decode cX7_offset 37 = .ok (.ireturn, 1) := by decide +kernel
theorem dX7_offset_38 : decode cX7_offset 38 = .ok (.aload_n 0, 1) := by decide +kernel
theorem dX7_offset_39 : decode cX7_offset 39 = .ok (.getfield 33, 3) := by decide +kernel
theorem dX7_offset_42 : decode cX7_offset 42 = .ok (.iload_n 2, 1) := by decide +kernel
theorem dX7_offset_43 : decode cX7_offset 43 = .ok (.invokevirtual 229, 3) := by decide +kernel
theorem dX7_offset_46 : decode cX7_offset 46 = .ok (.ireturn, 1) := by decide +kernel
theorem dX7_lines_0 : decode cX7_lines 0 = .ok (.aload_n 0, 1) := by decide +kernel
theorem dX7_lines_1 : decode cX7_lines 1 = .ok (.getfield 41, 3) := by decide +kernel
theorem dX7_lines_4 : decode cX7_lines 4 = .ok (.iload_n 1, 1) := by decide +kernel
theorem dX7_lines_5 : decode cX7_lines 5 = .ok (.invokevirtual 181, 3) := by decide +kernel
theorem dX7_lines_8 : decode cX7_lines 8 = .ok (.ifCond .eq 12, 3) := by decide +kernel
theorem dX7_lines_11 : decode cX7_lines 11 = .ok (.iload_n 2, 1) := by decide +kernel
theorem dX7_lines_12 : decode cX7_lines 12 = .ok (.iconst 0, 1) := by decide +kernel
theorem dX7_lines_13 : decode cX7_lines 13 = .ok (.iconst 2, 1) := by decide +kernel
theorem dX7_lines_14 : decode cX7_lines 14 = .ok (.invokestatic 216, 3) := by decide +kernel
theorem dX7_lines_17 : decode cX7_lines 17 = .ok (.ifCond .ne 6, 3) := by decide +kernel
theorem dX7_lines_20 : decode cX7_lines 20 = .ok (.ldc 159, 2) := by decide +kernel
theorem dX7_lines_22 : decode cX7_lines 22 = .ok (.ireturn, 1) := by decide +kernel
theorem dX7_lines_23 : decode cX7_lines 23 = .ok (.aload_n 0, 1) := by decide +kernel
theorem dX7_lines_24 : decode cX7_lines 24 = .ok (.iload_n 1, 1) := by decide +kernel
theorem dX7_lines_25 : decode cX7_lines 25 = .ok (.invokevirtual 226, 3) := by decide +kernel
theorem dX7_lines_28 : decode cX7_lines 28 = .ok (.ifCond .ne 6, 3) := by decide +kernel
theorem dX7_lines_31 : decode cX7_lines 31 = .ok (.ldc 95, 2) := by decide +kernel
theorem dX7_lines_33 : decode cX7_lines 33 = .ok (.ireturn, 1) := by decide +kernel
theorem dX7_lines_34 : decode cX7_lines 34 = .ok (.iload_n 2, 1) := by decide +kernel
theorem dX7_lines_35 : decode cX7_lines 35 = .ok (.lookupswitch 41 #[(0, 25), (1, 33)], 25) := by decide +kernel
theorem dX7_lines_60 : decode cX7_lines 60 = .ok (.aload_n 0, 1) := by decide +kernel
theorem dX7_lines_61 : decode cX7_lines 61 = .ok (.getfield 33, 3) := by decide +kernel
theorem dX7_lines_64 : decode cX7_lines 64 = .ok (.invokevirtual 232, 3) := by decide +kernel
theorem dX7_lines_67 : decode cX7_lines 67 = .ok (.ireturn, 1) := by decide +kernel
theorem dX7_lines_68 : decode cX7_lines 68 = .ok (.aload_n 0, 1) := by decide +kernel
theorem dX7_lines_69 : decode cX7_lines 69 = .ok (.getfield 33, 3) := by decide +kernel
theorem dX7_lines_72 : decode cX7_lines 72 = .ok (.invokevirtual 235, 3) := by decide +kernel
theorem dX7_lines_75 : decode cX7_lines 75 = .ok (.ireturn, 1) := by decide +kernel
theorem dX7_lines_76 : decode cX7_lines 76 = .ok (.aload_n 0, 1) := by decide +kernel
theorem dX7_lines_77 : decode cX7_lines 77 = .ok (.getfield 33, 3) := by decide +kernel
theorem dX7_lines_80 : decode cX7_lines 80 = .ok (.invokevirtual 238, 3) := by decide +kernel
theorem dX7_lines_83 : decode cX7_lines 83 = .ok (.ireturn, 1) := by decide +kernel
theorem dX7_read_0 : decode cX7_read 0 = .ok (.aload_n 0, 1) := by decide +kernel
theorem dX7_read_1 : decode cX7_read 1 = .ok (.getfield 41, 3) := by decide +kernel
theorem dX7_read_4 : decode cX7_read 4 = .ok (.iload_n 1, 1) := by decide +kernel
theorem dX7_read_5 : decode cX7_read 5 = .ok (.invokevirtual 181, 3) := by decide +kernel
theorem dX7_read_8 : decode cX7_read 8 = .ok (.ifCond .eq 36, 3) := by decide +kernel
theorem dX7_read_11 : decode cX7_read 11 = .ok (.iload_n 2, 1) := by decide +kernel
theorem dX7_read_12 : decode cX7_read 12 = .ok (.sipush (-3000), 3) := by decide +kernel
theorem dX7_read_15 : decode cX7_read 15 = .ok (.sipush 3000, 3) := by decide +kernel
theorem dX7_read_18 : decode cX7_read 18 = .ok (.invokestatic 216, 3) := by decide +kernel
theorem dX7_read_21 : decode cX7_read 21 = .ok (.ifCond .eq 23, 3) := by decide +kernel
theorem dX7_read_24 : decode cX7_read 24 = .ok (.iload_n 3, 1) := by decide +kernel
theorem dX7_read_25 : decode cX7_read 25 = .ok (.iconst 0, 1) := by decide +kernel
theorem dX7_read_26 : decode cX7_read 26 = .ok (.iconst 1, 1) := by decide +kernel
theorem dX7_read_27 : decode cX7_read 27 = .ok (.invokestatic 216, 3) := by decide +kernel
theorem dX7_read_30 : decode cX7_read 30 = .ok (.ifCond .eq 14, 3) := by decide +kernel
theorem dX7_read_33 : decode cX7_read 33 = .ok (.iload 4, 2) := by decide +kernel
theorem dX7_read_35 : decode cX7_read 35 = .ok (.iconst (-1), 1) := by decide +kernel
theorem dX7_read_36 : decode cX7_read 36 = .ok (.bipush 11, 2) := by decide +kernel
theorem dX7_read_38 : decode cX7_read 38 = .ok (.invokestatic 216, 3) := by decide +kernel
theorem dX7_read_41 : decode cX7_read 41 = .ok (.ifCond .ne 6, 3) := by decide +kernel
theorem dX7_read_44 : decode cX7_read 44 = .ok (.ldc 159, 2) := by decide +kernel
theorem dX7_read_46 : decode cX7_read 46 = .ok (.ireturn, 1) := by decide +kernel
theorem dX7_read_47 : decode cX7_read 47 = .ok (.aload_n 0, 1) := by decide +kernel
theorem dX7_read_48 : decode cX7_read 48 = .ok (.iload_n 1, 1) := by decide +kernel
theorem dX7_read_49 : decode cX7_read 49 = .ok (.invokevirtual 226, 3) := by decide +kernel
theorem dX7_read_52 : decode cX7_read 52 = .ok (.ifCond .ne 6, 3) := by decide +kernel
theorem dX7_read_55 : decode cX7_read 55 = .ok (.ldc 95, 2) := by decide +kernel
theorem dX7_read_57 : decode cX7_read 57 = .ok (.ireturn, 1) := by decide +kernel
theorem dX7_read_58 : decode cX7_read 58 = .ok (.iload_n 3, 1) := by decide +kernel
theorem dX7_read_59 : decode cX7_read 59 = .ok (.ifCond .ne 14, 3) := by decide +kernel
theorem dX7_read_62 : decode cX7_read 62 = .ok (.aload_n 0, 1) := by decide +kernel
theorem dX7_read_63 : decode cX7_read 63 = .ok (.getfield 33, 3) := by decide +kernel
theorem dX7_read_66 : decode cX7_read 66 = .ok (.iload_n 2, 1) := by decide +kernel
theorem dX7_read_67 : decode cX7_read 67 = .ok (.invokevirtual 241, 3) := by decide +kernel
theorem dX7_read_70 : decode cX7_read 70 = .ok (.goto 11, 3) := by decide +kernel
theorem dX7_read_73 : decode cX7_read 73 = .ok (.aload_n 0, 1) := by decide +kernel
theorem dX7_read_74 : decode cX7_read 74 = .ok (.getfield 33, 3) := by decide +kernel
theorem dX7_read_77 : decode cX7_read 77 = .ok (.iload_n 2, 1) := by decide +kernel
theorem dX7_read_78 : decode cX7_read 78 = .ok (.invokevirtual 244, 3) := by decide +kernel
theorem dX7_read_81 : decode cX7_read 81 = .ok (.istore 5, 2) := by decide +kernel
theorem dX7_read_83 : decode cX7_read 83 = .ok (.iload 5, 2) := by decide +kernel
theorem dX7_read_85 : decode cX7_read 85 = .ok (.ldc 247, 2) := by decide +kernel
theorem dX7_read_87 : decode cX7_read 87 = .ok (.if_icmp .eq 9, 3) := by decide +kernel
theorem dX7_read_90 : decode cX7_read 90 = .ok (.iload 4, 2) := by decide +kernel
theorem dX7_read_92 : decode cX7_read 92 = .ok (.iconst (-1), 1) := by decide +kernel
theorem dX7_read_93 : decode cX7_read 93 = .ok (.if_icmp .ne 6, 3) := by decide +kernel
theorem dX7_read_96 : decode cX7_read 96 = .ok (.iload 5, 2) := by decide +kernel
theorem dX7_read_98 : decode cX7_read 98 = .ok (.ireturn, 1) := by decide +kernel
theorem dX7_read_99 : decode cX7_read 99 = .ok (.iload 5, 2) := by decide +kernel
theorem dX7_read_101 : decode cX7_read 101 = .ok (.aload_n 0, 1) := by decide +kernel
theorem dX7_read_102 : decode cX7_read 102 = .ok (.getfield 41, 3) := by decide +kernel
theorem dX7_read_105 : decode cX7_read 105 = .ok (.getfield 220, 3) := by decide +kernel
theorem dX7_read_108 : decode cX7_read 108 = .ok (.iload 4, 2) := by decide +kernel
theorem dX7_read_110 : decode cX7_read 110 = .ok (.iaload, 1) := by decide +kernel
theorem dX7_read_111 : decode cX7_read 111 = .ok (.iadd, 1) := by decide +kernel
theorem dX7_read_112 : decode cX7_read 112 = .ok (.aload_n 0, 1) := by decide +kernel
theorem dX7_read_113 : decode cX7_read 113 = .ok (.getfield 41, 3) := by decide +kernel
theorem dX7_read_116 : decode cX7_read 116 = .ok (.getfield 184, 3) := by decide +kernel
theorem dX7_read_119 : decode cX7_read 119 = .ok (.iload_n 1, 1) := by decide +kernel
theorem dX7_read_120 : decode cX7_read 120 = .ok (.aaload, 1) := by decide +kernel
theorem dX7_read_121 : decode cX7_read 121 = .ok (.getfield 199, 3) := by decide +kernel
theorem dX7_read_124 : decode cX7_read 124 = .ok (.iadd, 1) := by decide +kernel
theorem dX7_read_125 : decode cX7_read 125 = .ok (.ireturn, 1) := by decide +kernel
theorem dX7_apart_0 : decode cX7_apart 0 = .ok (.aload_n 0, 1) := by decide +kernel
theorem dX7_apart_1 : decode cX7_apart 1 = .ok (.getfield 41, 3) := by decide +kernel
theorem dX7_apart_4 : decode cX7_apart 4 = .ok (.iload_n 1, 1) := by decide +kernel
theorem dX7_apart_5 : decode cX7_apart 5 = .ok (.invokevirtual 181, 3) := by decide +kernel
theorem dX7_apart_8 : decode cX7_apart 8 = .ok (.ifCond .eq 12, 3) := by decide +kernel
theorem dX7_apart_11 : decode cX7_apart 11 = .ok (.iload_n 2, 1) := by decide +kernel
theorem dX7_apart_12 : decode cX7_apart 12 = .ok (.iconst 0, 1) := by decide +kernel
theorem dX7_apart_13 : decode cX7_apart 13 = .ok (.iconst 1, 1) := by decide +kernel
theorem dX7_apart_14 : decode cX7_apart 14 = .ok (.invokestatic 216, 3) := by decide +kernel
theorem dX7_apart_17 : decode cX7_apart 17 = .ok (.ifCond .ne 6, 3) := by decide +kernel
theorem dX7_apart_20 : decode cX7_apart 20 = .ok (.ldc 159, 2) := by decide +kernel
theorem dX7_apart_22 : decode cX7_apart 22 = .ok (.ireturn, 1) := by decide +kernel
theorem dX7_apart_23 : decode cX7_apart 23 = .ok (.aload_n 0, 1) := by decide +kernel
theorem dX7_apart_24 : decode cX7_apart 24 = .ok (.iload_n 1, 1) := by decide +kernel
theorem dX7_apart_25 : decode cX7_apart 25 = .ok (.invokevirtual 226, 3) := by decide +kernel
theorem dX7_apart_28 : decode cX7_apart 28 = .ok (.ifCond .ne 6, 3) := by decide +kernel
theorem dX7_apart_31 : decode cX7_apart 31 = .ok (.ldc 95, 2) := by decide +kernel
theorem dX7_apart_33 : decode cX7_apart 33 = .ok (.ireturn, 1) := by decide +kernel
theorem dX7_apart_34 : decode cX7_apart 34 = .ok (.aload_n 0, 1) := by decide +kernel
theorem dX7_apart_35 : decode cX7_apart 35 = .ok (.getfield 33, 3) := by decide +kernel
theorem dX7_apart_38 : decode cX7_apart 38 = .ok (.invokevirtual 248, 3) := by decide +kernel
theorem dX7_apart_41 : decode cX7_apart 41 = .ok (.iload_n 2, 1) := by decide +kernel
theorem dX7_apart_42 : decode cX7_apart 42 = .ok (.ifCond .ne 13, 3) := by decide +kernel
theorem dX7_apart_45 : decode cX7_apart 45 = .ok (.aload_n 0, 1) := by decide +kernel
theorem dX7_apart_46 : decode cX7_apart 46 = .ok (.getfield 33, 3) := by decide +kernel
theorem dX7_apart_49 : decode cX7_apart 49 = .ok (.getfield 251, 3) := by decide +kernel
theorem dX7_apart_52 : decode cX7_apart 52 = .ok (.goto 10, 3) := by decide +kernel
theorem dX7_apart_55 : decode cX7_apart 55 = .ok (.aload_n 0, 1) := by decide +kernel
theorem dX7_apart_56 : decode cX7_apart 56 = .ok (.getfield 33, 3) := by decide +kernel
theorem dX7_apart_59 : decode cX7_apart 59 = .ok (.getfield 254, 3) := by decide +kernel
theorem dX7_apart_62 : decode cX7_apart 62 = .ok (.ireturn, 1) := by decide +kernel
theorem dX7_reason_0 : decode cX7_reason 0 = .ok (.aload_n 0, 1) := by decide +kernel
theorem dX7_reason_1 : decode cX7_reason 1 = .ok (.iload_n 1, 1) := by decide +kernel
theorem dX7_reason_2 : decode cX7_reason 2 = .ok (.invokevirtual 70, 3) := by decide +kernel
theorem dX7_reason_5 : decode cX7_reason 5 = .ok (.ireturn, 1) := by decide +kernel
theorem dX7_bestLatitude_0 : decode cX7_bestLatitude 0 = .ok (.iload_n 1, 1) := by decide +kernel
theorem dX7_bestLatitude_1 : decode cX7_bestLatitude 1 = .ok (.bipush 100, 2) := by decide +kernel
theorem dX7_bestLatitude_3 : decode cX7_bestLatitude 3 = .ok (.if_icmp .eq 7, 3) := by decide +kernel
theorem dX7_bestLatitude_6 : decode cX7_bestLatitude 6 = .ok (.iconst 1, 1) := by decide +kernel
theorem dX7_bestLatitude_7 : decode cX7_bestLatitude 7 = .ok (.goto 4, 3) := by decide +kernel
theorem dX7_bestLatitude_10 : decode cX7_bestLatitude 10 = .ok (.iconst 0, 1) := by decide +kernel
theorem dX7_bestLatitude_11 : decode cX7_bestLatitude 11 = .ok (.istore_n 2, 1) := by decide +kernel
theorem dX7_bestLatitude_12 : decode cX7_bestLatitude 12 = .ok (.iload_n 2, 1) := by decide +kernel
theorem dX7_bestLatitude_13 : decode cX7_bestLatitude 13 = .ok (.ifCond .eq 17, 3) := by decide +kernel
theorem dX7_bestLatitude_16 : decode cX7_bestLatitude 16 = .ok (.iload_n 1, 1) := by decide +kernel
theorem dX7_bestLatitude_17 : decode cX7_bestLatitude 17 = .ok (.bipush (-60), 2) := by decide +kernel
theorem dX7_bestLatitude_19 : decode cX7_bestLatitude 19 = .ok (.bipush 60, 2) := by decide +kernel
theorem dX7_bestLatitude_21 : decode cX7_bestLatitude 21 = .ok (.invokestatic 216, 3) := by decide +kernel
theorem dX7_bestLatitude_24 : decode cX7_bestLatitude 24 = .ok (.ifCond .ne 6, 3) := by decide +kernel
theorem dX7_bestLatitude_27 : decode cX7_bestLatitude 27 = .ok (.ldc 159, 2) := by decide +kernel
theorem dX7_bestLatitude_29 : decode cX7_bestLatitude 29 = .ok (.ireturn, 1) := by decide +kernel
theorem dX7_bestLatitude_30 : decode cX7_bestLatitude 30 = .ok (.ldc 247, 2) := by decide +kernel
theorem dX7_bestLatitude_32 : decode cX7_bestLatitude 32 = .ok (.istore_n 3, 1) := by decide +kernel
theorem dX7_bestLatitude_33 : decode cX7_bestLatitude 33 = .ok (.iconst 0, 1) := by decide +kernel
theorem dX7_bestLatitude_34 : decode cX7_bestLatitude 34 = .ok (.istore 4, 2) := by decide +kernel
theorem dX7_bestLatitude_36 : decode cX7_bestLatitude 36 = .ok (.bipush 10, 2) := by decide +kernel
theorem dX7_bestLatitude_38 : decode cX7_bestLatitude 38 = .ok (.istore 5, 2) := by decide +kernel
theorem dX7_bestLatitude_40 : decode cX7_bestLatitude 40 = .ok (.iload 5, 2) := by decide +kernel
theorem dX7_bestLatitude_42 : decode cX7_bestLatitude 42 = .ok (.bipush 70, 2) := by decide +kernel
theorem dX7_bestLatitude_44 : decode cX7_bestLatitude 44 = .ok (.if_icmp .gt 65, 3) := by decide +kernel
theorem dX7_bestLatitude_47 : decode cX7_bestLatitude 47 = .ok (.aload_n 0, 1) := by decide +kernel
theorem dX7_bestLatitude_48 : decode cX7_bestLatitude 48 = .ok (.getfield 33, 3) := by decide +kernel
theorem dX7_bestLatitude_51 : decode cX7_bestLatitude 51 = .ok (.iload_n 2, 1) := by decide +kernel
theorem dX7_bestLatitude_52 : decode cX7_bestLatitude 52 = .ok (.iload 5, 2) := by decide +kernel
theorem dX7_bestLatitude_54 : decode cX7_bestLatitude 54 = .ok (.iload_n 2, 1) := by decide +kernel
theorem dX7_bestLatitude_55 : decode cX7_bestLatitude 55 = .ok (.ifCond .eq 7, 3) := by decide +kernel
theorem dX7_bestLatitude_58 : decode cX7_bestLatitude 58 = .ok (.iload_n 1, 1) := by decide +kernel
theorem dX7_bestLatitude_59 : decode cX7_bestLatitude 59 = .ok (.goto 4, 3) := by decide +kernel
theorem dX7_bestLatitude_62 : decode cX7_bestLatitude 62 = .ok (.iconst 0, 1) := by decide +kernel
theorem dX7_bestLatitude_63 : decode cX7_bestLatitude 63 = .ok (.invokevirtual 257, 3) := by decide +kernel
theorem dX7_bestLatitude_66 : decode cX7_bestLatitude 66 = .ok (.aload_n 0, 1) := by decide +kernel
theorem dX7_bestLatitude_67 : decode cX7_bestLatitude 67 = .ok (.getfield 33, 3) := by decide +kernel
theorem dX7_bestLatitude_70 : decode cX7_bestLatitude 70 = .ok (.invokevirtual 248, 3) := by decide +kernel
theorem dX7_bestLatitude_73 : decode cX7_bestLatitude 73 = .ok (.iload_n 3, 1) := by decide +kernel
theorem dX7_bestLatitude_74 : decode cX7_bestLatitude 74 = .ok (.ldc 247, 2) := by decide +kernel
theorem dX7_bestLatitude_76 : decode cX7_bestLatitude 76 = .ok (.if_icmp .eq 15, 3) := by decide +kernel
theorem dX7_bestLatitude_79 : decode cX7_bestLatitude 79 = .ok (.aload_n 0, 1) := by decide +kernel
theorem dX7_bestLatitude_80 : decode cX7_bestLatitude 80 = .ok (.getfield 33, 3) := by decide +kernel
theorem dX7_bestLatitude_83 : decode cX7_bestLatitude 83 = .ok (.getfield 251, 3) := by decide +kernel
theorem dX7_bestLatitude_86 : decode cX7_bestLatitude 86 = .ok (.iload 4, 2) := by decide +kernel
theorem dX7_bestLatitude_88 : decode cX7_bestLatitude 88 = .ok (.if_icmp .ge 15, 3) := by decide +kernel
theorem dX7_bestLatitude_91 : decode cX7_bestLatitude 91 = .ok (.aload_n 0, 1) := by decide +kernel
theorem dX7_bestLatitude_92 : decode cX7_bestLatitude 92 = .ok (.getfield 33, 3) := by decide +kernel
theorem dX7_bestLatitude_95 : decode cX7_bestLatitude 95 = .ok (.getfield 251, 3) := by decide +kernel
theorem dX7_bestLatitude_98 : decode cX7_bestLatitude 98 = .ok (.istore 4, 2) := by decide +kernel
theorem dX7_bestLatitude_100 : decode cX7_bestLatitude 100 = .ok (.iload 5, 2) := by decide +kernel
theorem dX7_bestLatitude_102 : decode cX7_bestLatitude 102 = .ok (.istore_n 3, 1) := by decide +kernel
theorem dX7_bestLatitude_103 : decode cX7_bestLatitude 103 = .ok (.iinc 5 1, 3) := by decide +kernel
theorem dX7_bestLatitude_106 : decode cX7_bestLatitude 106 = .ok (.goto (-66), 3) := by decide +kernel
theorem dX7_bestLatitude_109 : decode cX7_bestLatitude 109 = .ok (.iload_n 3, 1) := by decide +kernel
theorem dX7_bestLatitude_110 : decode cX7_bestLatitude 110 = .ok (.ireturn, 1) := by decide +kernel
theorem dX7_melts_0 : decode cX7_melts 0 = .ok (.aload_n 0, 1) := by decide +kernel
theorem dX7_melts_1 : decode cX7_melts 1 = .ok (.getfield 41, 3) := by decide +kernel
theorem dX7_melts_4 : decode cX7_melts 4 = .ok (.invokevirtual 261, 3) := by decide +kernel
theorem dX7_melts_7 : decode cX7_melts 7 = .ok (.ireturn, 1) := by decide +kernel
theorem dX7_recorded_0 : decode cX7_recorded 0 = .ok (.iload_n 1, 1) := by decide +kernel
theorem dX7_recorded_1 : decode cX7_recorded 1 = .ok (.invokestatic 124, 3) := by decide +kernel
theorem dX7_recorded_4 : decode cX7_recorded 4 = .ok (.ifCond .ne 10, 3) := by decide +kernel
theorem dX7_recorded_7 : decode cX7_recorded 7 = .ok (.aload_n 0, 1) := by decide +kernel
theorem dX7_recorded_8 : decode cX7_recorded 8 = .ok (.getfield 19, 3) := by decide +kernel
theorem dX7_recorded_11 : decode cX7_recorded 11 = .ok (.invokevirtual 128, 3) := by decide +kernel
theorem dX7_recorded_14 : decode cX7_recorded 14 = .ok (.iload_n 1, 1) := by decide +kernel
theorem dX7_recorded_15 : decode cX7_recorded 15 = .ok (.ireturn, 1) := by decide +kernel
theorem dX7_judge_0 : decode cX7_judge 0 = .ok (.aload_n 0, 1) := by decide +kernel
theorem dX7_judge_1 : decode cX7_judge 1 = .ok (.getfield 41, 3) := by decide +kernel
theorem dX7_judge_4 : decode cX7_judge 4 = .ok (.iload_n 1, 1) := by decide +kernel
theorem dX7_judge_5 : decode cX7_judge 5 = .ok (.invokevirtual 181, 3) := by decide +kernel
theorem dX7_judge_8 : decode cX7_judge 8 = .ok (.ifCond .ne 6, 3) := by decide +kernel
theorem dX7_judge_11 : decode cX7_judge 11 = .ok (.ldc 159, 2) := by decide +kernel
theorem dX7_judge_13 : decode cX7_judge 13 = .ok (.ireturn, 1) := by decide +kernel
theorem dX7_judge_14 : decode cX7_judge 14 = .ok (.aload_n 0, 1) := by decide +kernel
theorem dX7_judge_15 : decode cX7_judge 15 = .ok (.iload_n 1, 1) := by decide +kernel
theorem dX7_judge_16 : decode cX7_judge 16 = .ok (.invokevirtual 226, 3) := by decide +kernel
theorem dX7_judge_19 : decode cX7_judge 19 = .ok (.ifCond .ne 5, 3) := by decide +kernel
theorem dX7_judge_22 : decode cX7_judge 22 = .ok (.iconst 1, 1) := by decide +kernel
theorem dX7_judge_23 : decode cX7_judge 23 = .ok (.ireturn, 1) := by decide +kernel
theorem dX7_judge_24 : decode cX7_judge 24 = .ok (.aload_n 0, 1) := by decide +kernel
theorem dX7_judge_25 : decode cX7_judge 25 = .ok (.getfield 33, 3) := by decide +kernel
theorem dX7_judge_28 : decode cX7_judge 28 = .ok (.invokevirtual 232, 3) := by decide +kernel
theorem dX7_judge_31 : decode cX7_judge 31 = .ok (.aload_n 0, 1) := by decide +kernel
theorem dX7_judge_32 : decode cX7_judge 32 = .ok (.getfield 41, 3) := by decide +kernel
theorem dX7_judge_35 : decode cX7_judge 35 = .ok (.getfield 155, 3) := by decide +kernel
theorem dX7_judge_38 : decode cX7_judge 38 = .ok (.iconst 1, 1) := by decide +kernel
theorem dX7_judge_39 : decode cX7_judge 39 = .ok (.iaload, 1) := by decide +kernel
theorem dX7_judge_40 : decode cX7_judge 40 = .ok (.if_icmp .ge 5, 3) := by decide +kernel
theorem dX7_judge_43 : decode cX7_judge 43 = .ok (.iconst 2, 1) := by decide +kernel
theorem dX7_judge_44 : decode cX7_judge 44 = .ok (.ireturn, 1) := by decide +kernel
theorem dX7_judge_45 : decode cX7_judge 45 = .ok (.aload_n 0, 1) := by decide +kernel
theorem dX7_judge_46 : decode cX7_judge 46 = .ok (.getfield 33, 3) := by decide +kernel
theorem dX7_judge_49 : decode cX7_judge 49 = .ok (.invokevirtual 248, 3) := by decide +kernel
theorem dX7_judge_52 : decode cX7_judge 52 = .ok (.aload_n 0, 1) := by decide +kernel
theorem dX7_judge_53 : decode cX7_judge 53 = .ok (.getfield 33, 3) := by decide +kernel
theorem dX7_judge_56 : decode cX7_judge 56 = .ok (.getfield 251, 3) := by decide +kernel
theorem dX7_judge_59 : decode cX7_judge 59 = .ok (.aload_n 0, 1) := by decide +kernel
theorem dX7_judge_60 : decode cX7_judge 60 = .ok (.getfield 41, 3) := by decide +kernel
theorem dX7_judge_63 : decode cX7_judge 63 = .ok (.getfield 155, 3) := by decide +kernel
theorem dX7_judge_66 : decode cX7_judge 66 = .ok (.iconst 2, 1) := by decide +kernel
theorem dX7_judge_67 : decode cX7_judge 67 = .ok (.iaload, 1) := by decide +kernel
theorem dX7_judge_68 : decode cX7_judge 68 = .ok (.if_icmp .le 5, 3) := by decide +kernel
theorem dX7_judge_71 : decode cX7_judge 71 = .ok (.iconst 3, 1) := by decide +kernel
theorem dX7_judge_72 : decode cX7_judge 72 = .ok (.ireturn, 1) := by decide +kernel
theorem dX7_judge_73 : decode cX7_judge 73 = .ok (.aload_n 0, 1) := by decide +kernel
theorem dX7_judge_74 : decode cX7_judge 74 = .ok (.getfield 41, 3) := by decide +kernel
theorem dX7_judge_77 : decode cX7_judge 77 = .ok (.getfield 184, 3) := by decide +kernel
theorem dX7_judge_80 : decode cX7_judge 80 = .ok (.iload_n 1, 1) := by decide +kernel
theorem dX7_judge_81 : decode cX7_judge 81 = .ok (.aaload, 1) := by decide +kernel
theorem dX7_judge_82 : decode cX7_judge 82 = .ok (.invokevirtual 207, 3) := by decide +kernel
theorem dX7_judge_85 : decode cX7_judge 85 = .ok (.aload_n 0, 1) := by decide +kernel
theorem dX7_judge_86 : decode cX7_judge 86 = .ok (.getfield 41, 3) := by decide +kernel
theorem dX7_judge_89 : decode cX7_judge 89 = .ok (.getfield 155, 3) := by decide +kernel
theorem dX7_judge_92 : decode cX7_judge 92 = .ok (.iconst 3, 1) := by decide +kernel
theorem dX7_judge_93 : decode cX7_judge 93 = .ok (.iaload, 1) := by decide +kernel
theorem dX7_judge_94 : decode cX7_judge 94 = .ok (.if_icmp .le 5, 3) := by decide +kernel
theorem dX7_judge_97 : decode cX7_judge 97 = .ok (.iconst 4, 1) := by decide +kernel
theorem dX7_judge_98 : decode cX7_judge 98 = .ok (.ireturn, 1) := by decide +kernel
theorem dX7_judge_99 : decode cX7_judge 99 = .ok (.iconst 0, 1) := by decide +kernel
theorem dX7_judge_100 : decode cX7_judge 100 = .ok (.ireturn, 1) := by decide +kernel
theorem dX7_layDial_0 : decode cX7_layDial 0 = .ok (.aload_n 0, 1) := by decide +kernel
theorem dX7_layDial_1 : decode cX7_layDial 1 = .ok (.getfield 41, 3) := by decide +kernel
theorem dX7_layDial_4 : decode cX7_layDial 4 = .ok (.iload_n 1, 1) := by decide +kernel
theorem dX7_layDial_5 : decode cX7_layDial 5 = .ok (.invokevirtual 204, 3) := by decide +kernel
theorem dX7_layDial_8 : decode cX7_layDial 8 = .ok (.istore_n 2, 1) := by decide +kernel
theorem dX7_layDial_9 : decode cX7_layDial 9 = .ok (.iload_n 2, 1) := by decide +kernel
theorem dX7_layDial_10 : decode cX7_layDial 10 = .ok (.ldc 247, 2) := by decide +kernel
theorem dX7_layDial_12 : decode cX7_layDial 12 = .ok (.if_icmp .ne 5, 3) := by decide +kernel
theorem dX7_layDial_15 : decode cX7_layDial 15 = .ok (.iconst 0, 1) := by decide +kernel
theorem dX7_layDial_16 : decode cX7_layDial 16 = .ok (.ireturn, 1) := by decide +kernel
theorem dX7_layDial_17 : decode cX7_layDial 17 = .ok (.aload_n 0, 1) := by decide +kernel
theorem dX7_layDial_18 : decode cX7_layDial 18 = .ok (.getfield 41, 3) := by decide +kernel
theorem dX7_layDial_21 : decode cX7_layDial 21 = .ok (.getfield 184, 3) := by decide +kernel
theorem dX7_layDial_24 : decode cX7_layDial 24 = .ok (.iload_n 1, 1) := by decide +kernel
theorem dX7_layDial_25 : decode cX7_layDial 25 = .ok (.aaload, 1) := by decide +kernel
theorem dX7_layDial_26 : decode cX7_layDial 26 = .ok (.astore_n 3, 1) := by decide +kernel
theorem dX7_layDial_27 : decode cX7_layDial 27 = .ok (.aload_n 0, 1) := by decide +kernel
theorem dX7_layDial_28 : decode cX7_layDial 28 = .ok (.getfield 33, 3) := by decide +kernel
theorem dX7_layDial_31 : decode cX7_layDial 31 = .ok (.aload_n 3, 1) := by decide +kernel
theorem dX7_layDial_32 : decode cX7_layDial 32 = .ok (.getfield 193, 3) := by decide +kernel
theorem dX7_layDial_35 : decode cX7_layDial 35 = .ok (.iconst (-1), 1) := by decide +kernel
theorem dX7_layDial_36 : decode cX7_layDial 36 = .ok (.if_icmp .eq 7, 3) := by decide +kernel
theorem dX7_layDial_39 : decode cX7_layDial 39 = .ok (.iconst 1, 1) := by decide +kernel
theorem dX7_layDial_40 : decode cX7_layDial 40 = .ok (.goto 4, 3) := by decide +kernel
theorem dX7_layDial_43 : decode cX7_layDial 43 = .ok (.iconst 0, 1) := by decide +kernel
theorem dX7_layDial_44 : decode cX7_layDial 44 = .ok (.aload_n 3, 1) := by decide +kernel
theorem dX7_layDial_45 : decode cX7_layDial 45 = .ok (.getfield 188, 3) := by decide +kernel
theorem dX7_layDial_48 : decode cX7_layDial 48 = .ok (.iload_n 2, 1) := by decide +kernel
theorem dX7_layDial_49 : decode cX7_layDial 49 = .ok (.invokevirtual 257, 3) := by decide +kernel
theorem dX7_layDial_52 : decode cX7_layDial 52 = .ok (.iconst 1, 1) := by decide +kernel
theorem dX7_layDial_53 : decode cX7_layDial 53 = .ok (.ireturn, 1) := by decide +kernel
theorem dX7_isError_0 : decode cX7_isError 0 = .ok (.iload_n 0, 1) := by decide +kernel
theorem dX7_isError_1 : decode cX7_isError 1 = .ok (.ldc 159, 2) := by decide +kernel
theorem dX7_isError_3 : decode cX7_isError 3 = .ok (.if_icmp .eq 16, 3) := by decide +kernel
theorem dX7_isError_6 : decode cX7_isError 6 = .ok (.iload_n 0, 1) := by decide +kernel
theorem dX7_isError_7 : decode cX7_isError 7 = .ok (.ldc 95, 2) := by decide +kernel
theorem dX7_isError_9 : decode cX7_isError 9 = .ok (.if_icmp .eq 10, 3) := by decide +kernel
theorem dX7_isError_12 : decode cX7_isError 12 = .ok (.iload_n 0, 1) := by decide +kernel
theorem dX7_isError_13 : decode cX7_isError 13 = .ok (.ldc_w 270, 3) := by decide +kernel
theorem dX7_isError_16 : decode cX7_isError 16 = .ok (.if_icmp .ne 7, 3) := by decide +kernel
theorem dX7_isError_19 : decode cX7_isError 19 = .ok (.iconst 1, 1) := by decide +kernel
theorem dX7_isError_20 : decode cX7_isError 20 = .ok (.goto 4, 3) := by decide +kernel
theorem dX7_isError_23 : decode cX7_isError 23 = .ok (.iconst 0, 1) := by decide +kernel
theorem dX7_isError_24 : decode cX7_isError 24 = .ok (.ireturn, 1) := by decide +kernel
theorem dX7_isWithin_0 : decode cX7_isWithin 0 = .ok (.iload_n 0, 1) := by decide +kernel
theorem dX7_isWithin_1 : decode cX7_isWithin 1 = .ok (.iload_n 1, 1) := by decide +kernel
theorem dX7_isWithin_2 : decode cX7_isWithin 2 = .ok (.if_icmp .lt 12, 3) := by decide +kernel
theorem dX7_isWithin_5 : decode cX7_isWithin 5 = .ok (.iload_n 0, 1) := by decide +kernel
theorem dX7_isWithin_6 : decode cX7_isWithin 6 = .ok (.iload_n 2, 1) := by decide +kernel
theorem dX7_isWithin_7 : decode cX7_isWithin 7 = .ok (.if_icmp .gt 7, 3) := by decide +kernel
theorem dX7_isWithin_10 : decode cX7_isWithin 10 = .ok (.iconst 1, 1) := by decide +kernel
theorem dX7_isWithin_11 : decode cX7_isWithin 11 = .ok (.goto 4, 3) := by decide +kernel
theorem dX7_isWithin_14 : decode cX7_isWithin 14 = .ok (.iconst 0, 1) := by decide +kernel
theorem dX7_isWithin_15 : decode cX7_isWithin 15 = .ok (.ireturn, 1) := by decide +kernel
theorem dX7_rounded_0 : decode cX7_rounded 0 = .ok (.lload_n 2, 1) := by decide +kernel
theorem dX7_rounded_1 : decode cX7_rounded 1 = .ok (.lconst 0, 1) := by decide +kernel
theorem dX7_rounded_2 : decode cX7_rounded 2 = .ok (.lcmp, 1) := by decide +kernel
theorem dX7_rounded_3 : decode cX7_rounded 3 = .ok (.ifCond .gt 5, 3) := by decide +kernel
theorem dX7_rounded_6 : decode cX7_rounded 6 = .ok (.lconst 0, 1) := by decide +kernel
theorem dX7_rounded_7 : decode cX7_rounded 7 = .ok (.lreturn, 1) := by decide +kernel
theorem dX7_rounded_8 : decode cX7_rounded 8 = .ok (.ldc2_w 271, 3) := by decide +kernel
theorem dX7_rounded_11 : decode cX7_rounded 11 = .ok (.lload_n 0, 1) := by decide +kernel
theorem dX7_rounded_12 : decode cX7_rounded 12 = .ok (.lmul, 1) := by decide +kernel
theorem dX7_rounded_13 : decode cX7_rounded 13 = .ok (.lload_n 2, 1) := by decide +kernel
theorem dX7_rounded_14 : decode cX7_rounded 14 = .ok (.ladd, 1) := by decide +kernel
theorem dX7_rounded_15 : decode cX7_rounded 15 = .ok (.lstore 4, 2) := by decide +kernel
theorem dX7_rounded_17 : decode cX7_rounded 17 = .ok (.lload 4, 2) := by decide +kernel
theorem dX7_rounded_19 : decode cX7_rounded 19 = .ok (.ldc2_w 271, 3) := by decide +kernel
theorem dX7_rounded_22 : decode cX7_rounded 22 = .ok (.lload_n 2, 1) := by decide +kernel
theorem dX7_rounded_23 : decode cX7_rounded 23 = .ok (.lmul, 1) := by decide +kernel
theorem dX7_rounded_24 : decode cX7_rounded 24 = .ok (.ldiv, 1) := by decide +kernel
theorem dX7_rounded_25 : decode cX7_rounded 25 = .ok (.lstore 6, 2) := by decide +kernel
theorem dX7_rounded_27 : decode cX7_rounded 27 = .ok (.lload 4, 2) := by decide +kernel
theorem dX7_rounded_29 : decode cX7_rounded 29 = .ok (.ldc2_w 271, 3) := by decide +kernel
theorem dX7_rounded_32 : decode cX7_rounded 32 = .ok (.lload_n 2, 1) := by decide +kernel
theorem dX7_rounded_33 : decode cX7_rounded 33 = .ok (.lmul, 1) := by decide +kernel
theorem dX7_rounded_34 : decode cX7_rounded 34 = .ok (.lrem, 1) := by decide +kernel
theorem dX7_rounded_35 : decode cX7_rounded 35 = .ok (.lconst 0, 1) := by decide +kernel
theorem dX7_rounded_36 : decode cX7_rounded 36 = .ok (.lcmp, 1) := by decide +kernel
theorem dX7_rounded_37 : decode cX7_rounded 37 = .ok (.ifCond .ge 10, 3) := by decide +kernel
theorem dX7_rounded_40 : decode cX7_rounded 40 = .ok (.lload 6, 2) := by decide +kernel
theorem dX7_rounded_42 : decode cX7_rounded 42 = .ok (.lconst 1, 1) := by decide +kernel
theorem dX7_rounded_43 : decode cX7_rounded 43 = .ok (.lsub, 1) := by decide +kernel
theorem dX7_rounded_44 : decode cX7_rounded 44 = .ok (.goto 5, 3) := by decide +kernel
theorem dX7_rounded_47 : decode cX7_rounded 47 = .ok (.lload 6, 2) := by decide +kernel
theorem dX7_rounded_49 : decode cX7_rounded 49 = .ok (.lreturn, 1) := by decide +kernel
theorem dX7_sineOf_0 : decode cX7_sineOf 0 = .ok (.iload_n 0, 1) := by decide +kernel
theorem dX7_sineOf_1 : decode cX7_sineOf 1 = .ok (.invokestatic 273, 3) := by decide +kernel
theorem dX7_sineOf_4 : decode cX7_sineOf 4 = .ok (.i2l, 1) := by decide +kernel
theorem dX7_sineOf_5 : decode cX7_sineOf 5 = .ok (.lstore_n 1, 1) := by decide +kernel
theorem dX7_sineOf_6 : decode cX7_sineOf 6 = .ok (.lload_n 1, 1) := by decide +kernel
theorem dX7_sineOf_7 : decode cX7_sineOf 7 = .ok (.ldc2_w 278, 3) := by decide +kernel
theorem dX7_sineOf_10 : decode cX7_sineOf 10 = .ok (.lload_n 1, 1) := by decide +kernel
theorem dX7_sineOf_11 : decode cX7_sineOf 11 = .ok (.lsub, 1) := by decide +kernel
theorem dX7_sineOf_12 : decode cX7_sineOf 12 = .ok (.lmul, 1) := by decide +kernel
theorem dX7_sineOf_13 : decode cX7_sineOf 13 = .ok (.lstore_n 3, 1) := by decide +kernel
theorem dX7_sineOf_14 : decode cX7_sineOf 14 = .ok (.ldc2_w 280, 3) := by decide +kernel
theorem dX7_sineOf_17 : decode cX7_sineOf 17 = .ok (.lload_n 3, 1) := by decide +kernel
theorem dX7_sineOf_18 : decode cX7_sineOf 18 = .ok (.lmul, 1) := by decide +kernel
theorem dX7_sineOf_19 : decode cX7_sineOf 19 = .ok (.ldc2_w 282, 3) := by decide +kernel
theorem dX7_sineOf_22 : decode cX7_sineOf 22 = .ok (.lload_n 3, 1) := by decide +kernel
theorem dX7_sineOf_23 : decode cX7_sineOf 23 = .ok (.lsub, 1) := by decide +kernel
theorem dX7_sineOf_24 : decode cX7_sineOf 24 = .ok (.invokestatic 284, 3) := by decide +kernel
theorem dX7_sineOf_27 : decode cX7_sineOf 27 = .ok (.l2i, 1) := by decide +kernel
theorem dX7_sineOf_28 : decode cX7_sineOf 28 = .ok (.istore 5, 2) := by decide +kernel
theorem dX7_sineOf_30 : decode cX7_sineOf 30 = .ok (.iload_n 0, 1) := by decide +kernel
theorem dX7_sineOf_31 : decode cX7_sineOf 31 = .ok (.ifCond .ge 9, 3) := by decide +kernel
theorem dX7_sineOf_34 : decode cX7_sineOf 34 = .ok (.iload 5, 2) := by decide +kernel
theorem dX7_sineOf_36 : decode cX7_sineOf 36 = .ok (.ineg, 1) := by decide +kernel
theorem dX7_sineOf_37 : decode cX7_sineOf 37 = .ok (.goto 5, 3) := by decide +kernel
theorem dX7_sineOf_40 : decode cX7_sineOf 40 = .ok (.iload 5, 2) := by decide +kernel
theorem dX7_sineOf_42 : decode cX7_sineOf 42 = .ok (.ireturn, 1) := by decide +kernel
