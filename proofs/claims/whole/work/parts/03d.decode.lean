theorem dX8_init_0 : decode cX8_init 0 = .ok (.aload_n 0, 1) := by decide +kernel
theorem dX8_init_1 : decode cX8_init 1 = .ok (.invokespecial 1, 3) := by decide +kernel
theorem dX8_init_4 : decode cX8_init 4 = .ok (.aload_n 0, 1) := by decide +kernel
theorem dX8_init_5 : decode cX8_init 5 = .ok (.sipush 356, 3) := by decide +kernel
theorem dX8_init_8 : decode cX8_init 8 = .ok (.newarray .int, 2) := by decide +kernel
theorem dX8_init_10 : decode cX8_init 10 = .ok (.putfield 7, 3) := by decide +kernel
theorem dX8_init_13 : decode cX8_init 13 = .ok (.aload_n 0, 1) := by decide +kernel
theorem dX8_init_14 : decode cX8_init 14 = .ok (.sipush 356, 3) := by decide +kernel
theorem dX8_init_17 : decode cX8_init 17 = .ok (.newarray .int, 2) := by decide +kernel
theorem dX8_init_19 : decode cX8_init 19 = .ok (.putfield 13, 3) := by decide +kernel
theorem dX8_init_22 : decode cX8_init 22 = .ok (.aload_n 0, 1) := by decide +kernel
theorem dX8_init_23 : decode cX8_init 23 = .ok (.sipush 1780, 3) := by decide +kernel
theorem dX8_init_26 : decode cX8_init 26 = .ok (.newarray .int, 2) := by decide +kernel
theorem dX8_init_28 : decode cX8_init 28 = .ok (.putfield 16, 3) := by decide +kernel
theorem dX8_init_31 : decode cX8_init 31 = .ok (.aload_n 0, 1) := by decide +kernel
theorem dX8_init_32 : decode cX8_init 32 = .ok (.sipush 140, 3) := by decide +kernel
theorem dX8_init_35 : decode cX8_init 35 = .ok (.newarray .int, 2) := by decide +kernel
theorem dX8_init_37 : decode cX8_init 37 = .ok (.putfield 19, 3) := by decide +kernel
theorem dX8_init_40 : decode cX8_init 40 = .ok (.aload_n 0, 1) := by decide +kernel
theorem dX8_init_41 : decode cX8_init 41 = .ok (.iconst 3, 1) := by decide +kernel
theorem dX8_init_42 : decode cX8_init 42 = .ok (.newarray .int, 2) := by decide +kernel
theorem dX8_init_44 : decode cX8_init 44 = .ok (.putfield 22, 3) := by decide +kernel
theorem dX8_init_47 : decode cX8_init 47 = .ok (.aload_n 0, 1) := by decide +kernel
theorem dX8_init_48 : decode cX8_init 48 = .ok (.sipush 721, 3) := by decide +kernel
theorem dX8_init_51 : decode cX8_init 51 = .ok (.newarray .int, 2) := by decide +kernel
theorem dX8_init_53 : decode cX8_init 53 = .ok (.putfield 25, 3) := by decide +kernel
theorem dX8_init_56 : decode cX8_init 56 = .ok (.aload_n 0, 1) := by decide +kernel
theorem dX8_init_57 : decode cX8_init 57 = .ok (.sipush 721, 3) := by decide +kernel
theorem dX8_init_60 : decode cX8_init 60 = .ok (.newarray .boolean, 2) := by decide +kernel
theorem dX8_init_62 : decode cX8_init 62 = .ok (.putfield 28, 3) := by decide +kernel
theorem dX8_init_65 : decode cX8_init 65 = .ok (.aload_n 0, 1) := by decide +kernel
theorem dX8_init_66 : decode cX8_init 66 = .ok (.bipush 10, 2) := by decide +kernel
theorem dX8_init_68 : decode cX8_init 68 = .ok (.newarray .int, 2) := by decide +kernel
theorem dX8_init_70 : decode cX8_init 70 = .ok (.putfield 32, 3) := by decide +kernel
theorem dX8_init_73 : decode cX8_init 73 = .ok (.aload_n 0, 1) := by decide +kernel
theorem dX8_init_74 : decode cX8_init 74 = .ok (.iconst 0, 1) := by decide +kernel
theorem dX8_init_75 : decode cX8_init 75 = .ok (.putfield 35, 3) := by decide +kernel
theorem dX8_init_78 : decode cX8_init 78 = .ok (.aload_n 0, 1) := by decide +kernel
theorem dX8_init_79 : decode cX8_init 79 = .ok (.getfield 7, 3) := by decide +kernel
theorem dX8_init_82 : decode cX8_init 82 = .ok (.iconst 4, 1) := by decide +kernel
theorem dX8_init_83 : decode cX8_init 83 = .ok (.iconst 2, 1) := by decide +kernel
theorem dX8_init_84 : decode cX8_init 84 = .ok (.iastore, 1) := by decide +kernel
theorem dX8_init_85 : decode cX8_init 85 = .ok (.aload_n 0, 1) := by decide +kernel
theorem dX8_init_86 : decode cX8_init 86 = .ok (.getfield 7, 3) := by decide +kernel
theorem dX8_init_89 : decode cX8_init 89 = .ok (.iconst 5, 1) := by decide +kernel
theorem dX8_init_90 : decode cX8_init 90 = .ok (.iconst 5, 1) := by decide +kernel
theorem dX8_init_91 : decode cX8_init 91 = .ok (.iastore, 1) := by decide +kernel
theorem dX8_init_92 : decode cX8_init 92 = .ok (.aload_n 0, 1) := by decide +kernel
theorem dX8_init_93 : decode cX8_init 93 = .ok (.getfield 7, 3) := by decide +kernel
theorem dX8_init_96 : decode cX8_init 96 = .ok (.bipush 6, 2) := by decide +kernel
theorem dX8_init_98 : decode cX8_init 98 = .ok (.bipush 10, 2) := by decide +kernel
theorem dX8_init_100 : decode cX8_init 100 = .ok (.iastore, 1) := by decide +kernel
theorem dX8_init_101 : decode cX8_init 101 = .ok (.aload_n 0, 1) := by decide +kernel
theorem dX8_init_102 : decode cX8_init 102 = .ok (.getfield 7, 3) := by decide +kernel
theorem dX8_init_105 : decode cX8_init 105 = .ok (.bipush 7, 2) := by decide +kernel
theorem dX8_init_107 : decode cX8_init 107 = .ok (.bipush 20, 2) := by decide +kernel
theorem dX8_init_109 : decode cX8_init 109 = .ok (.iastore, 1) := by decide +kernel
theorem dX8_init_110 : decode cX8_init 110 = .ok (.return_, 1) := by decide +kernel
theorem dX8_in_0 : decode cX8_in 0 = .ok (.iload_n 0, 1) := by decide +kernel
theorem dX8_in_1 : decode cX8_in 1 = .ok (.iload_n 1, 1) := by decide +kernel
theorem dX8_in_2 : decode cX8_in 2 = .ok (.if_icmp .lt 12, 3) := by decide +kernel
theorem dX8_in_5 : decode cX8_in 5 = .ok (.iload_n 0, 1) := by decide +kernel
theorem dX8_in_6 : decode cX8_in 6 = .ok (.iload_n 2, 1) := by decide +kernel
theorem dX8_in_7 : decode cX8_in 7 = .ok (.if_icmp .gt 7, 3) := by decide +kernel
theorem dX8_in_10 : decode cX8_in 10 = .ok (.iconst 1, 1) := by decide +kernel
theorem dX8_in_11 : decode cX8_in 11 = .ok (.goto 4, 3) := by decide +kernel
theorem dX8_in_14 : decode cX8_in 14 = .ok (.iconst 0, 1) := by decide +kernel
theorem dX8_in_15 : decode cX8_in 15 = .ok (.ireturn, 1) := by decide +kernel
theorem dX8_size_0 : decode cX8_size 0 = .ok (.iload_n 0, 1) := by decide +kernel
theorem dX8_size_1 : decode cX8_size 1 = .ok (.ifCond .ge 8, 3) := by decide +kernel
theorem dX8_size_4 : decode cX8_size 4 = .ok (.iload_n 0, 1) := by decide +kernel
theorem dX8_size_5 : decode cX8_size 5 = .ok (.ineg, 1) := by decide +kernel
theorem dX8_size_6 : decode cX8_size 6 = .ok (.goto 4, 3) := by decide +kernel
theorem dX8_size_9 : decode cX8_size 9 = .ok (.iload_n 0, 1) := by decide +kernel
theorem dX8_size_10 : decode cX8_size 10 = .ok (.ireturn, 1) := by decide +kernel
theorem dX8_act_0 : decode cX8_act 0 = .ok (.aload_n 0, 1) := by decide +kernel
theorem dX8_act_1 : decode cX8_act 1 = .ok (.getfield 39, 3) := by decide +kernel
theorem dX8_act_4 : decode cX8_act 4 = .ok (.iconst 5, 1) := by decide +kernel
theorem dX8_act_5 : decode cX8_act 5 = .ok (.if_icmp .ne 44, 3) := by decide +kernel
theorem dX8_act_8 : decode cX8_act 8 = .ok (.iconst 0, 1) := by decide +kernel
theorem dX8_act_9 : decode cX8_act 9 = .ok (.istore_n 1, 1) := by decide +kernel
theorem dX8_act_10 : decode cX8_act 10 = .ok (.iload_n 1, 1) := by decide +kernel
theorem dX8_act_11 : decode cX8_act 11 = .ok (.sipush 1424, 3) := by decide +kernel
theorem dX8_act_14 : decode cX8_act 14 = .ok (.if_icmp .ge 25, 3) := by decide +kernel
theorem dX8_act_17 : decode cX8_act 17 = .ok (.aload_n 0, 1) := by decide +kernel
theorem dX8_act_18 : decode cX8_act 18 = .ok (.getfield 16, 3) := by decide +kernel
theorem dX8_act_21 : decode cX8_act 21 = .ok (.iload_n 1, 1) := by decide +kernel
theorem dX8_act_22 : decode cX8_act 22 = .ok (.aload_n 0, 1) := by decide +kernel
theorem dX8_act_23 : decode cX8_act 23 = .ok (.getfield 16, 3) := by decide +kernel
theorem dX8_act_26 : decode cX8_act 26 = .ok (.iload_n 1, 1) := by decide +kernel
theorem dX8_act_27 : decode cX8_act 27 = .ok (.sipush 356, 3) := by decide +kernel
theorem dX8_act_30 : decode cX8_act 30 = .ok (.iadd, 1) := by decide +kernel
theorem dX8_act_31 : decode cX8_act 31 = .ok (.iaload, 1) := by decide +kernel
theorem dX8_act_32 : decode cX8_act 32 = .ok (.iastore, 1) := by decide +kernel
theorem dX8_act_33 : decode cX8_act 33 = .ok (.iinc 1 1, 3) := by decide +kernel
theorem dX8_act_36 : decode cX8_act 36 = .ok (.goto (-26), 3) := by decide +kernel
theorem dX8_act_39 : decode cX8_act 39 = .ok (.aload_n 0, 1) := by decide +kernel
theorem dX8_act_40 : decode cX8_act 40 = .ok (.dup, 1) := by decide +kernel
theorem dX8_act_41 : decode cX8_act 41 = .ok (.getfield 39, 3) := by decide +kernel
theorem dX8_act_44 : decode cX8_act 44 = .ok (.iconst 1, 1) := by decide +kernel
theorem dX8_act_45 : decode cX8_act 45 = .ok (.isub, 1) := by decide +kernel
theorem dX8_act_46 : decode cX8_act 46 = .ok (.putfield 39, 3) := by decide +kernel
theorem dX8_act_49 : decode cX8_act 49 = .ok (.iconst 0, 1) := by decide +kernel
theorem dX8_act_50 : decode cX8_act 50 = .ok (.istore_n 1, 1) := by decide +kernel
theorem dX8_act_51 : decode cX8_act 51 = .ok (.iload_n 1, 1) := by decide +kernel
theorem dX8_act_52 : decode cX8_act 52 = .ok (.sipush 356, 3) := by decide +kernel
theorem dX8_act_55 : decode cX8_act 55 = .ok (.if_icmp .ge 30, 3) := by decide +kernel
theorem dX8_act_58 : decode cX8_act 58 = .ok (.aload_n 0, 1) := by decide +kernel
theorem dX8_act_59 : decode cX8_act 59 = .ok (.getfield 16, 3) := by decide +kernel
theorem dX8_act_62 : decode cX8_act 62 = .ok (.sipush 356, 3) := by decide +kernel
theorem dX8_act_65 : decode cX8_act 65 = .ok (.aload_n 0, 1) := by decide +kernel
theorem dX8_act_66 : decode cX8_act 66 = .ok (.getfield 39, 3) := by decide +kernel
theorem dX8_act_69 : decode cX8_act 69 = .ok (.imul, 1) := by decide +kernel
theorem dX8_act_70 : decode cX8_act 70 = .ok (.iload_n 1, 1) := by decide +kernel
theorem dX8_act_71 : decode cX8_act 71 = .ok (.iadd, 1) := by decide +kernel
theorem dX8_act_72 : decode cX8_act 72 = .ok (.aload_n 0, 1) := by decide +kernel
theorem dX8_act_73 : decode cX8_act 73 = .ok (.getfield 7, 3) := by decide +kernel
theorem dX8_act_76 : decode cX8_act 76 = .ok (.iload_n 1, 1) := by decide +kernel
theorem dX8_act_77 : decode cX8_act 77 = .ok (.iaload, 1) := by decide +kernel
theorem dX8_act_78 : decode cX8_act 78 = .ok (.iastore, 1) := by decide +kernel
theorem dX8_act_79 : decode cX8_act 79 = .ok (.iinc 1 1, 3) := by decide +kernel
theorem dX8_act_82 : decode cX8_act 82 = .ok (.goto (-31), 3) := by decide +kernel
theorem dX8_act_85 : decode cX8_act 85 = .ok (.aload_n 0, 1) := by decide +kernel
theorem dX8_act_86 : decode cX8_act 86 = .ok (.dup, 1) := by decide +kernel
theorem dX8_act_87 : decode cX8_act 87 = .ok (.getfield 39, 3) := by decide +kernel
theorem dX8_act_90 : decode cX8_act 90 = .ok (.iconst 1, 1) := by decide +kernel
theorem dX8_act_91 : decode cX8_act 91 = .ok (.iadd, 1) := by decide +kernel
theorem dX8_act_92 : decode cX8_act 92 = .ok (.putfield 39, 3) := by decide +kernel
theorem dX8_act_95 : decode cX8_act 95 = .ok (.return_, 1) := by decide +kernel
theorem dX8_rounded_0 : decode cX8_rounded 0 = .ok (.lload_n 0, 1) := by decide +kernel
theorem dX8_rounded_1 : decode cX8_rounded 1 = .ok (.lload_n 0, 1) := by decide +kernel
theorem dX8_rounded_2 : decode cX8_rounded 2 = .ok (.ladd, 1) := by decide +kernel
theorem dX8_rounded_3 : decode cX8_rounded 3 = .ok (.lload_n 2, 1) := by decide +kernel
theorem dX8_rounded_4 : decode cX8_rounded 4 = .ok (.ladd, 1) := by decide +kernel
theorem dX8_rounded_5 : decode cX8_rounded 5 = .ok (.lstore 4, 2) := by decide +kernel
theorem dX8_rounded_7 : decode cX8_rounded 7 = .ok (.lload_n 2, 1) := by decide +kernel
theorem dX8_rounded_8 : decode cX8_rounded 8 = .ok (.lload_n 2, 1) := by decide +kernel
theorem dX8_rounded_9 : decode cX8_rounded 9 = .ok (.ladd, 1) := by decide +kernel
theorem dX8_rounded_10 : decode cX8_rounded 10 = .ok (.lstore 6, 2) := by decide +kernel
theorem dX8_rounded_12 : decode cX8_rounded 12 = .ok (.lload 4, 2) := by decide +kernel
theorem dX8_rounded_14 : decode cX8_rounded 14 = .ok (.lload 6, 2) := by decide +kernel
theorem dX8_rounded_16 : decode cX8_rounded 16 = .ok (.ldiv, 1) := by decide +kernel
theorem dX8_rounded_17 : decode cX8_rounded 17 = .ok (.lstore 8, 2) := by decide +kernel
theorem dX8_rounded_19 : decode cX8_rounded 19 = .ok (.lload 4, 2) := by decide +kernel
theorem dX8_rounded_21 : decode cX8_rounded 21 = .ok (.lconst 0, 1) := by decide +kernel
theorem dX8_rounded_22 : decode cX8_rounded 22 = .ok (.lcmp, 1) := by decide +kernel
theorem dX8_rounded_23 : decode cX8_rounded 23 = .ok (.ifCond .ge 21, 3) := by decide +kernel
theorem dX8_rounded_26 : decode cX8_rounded 26 = .ok (.lload 8, 2) := by decide +kernel
theorem dX8_rounded_28 : decode cX8_rounded 28 = .ok (.lload 6, 2) := by decide +kernel
theorem dX8_rounded_30 : decode cX8_rounded 30 = .ok (.lmul, 1) := by decide +kernel
theorem dX8_rounded_31 : decode cX8_rounded 31 = .ok (.lload 4, 2) := by decide +kernel
theorem dX8_rounded_33 : decode cX8_rounded 33 = .ok (.lcmp, 1) := by decide +kernel
theorem dX8_rounded_34 : decode cX8_rounded 34 = .ok (.ifCond .eq 10, 3) := by decide +kernel
theorem dX8_rounded_37 : decode cX8_rounded 37 = .ok (.lload 8, 2) := by decide +kernel
theorem dX8_rounded_39 : decode cX8_rounded 39 = .ok (.lconst 1, 1) := by decide +kernel
theorem dX8_rounded_40 : decode cX8_rounded 40 = .ok (.lsub, 1) := by decide +kernel
theorem dX8_rounded_41 : decode cX8_rounded 41 = .ok (.goto 5, 3) := by decide +kernel
theorem dX8_rounded_44 : decode cX8_rounded 44 = .ok (.lload 8, 2) := by decide +kernel
theorem dX8_rounded_46 : decode cX8_rounded 46 = .ok (.lreturn, 1) := by decide +kernel
theorem dX8_sineOf_0 : decode cX8_sineOf 0 = .ok (.iload_n 0, 1) := by decide +kernel
theorem dX8_sineOf_1 : decode cX8_sineOf 1 = .ok (.ifCond .ge 8, 3) := by decide +kernel
theorem dX8_sineOf_4 : decode cX8_sineOf 4 = .ok (.iload_n 0, 1) := by decide +kernel
theorem dX8_sineOf_5 : decode cX8_sineOf 5 = .ok (.ineg, 1) := by decide +kernel
theorem dX8_sineOf_6 : decode cX8_sineOf 6 = .ok (.goto 4, 3) := by decide +kernel
theorem dX8_sineOf_9 : decode cX8_sineOf 9 = .ok (.iload_n 0, 1) := by decide +kernel
theorem dX8_sineOf_10 : decode cX8_sineOf 10 = .ok (.istore_n 1, 1) := by decide +kernel
theorem dX8_sineOf_11 : decode cX8_sineOf 11 = .ok (.iload_n 1, 1) := by decide +kernel
theorem dX8_sineOf_12 : decode cX8_sineOf 12 = .ok (.i2l, 1) := by decide +kernel
theorem dX8_sineOf_13 : decode cX8_sineOf 13 = .ok (.sipush 720, 3) := by decide +kernel
theorem dX8_sineOf_16 : decode cX8_sineOf 16 = .ok (.iload_n 1, 1) := by decide +kernel
theorem dX8_sineOf_17 : decode cX8_sineOf 17 = .ok (.isub, 1) := by decide +kernel
theorem dX8_sineOf_18 : decode cX8_sineOf 18 = .ok (.i2l, 1) := by decide +kernel
theorem dX8_sineOf_19 : decode cX8_sineOf 19 = .ok (.lmul, 1) := by decide +kernel
theorem dX8_sineOf_20 : decode cX8_sineOf 20 = .ok (.lstore_n 2, 1) := by decide +kernel
theorem dX8_sineOf_21 : decode cX8_sineOf 21 = .ok (.ldc2_w 42, 3) := by decide +kernel
theorem dX8_sineOf_24 : decode cX8_sineOf 24 = .ok (.lload_n 2, 1) := by decide +kernel
theorem dX8_sineOf_25 : decode cX8_sineOf 25 = .ok (.lmul, 1) := by decide +kernel
theorem dX8_sineOf_26 : decode cX8_sineOf 26 = .ok (.ldc2_w 44, 3) := by decide +kernel
theorem dX8_sineOf_29 : decode cX8_sineOf 29 = .ok (.lload_n 2, 1) := by decide +kernel
theorem dX8_sineOf_30 : decode cX8_sineOf 30 = .ok (.lsub, 1) := by decide +kernel
theorem dX8_sineOf_31 : decode cX8_sineOf 31 = .ok (.invokestatic 46, 3) := by decide +kernel
theorem dX8_sineOf_34 : decode cX8_sineOf 34 = .ok (.lstore 4, 2) := by decide +kernel
theorem dX8_sineOf_36 : decode cX8_sineOf 36 = .ok (.iload_n 0, 1) := by decide +kernel
theorem dX8_sineOf_37 : decode cX8_sineOf 37 = .ok (.ifCond .ge 9, 3) := by decide +kernel
theorem dX8_sineOf_40 : decode cX8_sineOf 40 = .ok (.lload 4, 2) := by decide +kernel
theorem dX8_sineOf_42 : decode cX8_sineOf 42 = .ok (.lneg, 1) := by decide +kernel
theorem dX8_sineOf_43 : decode cX8_sineOf 43 = .ok (.goto 5, 3) := by decide +kernel
theorem dX8_sineOf_46 : decode cX8_sineOf 46 = .ok (.lload 4, 2) := by decide +kernel
theorem dX8_sineOf_48 : decode cX8_sineOf 48 = .ok (.lreturn, 1) := by decide +kernel
theorem dX8_cosineOf_0 : decode cX8_cosineOf 0 = .ok (.sipush 360, 3) := by decide +kernel
theorem dX8_cosineOf_3 : decode cX8_cosineOf 3 = .ok (.iload_n 0, 1) := by decide +kernel
theorem dX8_cosineOf_4 : decode cX8_cosineOf 4 = .ok (.iadd, 1) := by decide +kernel
theorem dX8_cosineOf_5 : decode cX8_cosineOf 5 = .ok (.invokestatic 50, 3) := by decide +kernel
theorem dX8_cosineOf_8 : decode cX8_cosineOf 8 = .ok (.lreturn, 1) := by decide +kernel
theorem dX8_sideOf_0 : decode cX8_sideOf 0 = .ok (.iload_n 1, 1) := by decide +kernel
theorem dX8_sideOf_1 : decode cX8_sideOf 1 = .ok (.ifCond .eq 19, 3) := by decide +kernel
theorem dX8_sideOf_4 : decode cX8_sideOf 4 = .ok (.ldc2_w 54, 3) := by decide +kernel
theorem dX8_sideOf_7 : decode cX8_sideOf 7 = .ok (.iload_n 0, 1) := by decide +kernel
theorem dX8_sideOf_8 : decode cX8_sideOf 8 = .ok (.invokestatic 56, 3) := by decide +kernel
theorem dX8_sideOf_11 : decode cX8_sideOf 11 = .ok (.lmul, 1) := by decide +kernel
theorem dX8_sideOf_12 : decode cX8_sideOf 12 = .ok (.iload_n 2, 1) := by decide +kernel
theorem dX8_sideOf_13 : decode cX8_sideOf 13 = .ok (.invokestatic 50, 3) := by decide +kernel
theorem dX8_sideOf_16 : decode cX8_sideOf 16 = .ok (.lmul, 1) := by decide +kernel
theorem dX8_sideOf_17 : decode cX8_sideOf 17 = .ok (.goto 12, 3) := by decide +kernel
theorem dX8_sideOf_20 : decode cX8_sideOf 20 = .ok (.iload_n 0, 1) := by decide +kernel
theorem dX8_sideOf_21 : decode cX8_sideOf 21 = .ok (.invokestatic 50, 3) := by decide +kernel
theorem dX8_sideOf_24 : decode cX8_sideOf 24 = .ok (.iload_n 2, 1) := by decide +kernel
theorem dX8_sideOf_25 : decode cX8_sideOf 25 = .ok (.invokestatic 50, 3) := by decide +kernel
theorem dX8_sideOf_28 : decode cX8_sideOf 28 = .ok (.lmul, 1) := by decide +kernel
theorem dX8_sideOf_29 : decode cX8_sideOf 29 = .ok (.lreturn, 1) := by decide +kernel
theorem dX8_frontOf_0 : decode cX8_frontOf 0 = .ok (.iload_n 1, 1) := by decide +kernel
theorem dX8_frontOf_1 : decode cX8_frontOf 1 = .ok (.ifCond .eq 34, 3) := by decide +kernel
theorem dX8_frontOf_4 : decode cX8_frontOf 4 = .ok (.ldc2_w 54, 3) := by decide +kernel
theorem dX8_frontOf_7 : decode cX8_frontOf 7 = .ok (.iload_n 2, 1) := by decide +kernel
theorem dX8_frontOf_8 : decode cX8_frontOf 8 = .ok (.invokestatic 56, 3) := by decide +kernel
theorem dX8_frontOf_11 : decode cX8_frontOf 11 = .ok (.lmul, 1) := by decide +kernel
theorem dX8_frontOf_12 : decode cX8_frontOf 12 = .ok (.iload_n 3, 1) := by decide +kernel
theorem dX8_frontOf_13 : decode cX8_frontOf 13 = .ok (.invokestatic 56, 3) := by decide +kernel
theorem dX8_frontOf_16 : decode cX8_frontOf 16 = .ok (.lmul, 1) := by decide +kernel
theorem dX8_frontOf_17 : decode cX8_frontOf 17 = .ok (.iload_n 2, 1) := by decide +kernel
theorem dX8_frontOf_18 : decode cX8_frontOf 18 = .ok (.invokestatic 50, 3) := by decide +kernel
theorem dX8_frontOf_21 : decode cX8_frontOf 21 = .ok (.iload_n 0, 1) := by decide +kernel
theorem dX8_frontOf_22 : decode cX8_frontOf 22 = .ok (.invokestatic 50, 3) := by decide +kernel
theorem dX8_frontOf_25 : decode cX8_frontOf 25 = .ok (.lmul, 1) := by decide +kernel
theorem dX8_frontOf_26 : decode cX8_frontOf 26 = .ok (.iload_n 3, 1) := by decide +kernel
theorem dX8_frontOf_27 : decode cX8_frontOf 27 = .ok (.invokestatic 50, 3) := by decide +kernel
theorem dX8_frontOf_30 : decode cX8_frontOf 30 = .ok (.lmul, 1) := by decide +kernel
theorem dX8_frontOf_31 : decode cX8_frontOf 31 = .ok (.ladd, 1) := by decide +kernel
theorem dX8_frontOf_32 : decode cX8_frontOf 32 = .ok (.goto 11, 3) := by decide +kernel
theorem dX8_frontOf_35 : decode cX8_frontOf 35 = .ok (.ldc2_w 54, 3) := by decide +kernel
theorem dX8_frontOf_38 : decode cX8_frontOf 38 = .ok (.iload_n 3, 1) := by decide +kernel
theorem dX8_frontOf_39 : decode cX8_frontOf 39 = .ok (.invokestatic 56, 3) := by decide +kernel
theorem dX8_frontOf_42 : decode cX8_frontOf 42 = .ok (.lmul, 1) := by decide +kernel
theorem dX8_frontOf_43 : decode cX8_frontOf 43 = .ok (.lreturn, 1) := by decide +kernel
theorem dX8_reckon_0 : decode cX8_reckon 0 = .ok (.iconst 4, 1) := by decide +kernel
theorem dX8_reckon_1 : decode cX8_reckon 1 = .ok (.iload_n 1, 1) := by decide +kernel
theorem dX8_reckon_2 : decode cX8_reckon 2 = .ok (.imul, 1) := by decide +kernel
theorem dX8_reckon_3 : decode cX8_reckon 3 = .ok (.istore 4, 2) := by decide +kernel
theorem dX8_reckon_5 : decode cX8_reckon 5 = .ok (.iconst 4, 1) := by decide +kernel
theorem dX8_reckon_6 : decode cX8_reckon 6 = .ok (.iload_n 3, 1) := by decide +kernel
theorem dX8_reckon_7 : decode cX8_reckon 7 = .ok (.imul, 1) := by decide +kernel
theorem dX8_reckon_8 : decode cX8_reckon 8 = .ok (.istore 5, 2) := by decide +kernel
theorem dX8_reckon_10 : decode cX8_reckon 10 = .ok (.sipush (-360), 3) := by decide +kernel
theorem dX8_reckon_13 : decode cX8_reckon 13 = .ok (.istore 6, 2) := by decide +kernel
theorem dX8_reckon_15 : decode cX8_reckon 15 = .ok (.iload 6, 2) := by decide +kernel
theorem dX8_reckon_17 : decode cX8_reckon 17 = .ok (.sipush 360, 3) := by decide +kernel
theorem dX8_reckon_20 : decode cX8_reckon 20 = .ok (.if_icmp .gt 119, 3) := by decide +kernel
theorem dX8_reckon_23 : decode cX8_reckon 23 = .ok (.iload 4, 2) := by decide +kernel
theorem dX8_reckon_25 : decode cX8_reckon 25 = .ok (.iload_n 2, 1) := by decide +kernel
theorem dX8_reckon_26 : decode cX8_reckon 26 = .ok (.iload 5, 2) := by decide +kernel
theorem dX8_reckon_28 : decode cX8_reckon 28 = .ok (.iload 6, 2) := by decide +kernel
theorem dX8_reckon_30 : decode cX8_reckon 30 = .ok (.invokestatic 59, 3) := by decide +kernel
theorem dX8_reckon_33 : decode cX8_reckon 33 = .ok (.lstore 7, 2) := by decide +kernel
theorem dX8_reckon_35 : decode cX8_reckon 35 = .ok (.lload 7, 2) := by decide +kernel
theorem dX8_reckon_37 : decode cX8_reckon 37 = .ok (.lconst 0, 1) := by decide +kernel
theorem dX8_reckon_38 : decode cX8_reckon 38 = .ok (.lcmp, 1) := by decide +kernel
theorem dX8_reckon_39 : decode cX8_reckon 39 = .ok (.ifCond .le 23, 3) := by decide +kernel
theorem dX8_reckon_42 : decode cX8_reckon 42 = .ok (.ldc2_w 63, 3) := by decide +kernel
theorem dX8_reckon_45 : decode cX8_reckon 45 = .ok (.iload 4, 2) := by decide +kernel
theorem dX8_reckon_47 : decode cX8_reckon 47 = .ok (.iload_n 2, 1) := by decide +kernel
theorem dX8_reckon_48 : decode cX8_reckon 48 = .ok (.iload 6, 2) := by decide +kernel
theorem dX8_reckon_50 : decode cX8_reckon 50 = .ok (.invokestatic 65, 3) := by decide +kernel
theorem dX8_reckon_53 : decode cX8_reckon 53 = .ok (.lmul, 1) := by decide +kernel
theorem dX8_reckon_54 : decode cX8_reckon 54 = .ok (.lload 7, 2) := by decide +kernel
theorem dX8_reckon_56 : decode cX8_reckon 56 = .ok (.invokestatic 46, 3) := by decide +kernel
theorem dX8_reckon_59 : decode cX8_reckon 59 = .ok (.goto 4, 3) := by decide +kernel
theorem dX8_reckon_62 : decode cX8_reckon 62 = .ok (.lconst 0, 1) := by decide +kernel
theorem dX8_reckon_63 : decode cX8_reckon 63 = .ok (.lstore 9, 2) := by decide +kernel
theorem dX8_reckon_65 : decode cX8_reckon 65 = .ok (.lload 7, 2) := by decide +kernel
theorem dX8_reckon_67 : decode cX8_reckon 67 = .ok (.lconst 0, 1) := by decide +kernel
theorem dX8_reckon_68 : decode cX8_reckon 68 = .ok (.lcmp, 1) := by decide +kernel
theorem dX8_reckon_69 : decode cX8_reckon 69 = .ok (.ifCond .le 25, 3) := by decide +kernel
theorem dX8_reckon_72 : decode cX8_reckon 72 = .ok (.lload 9, 2) := by decide +kernel
theorem dX8_reckon_74 : decode cX8_reckon 74 = .ok (.ldc2_w 69, 3) := by decide +kernel
theorem dX8_reckon_77 : decode cX8_reckon 77 = .ok (.lcmp, 1) := by decide +kernel
theorem dX8_reckon_78 : decode cX8_reckon 78 = .ok (.ifCond .lt 16, 3) := by decide +kernel
theorem dX8_reckon_81 : decode cX8_reckon 81 = .ok (.lload 9, 2) := by decide +kernel
theorem dX8_reckon_83 : decode cX8_reckon 83 = .ok (.ldc2_w 71, 3) := by decide +kernel
theorem dX8_reckon_86 : decode cX8_reckon 86 = .ok (.lcmp, 1) := by decide +kernel
theorem dX8_reckon_87 : decode cX8_reckon 87 = .ok (.ifCond .gt 7, 3) := by decide +kernel
theorem dX8_reckon_90 : decode cX8_reckon 90 = .ok (.iconst 1, 1) := by decide +kernel
theorem dX8_reckon_91 : decode cX8_reckon 91 = .ok (.goto 4, 3) := by decide +kernel
theorem dX8_reckon_94 : decode cX8_reckon 94 = .ok (.iconst 0, 1) := by decide +kernel
theorem dX8_reckon_95 : decode cX8_reckon 95 = .ok (.istore 11, 2) := by decide +kernel
theorem dX8_reckon_97 : decode cX8_reckon 97 = .ok (.aload_n 0, 1) := by decide +kernel
theorem dX8_reckon_98 : decode cX8_reckon 98 = .ok (.getfield 28, 3) := by decide +kernel
theorem dX8_reckon_101 : decode cX8_reckon 101 = .ok (.iload 6, 2) := by decide +kernel
theorem dX8_reckon_103 : decode cX8_reckon 103 = .ok (.sipush 360, 3) := by decide +kernel
theorem dX8_reckon_106 : decode cX8_reckon 106 = .ok (.iadd, 1) := by decide +kernel
theorem dX8_reckon_107 : decode cX8_reckon 107 = .ok (.iload 11, 2) := by decide +kernel
theorem dX8_reckon_109 : decode cX8_reckon 109 = .ok (.bastore, 1) := by decide +kernel
theorem dX8_reckon_110 : decode cX8_reckon 110 = .ok (.aload_n 0, 1) := by decide +kernel
theorem dX8_reckon_111 : decode cX8_reckon 111 = .ok (.getfield 25, 3) := by decide +kernel
theorem dX8_reckon_114 : decode cX8_reckon 114 = .ok (.iload 6, 2) := by decide +kernel
theorem dX8_reckon_116 : decode cX8_reckon 116 = .ok (.sipush 360, 3) := by decide +kernel
theorem dX8_reckon_119 : decode cX8_reckon 119 = .ok (.iadd, 1) := by decide +kernel
theorem dX8_reckon_120 : decode cX8_reckon 120 = .ok (.iload 11, 2) := by decide +kernel
theorem dX8_reckon_122 : decode cX8_reckon 122 = .ok (.ifCond .eq 9, 3) := by decide +kernel
theorem dX8_reckon_125 : decode cX8_reckon 125 = .ok (.lload 9, 2) := by decide +kernel
theorem dX8_reckon_127 : decode cX8_reckon 127 = .ok (.l2i, 1) := by decide +kernel
theorem dX8_reckon_128 : decode cX8_reckon 128 = .ok (.goto 4, 3) := by decide +kernel
theorem dX8_reckon_131 : decode cX8_reckon 131 = .ok (.iconst 0, 1) := by decide +kernel
theorem dX8_reckon_132 : decode cX8_reckon 132 = .ok (.iastore, 1) := by decide +kernel
theorem dX8_reckon_133 : decode cX8_reckon 133 = .ok (.iinc 6 1, 3) := by decide +kernel
theorem dX8_reckon_136 : decode cX8_reckon 136 = .ok (.goto (-121), 3) := by decide +kernel
theorem dX8_reckon_139 : decode cX8_reckon 139 = .ok (.return_, 1) := by decide +kernel
theorem dX8_has_0 : decode cX8_has 0 = .ok (.aload_n 0, 1) := by decide +kernel
theorem dX8_has_1 : decode cX8_has 1 = .ok (.getfield 28, 3) := by decide +kernel
theorem dX8_has_4 : decode cX8_has 4 = .ok (.iload_n 1, 1) := by decide +kernel
theorem dX8_has_5 : decode cX8_has 5 = .ok (.sipush 360, 3) := by decide +kernel
theorem dX8_has_8 : decode cX8_has 8 = .ok (.iadd, 1) := by decide +kernel
theorem dX8_has_9 : decode cX8_has 9 = .ok (.baload, 1) := by decide +kernel
theorem dX8_has_10 : decode cX8_has 10 = .ok (.ireturn, 1) := by decide +kernel
theorem dX8_off_0 : decode cX8_off 0 = .ok (.aload_n 0, 1) := by decide +kernel
theorem dX8_off_1 : decode cX8_off 1 = .ok (.getfield 25, 3) := by decide +kernel
theorem dX8_off_4 : decode cX8_off 4 = .ok (.iload_n 1, 1) := by decide +kernel
theorem dX8_off_5 : decode cX8_off 5 = .ok (.sipush 360, 3) := by decide +kernel
theorem dX8_off_8 : decode cX8_off 8 = .ok (.iadd, 1) := by decide +kernel
theorem dX8_off_9 : decode cX8_off 9 = .ok (.iaload, 1) := by decide +kernel
theorem dX8_off_10 : decode cX8_off 10 = .ok (.ireturn, 1) := by decide +kernel
theorem dX8_byLines_0 : decode cX8_byLines 0 = .ok (.sipush (-360), 3) := by decide +kernel
theorem dX8_byLines_3 : decode cX8_byLines 3 = .ok (.istore_n 2, 1) := by decide +kernel
theorem dX8_byLines_4 : decode cX8_byLines 4 = .ok (.iload_n 2, 1) := by decide +kernel
theorem dX8_byLines_5 : decode cX8_byLines 5 = .ok (.sipush 360, 3) := by decide +kernel
theorem dX8_byLines_8 : decode cX8_byLines 8 = .ok (.if_icmp .ge 94, 3) := by decide +kernel
theorem dX8_byLines_11 : decode cX8_byLines 11 = .ok (.aload_n 0, 1) := by decide +kernel
theorem dX8_byLines_12 : decode cX8_byLines 12 = .ok (.iload_n 2, 1) := by decide +kernel
theorem dX8_byLines_13 : decode cX8_byLines 13 = .ok (.invokevirtual 73, 3) := by decide +kernel
theorem dX8_byLines_16 : decode cX8_byLines 16 = .ok (.ifCond .eq 80, 3) := by decide +kernel
theorem dX8_byLines_19 : decode cX8_byLines 19 = .ok (.aload_n 0, 1) := by decide +kernel
theorem dX8_byLines_20 : decode cX8_byLines 20 = .ok (.iload_n 2, 1) := by decide +kernel
theorem dX8_byLines_21 : decode cX8_byLines 21 = .ok (.bipush 60, 2) := by decide +kernel
theorem dX8_byLines_23 : decode cX8_byLines 23 = .ok (.iadd, 1) := by decide +kernel
theorem dX8_byLines_24 : decode cX8_byLines 24 = .ok (.invokevirtual 73, 3) := by decide +kernel
theorem dX8_byLines_27 : decode cX8_byLines 27 = .ok (.ifCond .eq 69, 3) := by decide +kernel
theorem dX8_byLines_30 : decode cX8_byLines 30 = .ok (.aload_n 0, 1) := by decide +kernel
theorem dX8_byLines_31 : decode cX8_byLines 31 = .ok (.iload_n 2, 1) := by decide +kernel
theorem dX8_byLines_32 : decode cX8_byLines 32 = .ok (.invokevirtual 77, 3) := by decide +kernel
theorem dX8_byLines_35 : decode cX8_byLines 35 = .ok (.iload_n 1, 1) := by decide +kernel
theorem dX8_byLines_36 : decode cX8_byLines 36 = .ok (.if_icmp .gt 60, 3) := by decide +kernel
theorem dX8_byLines_39 : decode cX8_byLines 39 = .ok (.iload_n 1, 1) := by decide +kernel
theorem dX8_byLines_40 : decode cX8_byLines 40 = .ok (.aload_n 0, 1) := by decide +kernel
theorem dX8_byLines_41 : decode cX8_byLines 41 = .ok (.iload_n 2, 1) := by decide +kernel
theorem dX8_byLines_42 : decode cX8_byLines 42 = .ok (.bipush 60, 2) := by decide +kernel
theorem dX8_byLines_44 : decode cX8_byLines 44 = .ok (.iadd, 1) := by decide +kernel
theorem dX8_byLines_45 : decode cX8_byLines 45 = .ok (.invokevirtual 77, 3) := by decide +kernel
theorem dX8_byLines_48 : decode cX8_byLines 48 = .ok (.if_icmp .gt 48, 3) := by decide +kernel
theorem dX8_byLines_51 : decode cX8_byLines 51 = .ok (.aload_n 0, 1) := by decide +kernel
theorem dX8_byLines_52 : decode cX8_byLines 52 = .ok (.iload_n 2, 1) := by decide +kernel
theorem dX8_byLines_53 : decode cX8_byLines 53 = .ok (.bipush 60, 2) := by decide +kernel
theorem dX8_byLines_55 : decode cX8_byLines 55 = .ok (.iadd, 1) := by decide +kernel
theorem dX8_byLines_56 : decode cX8_byLines 56 = .ok (.invokevirtual 77, 3) := by decide +kernel
theorem dX8_byLines_59 : decode cX8_byLines 59 = .ok (.aload_n 0, 1) := by decide +kernel
theorem dX8_byLines_60 : decode cX8_byLines 60 = .ok (.iload_n 2, 1) := by decide +kernel
theorem dX8_byLines_61 : decode cX8_byLines 61 = .ok (.invokevirtual 77, 3) := by decide +kernel
theorem dX8_byLines_64 : decode cX8_byLines 64 = .ok (.isub, 1) := by decide +kernel
theorem dX8_byLines_65 : decode cX8_byLines 65 = .ok (.istore_n 3, 1) := by decide +kernel
theorem dX8_byLines_66 : decode cX8_byLines 66 = .ok (.iload_n 3, 1) := by decide +kernel
theorem dX8_byLines_67 : decode cX8_byLines 67 = .ok (.ifCond .ne 7, 3) := by decide +kernel
theorem dX8_byLines_70 : decode cX8_byLines 70 = .ok (.iload_n 2, 1) := by decide +kernel
theorem dX8_byLines_71 : decode cX8_byLines 71 = .ok (.goto 24, 3) := by decide +kernel
theorem dX8_byLines_74 : decode cX8_byLines 74 = .ok (.iload_n 2, 1) := by decide +kernel
theorem dX8_byLines_75 : decode cX8_byLines 75 = .ok (.i2l, 1) := by decide +kernel
theorem dX8_byLines_76 : decode cX8_byLines 76 = .ok (.ldc2_w 81, 3) := by decide +kernel
theorem dX8_byLines_79 : decode cX8_byLines 79 = .ok (.iload_n 1, 1) := by decide +kernel
theorem dX8_byLines_80 : decode cX8_byLines 80 = .ok (.aload_n 0, 1) := by decide +kernel
theorem dX8_byLines_81 : decode cX8_byLines 81 = .ok (.iload_n 2, 1) := by decide +kernel
theorem dX8_byLines_82 : decode cX8_byLines 82 = .ok (.invokevirtual 77, 3) := by decide +kernel
theorem dX8_byLines_85 : decode cX8_byLines 85 = .ok (.isub, 1) := by decide +kernel
theorem dX8_byLines_86 : decode cX8_byLines 86 = .ok (.i2l, 1) := by decide +kernel
theorem dX8_byLines_87 : decode cX8_byLines 87 = .ok (.lmul, 1) := by decide +kernel
theorem dX8_byLines_88 : decode cX8_byLines 88 = .ok (.iload_n 3, 1) := by decide +kernel
theorem dX8_byLines_89 : decode cX8_byLines 89 = .ok (.i2l, 1) := by decide +kernel
theorem dX8_byLines_90 : decode cX8_byLines 90 = .ok (.invokestatic 46, 3) := by decide +kernel
theorem dX8_byLines_93 : decode cX8_byLines 93 = .ok (.ladd, 1) := by decide +kernel
theorem dX8_byLines_94 : decode cX8_byLines 94 = .ok (.l2i, 1) := by decide +kernel
theorem dX8_byLines_95 : decode cX8_byLines 95 = .ok (.ireturn, 1) := by decide +kernel
theorem dX8_byLines_96 : decode cX8_byLines 96 = .ok (.iinc 2 60, 3) := by decide +kernel
theorem dX8_byLines_99 : decode cX8_byLines 99 = .ok (.goto (-95), 3) := by decide +kernel
theorem dX8_byLines_102 : decode cX8_byLines 102 = .ok (.ldc 83, 2) := by decide +kernel
theorem dX8_byLines_104 : decode cX8_byLines 104 = .ok (.ireturn, 1) := by decide +kernel
theorem dX8_byShadow_0 : decode cX8_byShadow 0 = .ok (.ldc 83, 2) := by decide +kernel
theorem dX8_byShadow_2 : decode cX8_byShadow 2 = .ok (.istore_n 2, 1) := by decide +kernel
theorem dX8_byShadow_3 : decode cX8_byShadow 3 = .ok (.iconst 0, 1) := by decide +kernel
theorem dX8_byShadow_4 : decode cX8_byShadow 4 = .ok (.istore_n 3, 1) := by decide +kernel
theorem dX8_byShadow_5 : decode cX8_byShadow 5 = .ok (.sipush (-360), 3) := by decide +kernel
theorem dX8_byShadow_8 : decode cX8_byShadow 8 = .ok (.istore 4, 2) := by decide +kernel
theorem dX8_byShadow_10 : decode cX8_byShadow 10 = .ok (.iload 4, 2) := by decide +kernel
theorem dX8_byShadow_12 : decode cX8_byShadow 12 = .ok (.sipush 360, 3) := by decide +kernel
theorem dX8_byShadow_15 : decode cX8_byShadow 15 = .ok (.if_icmp .gt 74, 3) := by decide +kernel
theorem dX8_byShadow_18 : decode cX8_byShadow 18 = .ok (.aload_n 0, 1) := by decide +kernel
theorem dX8_byShadow_19 : decode cX8_byShadow 19 = .ok (.iload 4, 2) := by decide +kernel
theorem dX8_byShadow_21 : decode cX8_byShadow 21 = .ok (.invokevirtual 73, 3) := by decide +kernel
theorem dX8_byShadow_24 : decode cX8_byShadow 24 = .ok (.ifCond .eq 59, 3) := by decide +kernel
theorem dX8_byShadow_27 : decode cX8_byShadow 27 = .ok (.aload_n 0, 1) := by decide +kernel
theorem dX8_byShadow_28 : decode cX8_byShadow 28 = .ok (.iload 4, 2) := by decide +kernel
theorem dX8_byShadow_30 : decode cX8_byShadow 30 = .ok (.invokevirtual 77, 3) := by decide +kernel
theorem dX8_byShadow_33 : decode cX8_byShadow 33 = .ok (.iload_n 1, 1) := by decide +kernel
theorem dX8_byShadow_34 : decode cX8_byShadow 34 = .ok (.isub, 1) := by decide +kernel
theorem dX8_byShadow_35 : decode cX8_byShadow 35 = .ok (.invokestatic 84, 3) := by decide +kernel
theorem dX8_byShadow_38 : decode cX8_byShadow 38 = .ok (.istore 5, 2) := by decide +kernel
theorem dX8_byShadow_40 : decode cX8_byShadow 40 = .ok (.iload_n 2, 1) := by decide +kernel
theorem dX8_byShadow_41 : decode cX8_byShadow 41 = .ok (.ldc 83, 2) := by decide +kernel
theorem dX8_byShadow_43 : decode cX8_byShadow 43 = .ok (.if_icmp .eq 9, 3) := by decide +kernel
theorem dX8_byShadow_46 : decode cX8_byShadow 46 = .ok (.iload 5, 2) := by decide +kernel
theorem dX8_byShadow_48 : decode cX8_byShadow 48 = .ok (.iload_n 3, 1) := by decide +kernel
theorem dX8_byShadow_49 : decode cX8_byShadow 49 = .ok (.if_icmp .ge 7, 3) := by decide +kernel
theorem dX8_byShadow_52 : decode cX8_byShadow 52 = .ok (.iconst 1, 1) := by decide +kernel
theorem dX8_byShadow_53 : decode cX8_byShadow 53 = .ok (.goto 4, 3) := by decide +kernel
theorem dX8_byShadow_56 : decode cX8_byShadow 56 = .ok (.iconst 0, 1) := by decide +kernel
theorem dX8_byShadow_57 : decode cX8_byShadow 57 = .ok (.istore 6, 2) := by decide +kernel
theorem dX8_byShadow_59 : decode cX8_byShadow 59 = .ok (.iload 6, 2) := by decide +kernel
theorem dX8_byShadow_61 : decode cX8_byShadow 61 = .ok (.ifCond .eq 8, 3) := by decide +kernel
theorem dX8_byShadow_64 : decode cX8_byShadow 64 = .ok (.iload 4, 2) := by decide +kernel
theorem dX8_byShadow_66 : decode cX8_byShadow 66 = .ok (.goto 4, 3) := by decide +kernel
theorem dX8_byShadow_69 : decode cX8_byShadow 69 = .ok (.iload_n 2, 1) := by decide +kernel
theorem dX8_byShadow_70 : decode cX8_byShadow 70 = .ok (.istore_n 2, 1) := by decide +kernel
theorem dX8_byShadow_71 : decode cX8_byShadow 71 = .ok (.iload 6, 2) := by decide +kernel
theorem dX8_byShadow_73 : decode cX8_byShadow 73 = .ok (.ifCond .eq 8, 3) := by decide +kernel
theorem dX8_byShadow_76 : decode cX8_byShadow 76 = .ok (.iload 5, 2) := by decide +kernel
theorem dX8_byShadow_78 : decode cX8_byShadow 78 = .ok (.goto 4, 3) := by decide +kernel
theorem dX8_byShadow_81 : decode cX8_byShadow 81 = .ok (.iload_n 3, 1) := by decide +kernel
theorem dX8_byShadow_82 : decode cX8_byShadow 82 = .ok (.istore_n 3, 1) := by decide +kernel
theorem dX8_byShadow_83 : decode cX8_byShadow 83 = .ok (.iinc 4 1, 3) := by decide +kernel
theorem dX8_byShadow_86 : decode cX8_byShadow 86 = .ok (.goto (-76), 3) := by decide +kernel
theorem dX8_byShadow_89 : decode cX8_byShadow 89 = .ok (.iload_n 2, 1) := by decide +kernel
theorem dX8_byShadow_90 : decode cX8_byShadow 90 = .ok (.ireturn, 1) := by decide +kernel
theorem dX8_apartOf_0 : decode cX8_apartOf 0 = .ok (.iconst 0, 1) := by decide +kernel
theorem dX8_apartOf_1 : decode cX8_apartOf 1 = .ok (.istore_n 2, 1) := by decide +kernel
theorem dX8_apartOf_2 : decode cX8_apartOf 2 = .ok (.ldc 83, 2) := by decide +kernel
theorem dX8_apartOf_4 : decode cX8_apartOf 4 = .ok (.istore_n 3, 1) := by decide +kernel
theorem dX8_apartOf_5 : decode cX8_apartOf 5 = .ok (.sipush (-360), 3) := by decide +kernel
theorem dX8_apartOf_8 : decode cX8_apartOf 8 = .ok (.istore 4, 2) := by decide +kernel
theorem dX8_apartOf_10 : decode cX8_apartOf 10 = .ok (.iload 4, 2) := by decide +kernel
theorem dX8_apartOf_12 : decode cX8_apartOf 12 = .ok (.sipush 360, 3) := by decide +kernel
theorem dX8_apartOf_15 : decode cX8_apartOf 15 = .ok (.if_icmp .gt 84, 3) := by decide +kernel
theorem dX8_apartOf_18 : decode cX8_apartOf 18 = .ok (.aload_n 0, 1) := by decide +kernel
theorem dX8_apartOf_19 : decode cX8_apartOf 19 = .ok (.iload 4, 2) := by decide +kernel
theorem dX8_apartOf_21 : decode cX8_apartOf 21 = .ok (.invokevirtual 73, 3) := by decide +kernel
theorem dX8_apartOf_24 : decode cX8_apartOf 24 = .ok (.ifCond .eq 16, 3) := by decide +kernel
theorem dX8_apartOf_27 : decode cX8_apartOf 27 = .ok (.aload_n 0, 1) := by decide +kernel
theorem dX8_apartOf_28 : decode cX8_apartOf 28 = .ok (.aload_n 0, 1) := by decide +kernel
theorem dX8_apartOf_29 : decode cX8_apartOf 29 = .ok (.iload 4, 2) := by decide +kernel
theorem dX8_apartOf_31 : decode cX8_apartOf 31 = .ok (.invokevirtual 77, 3) := by decide +kernel
theorem dX8_apartOf_34 : decode cX8_apartOf 34 = .ok (.invokevirtual 87, 3) := by decide +kernel
theorem dX8_apartOf_37 : decode cX8_apartOf 37 = .ok (.goto 5, 3) := by decide +kernel
theorem dX8_apartOf_40 : decode cX8_apartOf 40 = .ok (.ldc 83, 2) := by decide +kernel
theorem dX8_apartOf_42 : decode cX8_apartOf 42 = .ok (.istore 5, 2) := by decide +kernel
theorem dX8_apartOf_44 : decode cX8_apartOf 44 = .ok (.iload 5, 2) := by decide +kernel
theorem dX8_apartOf_46 : decode cX8_apartOf 46 = .ok (.ldc 83, 2) := by decide +kernel
theorem dX8_apartOf_48 : decode cX8_apartOf 48 = .ok (.if_icmp .eq 45, 3) := by decide +kernel
theorem dX8_apartOf_51 : decode cX8_apartOf 51 = .ok (.iload 4, 2) := by decide +kernel
theorem dX8_apartOf_53 : decode cX8_apartOf 53 = .ok (.iload 5, 2) := by decide +kernel
theorem dX8_apartOf_55 : decode cX8_apartOf 55 = .ok (.isub, 1) := by decide +kernel
theorem dX8_apartOf_56 : decode cX8_apartOf 56 = .ok (.invokestatic 84, 3) := by decide +kernel
theorem dX8_apartOf_59 : decode cX8_apartOf 59 = .ok (.istore 6, 2) := by decide +kernel
theorem dX8_apartOf_61 : decode cX8_apartOf 61 = .ok (.iload_n 3, 1) := by decide +kernel
theorem dX8_apartOf_62 : decode cX8_apartOf 62 = .ok (.ldc 83, 2) := by decide +kernel
theorem dX8_apartOf_64 : decode cX8_apartOf 64 = .ok (.if_icmp .eq 9, 3) := by decide +kernel
theorem dX8_apartOf_67 : decode cX8_apartOf 67 = .ok (.iload 6, 2) := by decide +kernel
theorem dX8_apartOf_69 : decode cX8_apartOf 69 = .ok (.iload_n 2, 1) := by decide +kernel
theorem dX8_apartOf_70 : decode cX8_apartOf 70 = .ok (.if_icmp .le 8, 3) := by decide +kernel
theorem dX8_apartOf_73 : decode cX8_apartOf 73 = .ok (.iload 4, 2) := by decide +kernel
theorem dX8_apartOf_75 : decode cX8_apartOf 75 = .ok (.goto 4, 3) := by decide +kernel
theorem dX8_apartOf_78 : decode cX8_apartOf 78 = .ok (.iload_n 3, 1) := by decide +kernel
theorem dX8_apartOf_79 : decode cX8_apartOf 79 = .ok (.istore_n 3, 1) := by decide +kernel
theorem dX8_apartOf_80 : decode cX8_apartOf 80 = .ok (.iload 6, 2) := by decide +kernel
theorem dX8_apartOf_82 : decode cX8_apartOf 82 = .ok (.iload_n 2, 1) := by decide +kernel
theorem dX8_apartOf_83 : decode cX8_apartOf 83 = .ok (.if_icmp .le 8, 3) := by decide +kernel
theorem dX8_apartOf_86 : decode cX8_apartOf 86 = .ok (.iload 6, 2) := by decide +kernel
theorem dX8_apartOf_88 : decode cX8_apartOf 88 = .ok (.goto 4, 3) := by decide +kernel
theorem dX8_apartOf_91 : decode cX8_apartOf 91 = .ok (.iload_n 2, 1) := by decide +kernel
theorem dX8_apartOf_92 : decode cX8_apartOf 92 = .ok (.istore_n 2, 1) := by decide +kernel
theorem dX8_apartOf_93 : decode cX8_apartOf 93 = .ok (.iinc 4 1, 3) := by decide +kernel
theorem dX8_apartOf_96 : decode cX8_apartOf 96 = .ok (.goto (-86), 3) := by decide +kernel
theorem dX8_apartOf_99 : decode cX8_apartOf 99 = .ok (.iload_n 1, 1) := by decide +kernel
theorem dX8_apartOf_100 : decode cX8_apartOf 100 = .ok (.ifCond .ne 7, 3) := by decide +kernel
theorem dX8_apartOf_103 : decode cX8_apartOf 103 = .ok (.iload_n 2, 1) := by decide +kernel
theorem dX8_apartOf_104 : decode cX8_apartOf 104 = .ok (.goto 4, 3) := by decide +kernel
theorem dX8_apartOf_107 : decode cX8_apartOf 107 = .ok (.iload_n 3, 1) := by decide +kernel
theorem dX8_apartOf_108 : decode cX8_apartOf 108 = .ok (.ireturn, 1) := by decide +kernel
theorem dX8_hourLines_0 : decode cX8_hourLines 0 = .ok (.iconst 0, 1) := by decide +kernel
theorem dX8_hourLines_1 : decode cX8_hourLines 1 = .ok (.istore_n 1, 1) := by decide +kernel
theorem dX8_hourLines_2 : decode cX8_hourLines 2 = .ok (.sipush (-360), 3) := by decide +kernel
theorem dX8_hourLines_5 : decode cX8_hourLines 5 = .ok (.istore_n 2, 1) := by decide +kernel
theorem dX8_hourLines_6 : decode cX8_hourLines 6 = .ok (.iload_n 2, 1) := by decide +kernel
theorem dX8_hourLines_7 : decode cX8_hourLines 7 = .ok (.sipush 360, 3) := by decide +kernel
theorem dX8_hourLines_10 : decode cX8_hourLines 10 = .ok (.if_icmp .gt 25, 3) := by decide +kernel
theorem dX8_hourLines_13 : decode cX8_hourLines 13 = .ok (.iload_n 1, 1) := by decide +kernel
theorem dX8_hourLines_14 : decode cX8_hourLines 14 = .ok (.aload_n 0, 1) := by decide +kernel
theorem dX8_hourLines_15 : decode cX8_hourLines 15 = .ok (.iload_n 2, 1) := by decide +kernel
theorem dX8_hourLines_16 : decode cX8_hourLines 16 = .ok (.invokevirtual 73, 3) := by decide +kernel
theorem dX8_hourLines_19 : decode cX8_hourLines 19 = .ok (.ifCond .eq 7, 3) := by decide +kernel
theorem dX8_hourLines_22 : decode cX8_hourLines 22 = .ok (.iconst 1, 1) := by decide +kernel
theorem dX8_hourLines_23 : decode cX8_hourLines 23 = .ok (.goto 4, 3) := by decide +kernel
theorem dX8_hourLines_26 : decode cX8_hourLines 26 = .ok (.iconst 0, 1) := by decide +kernel
theorem dX8_hourLines_27 : decode cX8_hourLines 27 = .ok (.iadd, 1) := by decide +kernel
theorem dX8_hourLines_28 : decode cX8_hourLines 28 = .ok (.istore_n 1, 1) := by decide +kernel
theorem dX8_hourLines_29 : decode cX8_hourLines 29 = .ok (.iinc 2 60, 3) := by decide +kernel
theorem dX8_hourLines_32 : decode cX8_hourLines 32 = .ok (.goto (-26), 3) := by decide +kernel
theorem dX8_hourLines_35 : decode cX8_hourLines 35 = .ok (.iload_n 1, 1) := by decide +kernel
theorem dX8_hourLines_36 : decode cX8_hourLines 36 = .ok (.ireturn, 1) := by decide +kernel
theorem dX8_of_0 : decode cX8_of 0 = .ok (.aload_n 0, 1) := by decide +kernel
theorem dX8_of_1 : decode cX8_of 1 = .ok (.getfield 7, 3) := by decide +kernel
theorem dX8_of_4 : decode cX8_of 4 = .ok (.bipush 38, 2) := by decide +kernel
theorem dX8_of_6 : decode cX8_of 6 = .ok (.bipush 8, 2) := by decide +kernel
theorem dX8_of_8 : decode cX8_of 8 = .ok (.iload_n 1, 1) := by decide +kernel
theorem dX8_of_9 : decode cX8_of 9 = .ok (.imul, 1) := by decide +kernel
theorem dX8_of_10 : decode cX8_of 10 = .ok (.iadd, 1) := by decide +kernel
theorem dX8_of_11 : decode cX8_of 11 = .ok (.iload_n 2, 1) := by decide +kernel
theorem dX8_of_12 : decode cX8_of 12 = .ok (.iadd, 1) := by decide +kernel
theorem dX8_of_13 : decode cX8_of 13 = .ok (.iaload, 1) := by decide +kernel
theorem dX8_of_14 : decode cX8_of 14 = .ok (.ireturn, 1) := by decide +kernel
theorem dX8_put_0 : decode cX8_put 0 = .ok (.aload_n 0, 1) := by decide +kernel
theorem dX8_put_1 : decode cX8_put 1 = .ok (.getfield 7, 3) := by decide +kernel
theorem dX8_put_4 : decode cX8_put 4 = .ok (.bipush 38, 2) := by decide +kernel
theorem dX8_put_6 : decode cX8_put 6 = .ok (.bipush 8, 2) := by decide +kernel
theorem dX8_put_8 : decode cX8_put 8 = .ok (.iload_n 1, 1) := by decide +kernel
theorem dX8_put_9 : decode cX8_put 9 = .ok (.imul, 1) := by decide +kernel
theorem dX8_put_10 : decode cX8_put 10 = .ok (.iadd, 1) := by decide +kernel
theorem dX8_put_11 : decode cX8_put 11 = .ok (.iload_n 2, 1) := by decide +kernel
theorem dX8_put_12 : decode cX8_put 12 = .ok (.iadd, 1) := by decide +kernel
theorem dX8_put_13 : decode cX8_put 13 = .ok (.iload_n 3, 1) := by decide +kernel
theorem dX8_put_14 : decode cX8_put 14 = .ok (.iastore, 1) := by decide +kernel
theorem dX8_put_15 : decode cX8_put 15 = .ok (.return_, 1) := by decide +kernel
theorem dX8_isWall_0 : decode cX8_isWall 0 = .ok (.iload_n 1, 1) := by decide +kernel
theorem dX8_isWall_1 : decode cX8_isWall 1 = .ok (.iconst 0, 1) := by decide +kernel
theorem dX8_isWall_2 : decode cX8_isWall 2 = .ok (.aload_n 0, 1) := by decide +kernel
theorem dX8_isWall_3 : decode cX8_isWall 3 = .ok (.getfield 7, 3) := by decide +kernel
theorem dX8_isWall_6 : decode cX8_isWall 6 = .ok (.iconst 0, 1) := by decide +kernel
theorem dX8_isWall_7 : decode cX8_isWall 7 = .ok (.iaload, 1) := by decide +kernel
theorem dX8_isWall_8 : decode cX8_isWall 8 = .ok (.iconst 1, 1) := by decide +kernel
theorem dX8_isWall_9 : decode cX8_isWall 9 = .ok (.isub, 1) := by decide +kernel
theorem dX8_isWall_10 : decode cX8_isWall 10 = .ok (.invokestatic 90, 3) := by decide +kernel
theorem dX8_isWall_13 : decode cX8_isWall 13 = .ok (.ireturn, 1) := by decide +kernel
theorem dX8_isCommission_0 : decode cX8_isCommission 0 = .ok (.iload_n 1, 1) := by decide +kernel
theorem dX8_isCommission_1 : decode cX8_isCommission 1 = .ok (.iconst 0, 1) := by decide +kernel
theorem dX8_isCommission_2 : decode cX8_isCommission 2 = .ok (.aload_n 0, 1) := by decide +kernel
theorem dX8_isCommission_3 : decode cX8_isCommission 3 = .ok (.getfield 7, 3) := by decide +kernel
theorem dX8_isCommission_6 : decode cX8_isCommission 6 = .ok (.iconst 1, 1) := by decide +kernel
theorem dX8_isCommission_7 : decode cX8_isCommission 7 = .ok (.iaload, 1) := by decide +kernel
theorem dX8_isCommission_8 : decode cX8_isCommission 8 = .ok (.iconst 1, 1) := by decide +kernel
theorem dX8_isCommission_9 : decode cX8_isCommission 9 = .ok (.isub, 1) := by decide +kernel
theorem dX8_isCommission_10 : decode cX8_isCommission 10 = .ok (.invokestatic 90, 3) := by decide +kernel
theorem dX8_isCommission_13 : decode cX8_isCommission 13 = .ok (.ireturn, 1) := by decide +kernel
theorem dX8_isBit_0 : decode cX8_isBit 0 = .ok (.iload_n 0, 1) := by decide +kernel
theorem dX8_isBit_1 : decode cX8_isBit 1 = .ok (.iconst 0, 1) := by decide +kernel
theorem dX8_isBit_2 : decode cX8_isBit 2 = .ok (.iconst 1, 1) := by decide +kernel
theorem dX8_isBit_3 : decode cX8_isBit 3 = .ok (.invokestatic 90, 3) := by decide +kernel
theorem dX8_isBit_6 : decode cX8_isBit 6 = .ok (.ireturn, 1) := by decide +kernel
theorem dX8_setCorrection_0 : decode cX8_setCorrection 0 = .ok (.aload_n 0, 1) := by decide +kernel
theorem dX8_setCorrection_1 : decode cX8_setCorrection 1 = .ok (.iconst 0, 1) := by decide +kernel
theorem dX8_setCorrection_2 : decode cX8_setCorrection 2 = .ok (.putfield 35, 3) := by decide +kernel
theorem dX8_setCorrection_5 : decode cX8_setCorrection 5 = .ok (.iload_n 1, 1) := by decide +kernel
theorem dX8_setCorrection_6 : decode cX8_setCorrection 6 = .ok (.iconst 0, 1) := by decide +kernel
theorem dX8_setCorrection_7 : decode cX8_setCorrection 7 = .ok (.bipush 11, 2) := by decide +kernel
theorem dX8_setCorrection_9 : decode cX8_setCorrection 9 = .ok (.invokestatic 90, 3) := by decide +kernel
theorem dX8_setCorrection_12 : decode cX8_setCorrection 12 = .ok (.ifCond .eq 14, 3) := by decide +kernel
theorem dX8_setCorrection_15 : decode cX8_setCorrection 15 = .ok (.iload_n 2, 1) := by decide +kernel
theorem dX8_setCorrection_16 : decode cX8_setCorrection 16 = .ok (.bipush (-20), 2) := by decide +kernel
theorem dX8_setCorrection_18 : decode cX8_setCorrection 18 = .ok (.bipush 20, 2) := by decide +kernel
theorem dX8_setCorrection_20 : decode cX8_setCorrection 20 = .ok (.invokestatic 90, 3) := by decide +kernel
theorem dX8_setCorrection_23 : decode cX8_setCorrection 23 = .ok (.ifCond .ne 6, 3) := by decide +kernel
theorem dX8_setCorrection_26 : decode cX8_setCorrection 26 = .ok (.ldc 94, 2) := by decide +kernel
theorem dX8_setCorrection_28 : decode cX8_setCorrection 28 = .ok (.ireturn, 1) := by decide +kernel
theorem dX8_setCorrection_29 : decode cX8_setCorrection 29 = .ok (.aload_n 0, 1) := by decide +kernel
theorem dX8_setCorrection_30 : decode cX8_setCorrection 30 = .ok (.invokevirtual 95, 3) := by decide +kernel
theorem dX8_setCorrection_33 : decode cX8_setCorrection 33 = .ok (.aload_n 0, 1) := by decide +kernel
theorem dX8_setCorrection_34 : decode cX8_setCorrection 34 = .ok (.getfield 7, 3) := by decide +kernel
theorem dX8_setCorrection_37 : decode cX8_setCorrection 37 = .ok (.bipush 8, 2) := by decide +kernel
theorem dX8_setCorrection_39 : decode cX8_setCorrection 39 = .ok (.iload_n 1, 1) := by decide +kernel
theorem dX8_setCorrection_40 : decode cX8_setCorrection 40 = .ok (.iadd, 1) := by decide +kernel
theorem dX8_setCorrection_41 : decode cX8_setCorrection 41 = .ok (.iaload, 1) := by decide +kernel
theorem dX8_setCorrection_42 : decode cX8_setCorrection 42 = .ok (.istore_n 3, 1) := by decide +kernel
theorem dX8_setCorrection_43 : decode cX8_setCorrection 43 = .ok (.aload_n 0, 1) := by decide +kernel
theorem dX8_setCorrection_44 : decode cX8_setCorrection 44 = .ok (.getfield 7, 3) := by decide +kernel
theorem dX8_setCorrection_47 : decode cX8_setCorrection 47 = .ok (.bipush 8, 2) := by decide +kernel
theorem dX8_setCorrection_49 : decode cX8_setCorrection 49 = .ok (.iload_n 1, 1) := by decide +kernel
theorem dX8_setCorrection_50 : decode cX8_setCorrection 50 = .ok (.iadd, 1) := by decide +kernel
theorem dX8_setCorrection_51 : decode cX8_setCorrection 51 = .ok (.iload_n 2, 1) := by decide +kernel
theorem dX8_setCorrection_52 : decode cX8_setCorrection 52 = .ok (.iastore, 1) := by decide +kernel
theorem dX8_setCorrection_53 : decode cX8_setCorrection 53 = .ok (.iload_n 3, 1) := by decide +kernel
theorem dX8_setCorrection_54 : decode cX8_setCorrection 54 = .ok (.ireturn, 1) := by decide +kernel
theorem dX8_leastOf_0 : decode cX8_leastOf 0 = .ok (.iload_n 0, 1) := by decide +kernel
theorem dX8_leastOf_1 : decode cX8_leastOf 1 = .ok (.ifCond .eq 8, 3) := by decide +kernel
theorem dX8_leastOf_4 : decode cX8_leastOf 4 = .ok (.iload_n 0, 1) := by decide +kernel
theorem dX8_leastOf_5 : decode cX8_leastOf 5 = .ok (.iconst 2, 1) := by decide +kernel
theorem dX8_leastOf_6 : decode cX8_leastOf 6 = .ok (.if_icmp .ne 7, 3) := by decide +kernel
theorem dX8_leastOf_9 : decode cX8_leastOf 9 = .ok (.iconst 0, 1) := by decide +kernel
theorem dX8_leastOf_10 : decode cX8_leastOf 10 = .ok (.goto 4, 3) := by decide +kernel
theorem dX8_leastOf_13 : decode cX8_leastOf 13 = .ok (.iconst 1, 1) := by decide +kernel
theorem dX8_leastOf_14 : decode cX8_leastOf 14 = .ok (.ireturn, 1) := by decide +kernel
theorem dX8_mostOf_0 : decode cX8_mostOf 0 = .ok (.iload_n 0, 1) := by decide +kernel
theorem dX8_mostOf_1 : decode cX8_mostOf 1 = .ok (.ifCond .ne 8, 3) := by decide +kernel
theorem dX8_mostOf_4 : decode cX8_mostOf 4 = .ok (.bipush 10, 2) := by decide +kernel
theorem dX8_mostOf_6 : decode cX8_mostOf 6 = .ok (.goto 25, 3) := by decide +kernel
theorem dX8_mostOf_9 : decode cX8_mostOf 9 = .ok (.iload_n 0, 1) := by decide +kernel
theorem dX8_mostOf_10 : decode cX8_mostOf 10 = .ok (.iconst 1, 1) := by decide +kernel
theorem dX8_mostOf_11 : decode cX8_mostOf 11 = .ok (.if_icmp .ne 8, 3) := by decide +kernel
theorem dX8_mostOf_14 : decode cX8_mostOf 14 = .ok (.bipush 13, 2) := by decide +kernel
theorem dX8_mostOf_16 : decode cX8_mostOf 16 = .ok (.goto 15, 3) := by decide +kernel
theorem dX8_mostOf_19 : decode cX8_mostOf 19 = .ok (.iload_n 0, 1) := by decide +kernel
theorem dX8_mostOf_20 : decode cX8_mostOf 20 = .ok (.iconst 2, 1) := by decide +kernel
theorem dX8_mostOf_21 : decode cX8_mostOf 21 = .ok (.if_icmp .ne 8, 3) := by decide +kernel
theorem dX8_mostOf_24 : decode cX8_mostOf 24 = .ok (.bipush 60, 2) := by decide +kernel
theorem dX8_mostOf_26 : decode cX8_mostOf 26 = .ok (.goto 5, 3) := by decide +kernel
theorem dX8_mostOf_29 : decode cX8_mostOf 29 = .ok (.bipush 100, 2) := by decide +kernel
theorem dX8_mostOf_31 : decode cX8_mostOf 31 = .ok (.ireturn, 1) := by decide +kernel
theorem dX8_set_0 : decode cX8_set 0 = .ok (.aload_n 0, 1) := by decide +kernel
theorem dX8_set_1 : decode cX8_set 1 = .ok (.iconst 0, 1) := by decide +kernel
theorem dX8_set_2 : decode cX8_set 2 = .ok (.putfield 35, 3) := by decide +kernel
theorem dX8_set_5 : decode cX8_set 5 = .ok (.iload_n 1, 1) := by decide +kernel
theorem dX8_set_6 : decode cX8_set 6 = .ok (.iconst 0, 1) := by decide +kernel
theorem dX8_set_7 : decode cX8_set 7 = .ok (.iconst 3, 1) := by decide +kernel
theorem dX8_set_8 : decode cX8_set 8 = .ok (.invokestatic 90, 3) := by decide +kernel
theorem dX8_set_11 : decode cX8_set 11 = .ok (.ifCond .eq 18, 3) := by decide +kernel
theorem dX8_set_14 : decode cX8_set 14 = .ok (.iload_n 2, 1) := by decide +kernel
theorem dX8_set_15 : decode cX8_set 15 = .ok (.iload_n 1, 1) := by decide +kernel
theorem dX8_set_16 : decode cX8_set 16 = .ok (.invokestatic 98, 3) := by decide +kernel
theorem dX8_set_19 : decode cX8_set 19 = .ok (.iload_n 1, 1) := by decide +kernel
theorem dX8_set_20 : decode cX8_set 20 = .ok (.invokestatic 101, 3) := by decide +kernel
theorem dX8_set_23 : decode cX8_set 23 = .ok (.invokestatic 90, 3) := by decide +kernel
theorem dX8_set_26 : decode cX8_set 26 = .ok (.ifCond .ne 6, 3) := by decide +kernel
theorem dX8_set_29 : decode cX8_set 29 = .ok (.ldc 94, 2) := by decide +kernel
theorem dX8_set_31 : decode cX8_set 31 = .ok (.ireturn, 1) := by decide +kernel
theorem dX8_set_32 : decode cX8_set 32 = .ok (.aload_n 0, 1) := by decide +kernel
theorem dX8_set_33 : decode cX8_set 33 = .ok (.invokevirtual 95, 3) := by decide +kernel
theorem dX8_set_36 : decode cX8_set 36 = .ok (.aload_n 0, 1) := by decide +kernel
theorem dX8_set_37 : decode cX8_set 37 = .ok (.getfield 7, 3) := by decide +kernel
theorem dX8_set_40 : decode cX8_set 40 = .ok (.iconst 4, 1) := by decide +kernel
theorem dX8_set_41 : decode cX8_set 41 = .ok (.iload_n 1, 1) := by decide +kernel
theorem dX8_set_42 : decode cX8_set 42 = .ok (.iadd, 1) := by decide +kernel
theorem dX8_set_43 : decode cX8_set 43 = .ok (.iaload, 1) := by decide +kernel
theorem dX8_set_44 : decode cX8_set 44 = .ok (.istore_n 3, 1) := by decide +kernel
theorem dX8_set_45 : decode cX8_set 45 = .ok (.aload_n 0, 1) := by decide +kernel
theorem dX8_set_46 : decode cX8_set 46 = .ok (.getfield 7, 3) := by decide +kernel
theorem dX8_set_49 : decode cX8_set 49 = .ok (.iconst 4, 1) := by decide +kernel
theorem dX8_set_50 : decode cX8_set 50 = .ok (.iload_n 1, 1) := by decide +kernel
theorem dX8_set_51 : decode cX8_set 51 = .ok (.iadd, 1) := by decide +kernel
theorem dX8_set_52 : decode cX8_set 52 = .ok (.iload_n 2, 1) := by decide +kernel
theorem dX8_set_53 : decode cX8_set 53 = .ok (.iastore, 1) := by decide +kernel
theorem dX8_set_54 : decode cX8_set 54 = .ok (.iload_n 3, 1) := by decide +kernel
theorem dX8_set_55 : decode cX8_set 55 = .ok (.ireturn, 1) := by decide +kernel
theorem dX8_wallCode_0 : decode cX8_wallCode 0 = .ok (.aload_n 0, 1) := by decide +kernel
theorem dX8_wallCode_1 : decode cX8_wallCode 1 = .ok (.getfield 7, 3) := by decide +kernel
theorem dX8_wallCode_4 : decode cX8_wallCode 4 = .ok (.iconst 0, 1) := by decide +kernel
theorem dX8_wallCode_5 : decode cX8_wallCode 5 = .ok (.iaload, 1) := by decide +kernel
theorem dX8_wallCode_6 : decode cX8_wallCode 6 = .ok (.bipush 6, 2) := by decide +kernel
theorem dX8_wallCode_8 : decode cX8_wallCode 8 = .ok (.if_icmp .ne 8, 3) := by decide +kernel
theorem dX8_wallCode_11 : decode cX8_wallCode 11 = .ok (.ldc 104, 2) := by decide +kernel
theorem dX8_wallCode_13 : decode cX8_wallCode 13 = .ok (.goto 4, 3) := by decide +kernel
theorem dX8_wallCode_16 : decode cX8_wallCode 16 = .ok (.iconst 0, 1) := by decide +kernel
theorem dX8_wallCode_17 : decode cX8_wallCode 17 = .ok (.ireturn, 1) := by decide +kernel
theorem dX8_wallNow_0 : decode cX8_wallNow 0 = .ok (.bipush 20, 2) := by decide +kernel
theorem dX8_wallNow_2 : decode cX8_wallNow 2 = .ok (.iconst 3, 1) := by decide +kernel
theorem dX8_wallNow_3 : decode cX8_wallNow 3 = .ok (.aload_n 0, 1) := by decide +kernel
theorem dX8_wallNow_4 : decode cX8_wallNow 4 = .ok (.getfield 7, 3) := by decide +kernel
theorem dX8_wallNow_7 : decode cX8_wallNow 7 = .ok (.iconst 0, 1) := by decide +kernel
theorem dX8_wallNow_8 : decode cX8_wallNow 8 = .ok (.iaload, 1) := by decide +kernel
theorem dX8_wallNow_9 : decode cX8_wallNow 9 = .ok (.imul, 1) := by decide +kernel
theorem dX8_wallNow_10 : decode cX8_wallNow 10 = .ok (.iadd, 1) := by decide +kernel
theorem dX8_wallNow_11 : decode cX8_wallNow 11 = .ok (.istore_n 1, 1) := by decide +kernel
theorem dX8_wallNow_12 : decode cX8_wallNow 12 = .ok (.aload_n 0, 1) := by decide +kernel
theorem dX8_wallNow_13 : decode cX8_wallNow 13 = .ok (.getfield 7, 3) := by decide +kernel
theorem dX8_wallNow_16 : decode cX8_wallNow 16 = .ok (.iload_n 1, 1) := by decide +kernel
theorem dX8_wallNow_17 : decode cX8_wallNow 17 = .ok (.iconst 0, 1) := by decide +kernel
theorem dX8_wallNow_18 : decode cX8_wallNow 18 = .ok (.iastore, 1) := by decide +kernel
theorem dX8_wallNow_19 : decode cX8_wallNow 19 = .ok (.aload_n 0, 1) := by decide +kernel
theorem dX8_wallNow_20 : decode cX8_wallNow 20 = .ok (.getfield 7, 3) := by decide +kernel
theorem dX8_wallNow_23 : decode cX8_wallNow 23 = .ok (.iload_n 1, 1) := by decide +kernel
theorem dX8_wallNow_24 : decode cX8_wallNow 24 = .ok (.iconst 1, 1) := by decide +kernel
theorem dX8_wallNow_25 : decode cX8_wallNow 25 = .ok (.iadd, 1) := by decide +kernel
theorem dX8_wallNow_26 : decode cX8_wallNow 26 = .ok (.ldc 83, 2) := by decide +kernel
theorem dX8_wallNow_28 : decode cX8_wallNow 28 = .ok (.iastore, 1) := by decide +kernel
theorem dX8_wallNow_29 : decode cX8_wallNow 29 = .ok (.aload_n 0, 1) := by decide +kernel
theorem dX8_wallNow_30 : decode cX8_wallNow 30 = .ok (.getfield 7, 3) := by decide +kernel
theorem dX8_wallNow_33 : decode cX8_wallNow 33 = .ok (.iload_n 1, 1) := by decide +kernel
theorem dX8_wallNow_34 : decode cX8_wallNow 34 = .ok (.iconst 2, 1) := by decide +kernel
theorem dX8_wallNow_35 : decode cX8_wallNow 35 = .ok (.iadd, 1) := by decide +kernel
theorem dX8_wallNow_36 : decode cX8_wallNow 36 = .ok (.ldc 83, 2) := by decide +kernel
theorem dX8_wallNow_38 : decode cX8_wallNow 38 = .ok (.iastore, 1) := by decide +kernel
theorem dX8_wallNow_39 : decode cX8_wallNow 39 = .ok (.aload_n 0, 1) := by decide +kernel
theorem dX8_wallNow_40 : decode cX8_wallNow 40 = .ok (.getfield 7, 3) := by decide +kernel
theorem dX8_wallNow_43 : decode cX8_wallNow 43 = .ok (.iconst 0, 1) := by decide +kernel
theorem dX8_wallNow_44 : decode cX8_wallNow 44 = .ok (.dup2, 1) := by decide +kernel
theorem dX8_wallNow_45 : decode cX8_wallNow 45 = .ok (.iaload, 1) := by decide +kernel
theorem dX8_wallNow_46 : decode cX8_wallNow 46 = .ok (.iconst 1, 1) := by decide +kernel
theorem dX8_wallNow_47 : decode cX8_wallNow 47 = .ok (.iadd, 1) := by decide +kernel
theorem dX8_wallNow_48 : decode cX8_wallNow 48 = .ok (.iastore, 1) := by decide +kernel
theorem dX8_wallNow_49 : decode cX8_wallNow 49 = .ok (.aload_n 0, 1) := by decide +kernel
theorem dX8_wallNow_50 : decode cX8_wallNow 50 = .ok (.getfield 7, 3) := by decide +kernel
theorem dX8_wallNow_53 : decode cX8_wallNow 53 = .ok (.iconst 0, 1) := by decide +kernel
theorem dX8_wallNow_54 : decode cX8_wallNow 54 = .ok (.iaload, 1) := by decide +kernel
theorem dX8_wallNow_55 : decode cX8_wallNow 55 = .ok (.iconst 1, 1) := by decide +kernel
theorem dX8_wallNow_56 : decode cX8_wallNow 56 = .ok (.isub, 1) := by decide +kernel
theorem dX8_wallNow_57 : decode cX8_wallNow 57 = .ok (.ireturn, 1) := by decide +kernel
theorem dX8_addWall_0 : decode cX8_addWall 0 = .ok (.aload_n 0, 1) := by decide +kernel
theorem dX8_addWall_1 : decode cX8_addWall 1 = .ok (.iconst 0, 1) := by decide +kernel
theorem dX8_addWall_2 : decode cX8_addWall 2 = .ok (.putfield 35, 3) := by decide +kernel
theorem dX8_addWall_5 : decode cX8_addWall 5 = .ok (.aload_n 0, 1) := by decide +kernel
theorem dX8_addWall_6 : decode cX8_addWall 6 = .ok (.invokevirtual 105, 3) := by decide +kernel
theorem dX8_addWall_9 : decode cX8_addWall 9 = .ok (.istore_n 1, 1) := by decide +kernel
theorem dX8_addWall_10 : decode cX8_addWall 10 = .ok (.iload_n 1, 1) := by decide +kernel
theorem dX8_addWall_11 : decode cX8_addWall 11 = .ok (.ifCond .ge 5, 3) := by decide +kernel
theorem dX8_addWall_14 : decode cX8_addWall 14 = .ok (.iload_n 1, 1) := by decide +kernel
theorem dX8_addWall_15 : decode cX8_addWall 15 = .ok (.ireturn, 1) := by decide +kernel
theorem dX8_addWall_16 : decode cX8_addWall 16 = .ok (.aload_n 0, 1) := by decide +kernel
theorem dX8_addWall_17 : decode cX8_addWall 17 = .ok (.invokevirtual 95, 3) := by decide +kernel
theorem dX8_addWall_20 : decode cX8_addWall 20 = .ok (.aload_n 0, 1) := by decide +kernel
theorem dX8_addWall_21 : decode cX8_addWall 21 = .ok (.invokevirtual 109, 3) := by decide +kernel
theorem dX8_addWall_24 : decode cX8_addWall 24 = .ok (.ireturn, 1) := by decide +kernel
theorem dX8_declinationOfWall_0 : decode cX8_declinationOfWall 0 = .ok (.bipush 20, 2) := by decide +kernel
theorem dX8_declinationOfWall_2 : decode cX8_declinationOfWall 2 = .ok (.iconst 3, 1) := by decide +kernel
theorem dX8_declinationOfWall_3 : decode cX8_declinationOfWall 3 = .ok (.iload_n 1, 1) := by decide +kernel
theorem dX8_declinationOfWall_4 : decode cX8_declinationOfWall 4 = .ok (.imul, 1) := by decide +kernel
theorem dX8_declinationOfWall_5 : decode cX8_declinationOfWall 5 = .ok (.iadd, 1) := by decide +kernel
theorem dX8_declinationOfWall_6 : decode cX8_declinationOfWall 6 = .ok (.istore_n 2, 1) := by decide +kernel
theorem dX8_declinationOfWall_7 : decode cX8_declinationOfWall 7 = .ok (.aload_n 0, 1) := by decide +kernel
theorem dX8_declinationOfWall_8 : decode cX8_declinationOfWall 8 = .ok (.getfield 7, 3) := by decide +kernel
theorem dX8_declinationOfWall_11 : decode cX8_declinationOfWall 11 = .ok (.iload_n 2, 1) := by decide +kernel
theorem dX8_declinationOfWall_12 : decode cX8_declinationOfWall 12 = .ok (.iaload, 1) := by decide +kernel
theorem dX8_declinationOfWall_13 : decode cX8_declinationOfWall 13 = .ok (.iconst 2, 1) := by decide +kernel
theorem dX8_declinationOfWall_14 : decode cX8_declinationOfWall 14 = .ok (.if_icmp .lt 32, 3) := by decide +kernel
theorem dX8_declinationOfWall_17 : decode cX8_declinationOfWall 17 = .ok (.aload_n 0, 1) := by decide +kernel
theorem dX8_declinationOfWall_18 : decode cX8_declinationOfWall 18 = .ok (.getfield 7, 3) := by decide +kernel
theorem dX8_declinationOfWall_21 : decode cX8_declinationOfWall 21 = .ok (.iload_n 2, 1) := by decide +kernel
theorem dX8_declinationOfWall_22 : decode cX8_declinationOfWall 22 = .ok (.iconst 1, 1) := by decide +kernel
theorem dX8_declinationOfWall_23 : decode cX8_declinationOfWall 23 = .ok (.iadd, 1) := by decide +kernel
theorem dX8_declinationOfWall_24 : decode cX8_declinationOfWall 24 = .ok (.iaload, 1) := by decide +kernel
theorem dX8_declinationOfWall_25 : decode cX8_declinationOfWall 25 = .ok (.aload_n 0, 1) := by decide +kernel
theorem dX8_declinationOfWall_26 : decode cX8_declinationOfWall 26 = .ok (.getfield 7, 3) := by decide +kernel
theorem dX8_declinationOfWall_29 : decode cX8_declinationOfWall 29 = .ok (.iload_n 2, 1) := by decide +kernel
theorem dX8_declinationOfWall_30 : decode cX8_declinationOfWall 30 = .ok (.iconst 2, 1) := by decide +kernel
theorem dX8_declinationOfWall_31 : decode cX8_declinationOfWall 31 = .ok (.iadd, 1) := by decide +kernel
theorem dX8_declinationOfWall_32 : decode cX8_declinationOfWall 32 = .ok (.iaload, 1) := by decide +kernel
theorem dX8_declinationOfWall_33 : decode cX8_declinationOfWall 33 = .ok (.isub, 1) := by decide +kernel
theorem dX8_declinationOfWall_34 : decode cX8_declinationOfWall 34 = .ok (.invokestatic 84, 3) := by decide +kernel
theorem dX8_declinationOfWall_37 : decode cX8_declinationOfWall 37 = .ok (.aload_n 0, 1) := by decide +kernel
theorem dX8_declinationOfWall_38 : decode cX8_declinationOfWall 38 = .ok (.getfield 7, 3) := by decide +kernel
theorem dX8_declinationOfWall_41 : decode cX8_declinationOfWall 41 = .ok (.iconst 4, 1) := by decide +kernel
theorem dX8_declinationOfWall_42 : decode cX8_declinationOfWall 42 = .ok (.iaload, 1) := by decide +kernel
theorem dX8_declinationOfWall_43 : decode cX8_declinationOfWall 43 = .ok (.if_icmp .le 6, 3) := by decide +kernel
theorem dX8_declinationOfWall_46 : decode cX8_declinationOfWall 46 = .ok (.ldc 83, 2) := by decide +kernel
theorem dX8_declinationOfWall_48 : decode cX8_declinationOfWall 48 = .ok (.ireturn, 1) := by decide +kernel
theorem dX8_declinationOfWall_49 : decode cX8_declinationOfWall 49 = .ok (.aload_n 0, 1) := by decide +kernel
theorem dX8_declinationOfWall_50 : decode cX8_declinationOfWall 50 = .ok (.getfield 7, 3) := by decide +kernel
theorem dX8_declinationOfWall_53 : decode cX8_declinationOfWall 53 = .ok (.iload_n 2, 1) := by decide +kernel
theorem dX8_declinationOfWall_54 : decode cX8_declinationOfWall 54 = .ok (.iconst 1, 1) := by decide +kernel
theorem dX8_declinationOfWall_55 : decode cX8_declinationOfWall 55 = .ok (.iadd, 1) := by decide +kernel
theorem dX8_declinationOfWall_56 : decode cX8_declinationOfWall 56 = .ok (.iaload, 1) := by decide +kernel
theorem dX8_declinationOfWall_57 : decode cX8_declinationOfWall 57 = .ok (.aload_n 0, 1) := by decide +kernel
theorem dX8_declinationOfWall_58 : decode cX8_declinationOfWall 58 = .ok (.getfield 7, 3) := by decide +kernel
theorem dX8_declinationOfWall_61 : decode cX8_declinationOfWall 61 = .ok (.iload_n 2, 1) := by decide +kernel
theorem dX8_declinationOfWall_62 : decode cX8_declinationOfWall 62 = .ok (.iconst 2, 1) := by decide +kernel
theorem dX8_declinationOfWall_63 : decode cX8_declinationOfWall 63 = .ok (.iadd, 1) := by decide +kernel
theorem dX8_declinationOfWall_64 : decode cX8_declinationOfWall 64 = .ok (.iaload, 1) := by decide +kernel
theorem dX8_declinationOfWall_65 : decode cX8_declinationOfWall 65 = .ok (.iadd, 1) := by decide +kernel
theorem dX8_declinationOfWall_66 : decode cX8_declinationOfWall 66 = .ok (.i2l, 1) := by decide +kernel
theorem dX8_declinationOfWall_67 : decode cX8_declinationOfWall 67 = .ok (.ldc2_w 112, 3) := by decide +kernel
theorem dX8_declinationOfWall_70 : decode cX8_declinationOfWall 70 = .ok (.invokestatic 46, 3) := by decide +kernel
theorem dX8_declinationOfWall_73 : decode cX8_declinationOfWall 73 = .ok (.l2i, 1) := by decide +kernel
theorem dX8_declinationOfWall_74 : decode cX8_declinationOfWall 74 = .ok (.ireturn, 1) := by decide +kernel
theorem dX8_measureCode_0 : decode cX8_measureCode 0 = .ok (.aload_n 0, 1) := by decide +kernel
theorem dX8_measureCode_1 : decode cX8_measureCode 1 = .ok (.iload_n 1, 1) := by decide +kernel
theorem dX8_measureCode_2 : decode cX8_measureCode 2 = .ok (.invokevirtual 114, 3) := by decide +kernel
theorem dX8_measureCode_5 : decode cX8_measureCode 5 = .ok (.ifCond .eq 18, 3) := by decide +kernel
theorem dX8_measureCode_8 : decode cX8_measureCode 8 = .ok (.iload_n 2, 1) := by decide +kernel
theorem dX8_measureCode_9 : decode cX8_measureCode 9 = .ok (.bipush (-60), 2) := by decide +kernel
theorem dX8_measureCode_11 : decode cX8_measureCode 11 = .ok (.bipush 60, 2) := by decide +kernel
theorem dX8_measureCode_13 : decode cX8_measureCode 13 = .ok (.invokestatic 90, 3) := by decide +kernel
theorem dX8_measureCode_16 : decode cX8_measureCode 16 = .ok (.ifCond .eq 7, 3) := by decide +kernel
theorem dX8_measureCode_19 : decode cX8_measureCode 19 = .ok (.iconst 0, 1) := by decide +kernel
theorem dX8_measureCode_20 : decode cX8_measureCode 20 = .ok (.goto 5, 3) := by decide +kernel
theorem dX8_measureCode_23 : decode cX8_measureCode 23 = .ok (.ldc 94, 2) := by decide +kernel
theorem dX8_measureCode_25 : decode cX8_measureCode 25 = .ok (.ireturn, 1) := by decide +kernel
theorem dX8_measureNow_0 : decode cX8_measureNow 0 = .ok (.bipush 20, 2) := by decide +kernel
theorem dX8_measureNow_2 : decode cX8_measureNow 2 = .ok (.iconst 3, 1) := by decide +kernel
theorem dX8_measureNow_3 : decode cX8_measureNow 3 = .ok (.iload_n 1, 1) := by decide +kernel
theorem dX8_measureNow_4 : decode cX8_measureNow 4 = .ok (.imul, 1) := by decide +kernel
theorem dX8_measureNow_5 : decode cX8_measureNow 5 = .ok (.iadd, 1) := by decide +kernel
theorem dX8_measureNow_6 : decode cX8_measureNow 6 = .ok (.istore_n 3, 1) := by decide +kernel
theorem dX8_measureNow_7 : decode cX8_measureNow 7 = .ok (.aload_n 0, 1) := by decide +kernel
theorem dX8_measureNow_8 : decode cX8_measureNow 8 = .ok (.getfield 7, 3) := by decide +kernel
theorem dX8_measureNow_11 : decode cX8_measureNow 11 = .ok (.iload_n 3, 1) := by decide +kernel
theorem dX8_measureNow_12 : decode cX8_measureNow 12 = .ok (.aload_n 0, 1) := by decide +kernel
theorem dX8_measureNow_13 : decode cX8_measureNow 13 = .ok (.getfield 7, 3) := by decide +kernel
theorem dX8_measureNow_16 : decode cX8_measureNow 16 = .ok (.iload_n 3, 1) := by decide +kernel
theorem dX8_measureNow_17 : decode cX8_measureNow 17 = .ok (.iaload, 1) := by decide +kernel
theorem dX8_measureNow_18 : decode cX8_measureNow 18 = .ok (.iconst 2, 1) := by decide +kernel
theorem dX8_measureNow_19 : decode cX8_measureNow 19 = .ok (.if_icmp .ne 7, 3) := by decide +kernel
theorem dX8_measureNow_22 : decode cX8_measureNow 22 = .ok (.iconst 2, 1) := by decide +kernel
theorem dX8_measureNow_23 : decode cX8_measureNow 23 = .ok (.goto 11, 3) := by decide +kernel
theorem dX8_measureNow_26 : decode cX8_measureNow 26 = .ok (.aload_n 0, 1) := by decide +kernel
theorem dX8_measureNow_27 : decode cX8_measureNow 27 = .ok (.getfield 7, 3) := by decide +kernel
theorem dX8_measureNow_30 : decode cX8_measureNow 30 = .ok (.iload_n 3, 1) := by decide +kernel
theorem dX8_measureNow_31 : decode cX8_measureNow 31 = .ok (.iaload, 1) := by decide +kernel
theorem dX8_measureNow_32 : decode cX8_measureNow 32 = .ok (.iconst 1, 1) := by decide +kernel
theorem dX8_measureNow_33 : decode cX8_measureNow 33 = .ok (.iadd, 1) := by decide +kernel
theorem dX8_measureNow_34 : decode cX8_measureNow 34 = .ok (.iastore, 1) := by decide +kernel
theorem dX8_measureNow_35 : decode cX8_measureNow 35 = .ok (.aload_n 0, 1) := by decide +kernel
theorem dX8_measureNow_36 : decode cX8_measureNow 36 = .ok (.getfield 7, 3) := by decide +kernel
theorem dX8_measureNow_39 : decode cX8_measureNow 39 = .ok (.iload_n 3, 1) := by decide +kernel
theorem dX8_measureNow_40 : decode cX8_measureNow 40 = .ok (.iconst 2, 1) := by decide +kernel
theorem dX8_measureNow_41 : decode cX8_measureNow 41 = .ok (.iadd, 1) := by decide +kernel
theorem dX8_measureNow_42 : decode cX8_measureNow 42 = .ok (.aload_n 0, 1) := by decide +kernel
theorem dX8_measureNow_43 : decode cX8_measureNow 43 = .ok (.getfield 7, 3) := by decide +kernel
theorem dX8_measureNow_46 : decode cX8_measureNow 46 = .ok (.iload_n 3, 1) := by decide +kernel
theorem dX8_measureNow_47 : decode cX8_measureNow 47 = .ok (.iconst 1, 1) := by decide +kernel
theorem dX8_measureNow_48 : decode cX8_measureNow 48 = .ok (.iadd, 1) := by decide +kernel
theorem dX8_measureNow_49 : decode cX8_measureNow 49 = .ok (.iaload, 1) := by decide +kernel
theorem dX8_measureNow_50 : decode cX8_measureNow 50 = .ok (.iastore, 1) := by decide +kernel
theorem dX8_measureNow_51 : decode cX8_measureNow 51 = .ok (.aload_n 0, 1) := by decide +kernel
theorem dX8_measureNow_52 : decode cX8_measureNow 52 = .ok (.getfield 7, 3) := by decide +kernel
theorem dX8_measureNow_55 : decode cX8_measureNow 55 = .ok (.iload_n 3, 1) := by decide +kernel
theorem dX8_measureNow_56 : decode cX8_measureNow 56 = .ok (.iconst 1, 1) := by decide +kernel
theorem dX8_measureNow_57 : decode cX8_measureNow 57 = .ok (.iadd, 1) := by decide +kernel
theorem dX8_measureNow_58 : decode cX8_measureNow 58 = .ok (.iload_n 2, 1) := by decide +kernel
theorem dX8_measureNow_59 : decode cX8_measureNow 59 = .ok (.iastore, 1) := by decide +kernel
theorem dX8_measureNow_60 : decode cX8_measureNow 60 = .ok (.aload_n 0, 1) := by decide +kernel
theorem dX8_measureNow_61 : decode cX8_measureNow 61 = .ok (.iload_n 1, 1) := by decide +kernel
theorem dX8_measureNow_62 : decode cX8_measureNow 62 = .ok (.invokevirtual 117, 3) := by decide +kernel
theorem dX8_measureNow_65 : decode cX8_measureNow 65 = .ok (.ldc 83, 2) := by decide +kernel
theorem dX8_measureNow_67 : decode cX8_measureNow 67 = .ok (.if_icmp .ne 7, 3) := by decide +kernel
theorem dX8_measureNow_70 : decode cX8_measureNow 70 = .ok (.iconst 0, 1) := by decide +kernel
theorem dX8_measureNow_71 : decode cX8_measureNow 71 = .ok (.goto 4, 3) := by decide +kernel
theorem dX8_measureNow_74 : decode cX8_measureNow 74 = .ok (.iconst 1, 1) := by decide +kernel
theorem dX8_measureNow_75 : decode cX8_measureNow 75 = .ok (.ireturn, 1) := by decide +kernel
theorem dX8_measure_0 : decode cX8_measure 0 = .ok (.aload_n 0, 1) := by decide +kernel
theorem dX8_measure_1 : decode cX8_measure 1 = .ok (.iconst 0, 1) := by decide +kernel
theorem dX8_measure_2 : decode cX8_measure 2 = .ok (.putfield 35, 3) := by decide +kernel
theorem dX8_measure_5 : decode cX8_measure 5 = .ok (.aload_n 0, 1) := by decide +kernel
theorem dX8_measure_6 : decode cX8_measure 6 = .ok (.iload_n 1, 1) := by decide +kernel
theorem dX8_measure_7 : decode cX8_measure 7 = .ok (.iload_n 2, 1) := by decide +kernel
theorem dX8_measure_8 : decode cX8_measure 8 = .ok (.invokevirtual 120, 3) := by decide +kernel
theorem dX8_measure_11 : decode cX8_measure 11 = .ok (.istore_n 3, 1) := by decide +kernel
theorem dX8_measure_12 : decode cX8_measure 12 = .ok (.iload_n 3, 1) := by decide +kernel
theorem dX8_measure_13 : decode cX8_measure 13 = .ok (.ifCond .ge 5, 3) := by decide +kernel
theorem dX8_measure_16 : decode cX8_measure 16 = .ok (.iload_n 3, 1) := by decide +kernel
theorem dX8_measure_17 : decode cX8_measure 17 = .ok (.ireturn, 1) := by decide +kernel
theorem dX8_measure_18 : decode cX8_measure 18 = .ok (.aload_n 0, 1) := by decide +kernel
theorem dX8_measure_19 : decode cX8_measure 19 = .ok (.invokevirtual 95, 3) := by decide +kernel
theorem dX8_measure_22 : decode cX8_measure 22 = .ok (.aload_n 0, 1) := by decide +kernel
theorem dX8_measure_23 : decode cX8_measure 23 = .ok (.iload_n 1, 1) := by decide +kernel
theorem dX8_measure_24 : decode cX8_measure 24 = .ok (.iload_n 2, 1) := by decide +kernel
theorem dX8_measure_25 : decode cX8_measure 25 = .ok (.invokevirtual 124, 3) := by decide +kernel
theorem dX8_measure_28 : decode cX8_measure 28 = .ok (.ireturn, 1) := by decide +kernel
theorem dX8_declinationOf_0 : decode cX8_declinationOf 0 = .ok (.aload_n 0, 1) := by decide +kernel
theorem dX8_declinationOf_1 : decode cX8_declinationOf 1 = .ok (.iload_n 1, 1) := by decide +kernel
theorem dX8_declinationOf_2 : decode cX8_declinationOf 2 = .ok (.iconst 1, 1) := by decide +kernel
theorem dX8_declinationOf_3 : decode cX8_declinationOf 3 = .ok (.invokevirtual 127, 3) := by decide +kernel
theorem dX8_declinationOf_6 : decode cX8_declinationOf 6 = .ok (.iconst (-1), 1) := by decide +kernel
theorem dX8_declinationOf_7 : decode cX8_declinationOf 7 = .ok (.if_icmp .ne 5, 3) := by decide +kernel
theorem dX8_declinationOf_10 : decode cX8_declinationOf 10 = .ok (.iconst 0, 1) := by decide +kernel
theorem dX8_declinationOf_11 : decode cX8_declinationOf 11 = .ok (.ireturn, 1) := by decide +kernel
theorem dX8_declinationOf_12 : decode cX8_declinationOf 12 = .ok (.aload_n 0, 1) := by decide +kernel
theorem dX8_declinationOf_13 : decode cX8_declinationOf 13 = .ok (.iload_n 1, 1) := by decide +kernel
theorem dX8_declinationOf_14 : decode cX8_declinationOf 14 = .ok (.iconst 4, 1) := by decide +kernel
theorem dX8_declinationOf_15 : decode cX8_declinationOf 15 = .ok (.invokevirtual 127, 3) := by decide +kernel
theorem dX8_declinationOf_18 : decode cX8_declinationOf 18 = .ok (.iconst 1, 1) := by decide +kernel
theorem dX8_declinationOf_19 : decode cX8_declinationOf 19 = .ok (.iconst 3, 1) := by decide +kernel
theorem dX8_declinationOf_20 : decode cX8_declinationOf 20 = .ok (.invokestatic 90, 3) := by decide +kernel
theorem dX8_declinationOf_23 : decode cX8_declinationOf 23 = .ok (.istore_n 2, 1) := by decide +kernel
theorem dX8_declinationOf_24 : decode cX8_declinationOf 24 = .ok (.iload_n 2, 1) := by decide +kernel
theorem dX8_declinationOf_25 : decode cX8_declinationOf 25 = .ok (.ifCond .eq 12, 3) := by decide +kernel
theorem dX8_declinationOf_28 : decode cX8_declinationOf 28 = .ok (.aload_n 0, 1) := by decide +kernel
theorem dX8_declinationOf_29 : decode cX8_declinationOf 29 = .ok (.iload_n 1, 1) := by decide +kernel
theorem dX8_declinationOf_30 : decode cX8_declinationOf 30 = .ok (.iconst 5, 1) := by decide +kernel
theorem dX8_declinationOf_31 : decode cX8_declinationOf 31 = .ok (.invokevirtual 127, 3) := by decide +kernel
theorem dX8_declinationOf_34 : decode cX8_declinationOf 34 = .ok (.goto 13, 3) := by decide +kernel
theorem dX8_declinationOf_37 : decode cX8_declinationOf 37 = .ok (.aload_n 0, 1) := by decide +kernel
theorem dX8_declinationOf_38 : decode cX8_declinationOf 38 = .ok (.aload_n 0, 1) := by decide +kernel
theorem dX8_declinationOf_39 : decode cX8_declinationOf 39 = .ok (.iload_n 1, 1) := by decide +kernel
theorem dX8_declinationOf_40 : decode cX8_declinationOf 40 = .ok (.iconst 1, 1) := by decide +kernel
theorem dX8_declinationOf_41 : decode cX8_declinationOf 41 = .ok (.invokevirtual 127, 3) := by decide +kernel
theorem dX8_declinationOf_44 : decode cX8_declinationOf 44 = .ok (.invokevirtual 117, 3) := by decide +kernel
theorem dX8_declinationOf_47 : decode cX8_declinationOf 47 = .ok (.ireturn, 1) := by decide +kernel
theorem dX8_takeDial_0 : decode cX8_takeDial 0 = .ok (.aload_n 0, 1) := by decide +kernel
theorem dX8_takeDial_1 : decode cX8_takeDial 1 = .ok (.iload_n 1, 1) := by decide +kernel
theorem dX8_takeDial_2 : decode cX8_takeDial 2 = .ok (.invokevirtual 130, 3) := by decide +kernel
theorem dX8_takeDial_5 : decode cX8_takeDial 5 = .ok (.istore_n 2, 1) := by decide +kernel
theorem dX8_takeDial_6 : decode cX8_takeDial 6 = .ok (.iload_n 2, 1) := by decide +kernel
theorem dX8_takeDial_7 : decode cX8_takeDial 7 = .ok (.ldc 83, 2) := by decide +kernel
theorem dX8_takeDial_9 : decode cX8_takeDial 9 = .ok (.if_icmp .ne 5, 3) := by decide +kernel
theorem dX8_takeDial_12 : decode cX8_takeDial 12 = .ok (.iconst 0, 1) := by decide +kernel
theorem dX8_takeDial_13 : decode cX8_takeDial 13 = .ok (.ireturn, 1) := by decide +kernel
theorem dX8_takeDial_14 : decode cX8_takeDial 14 = .ok (.aload_n 0, 1) := by decide +kernel
theorem dX8_takeDial_15 : decode cX8_takeDial 15 = .ok (.aload_n 0, 1) := by decide +kernel
theorem dX8_takeDial_16 : decode cX8_takeDial 16 = .ok (.iload_n 1, 1) := by decide +kernel
theorem dX8_takeDial_17 : decode cX8_takeDial 17 = .ok (.iconst 0, 1) := by decide +kernel
theorem dX8_takeDial_18 : decode cX8_takeDial 18 = .ok (.invokevirtual 127, 3) := by decide +kernel
theorem dX8_takeDial_21 : decode cX8_takeDial 21 = .ok (.aload_n 0, 1) := by decide +kernel
theorem dX8_takeDial_22 : decode cX8_takeDial 22 = .ok (.iload_n 1, 1) := by decide +kernel
theorem dX8_takeDial_23 : decode cX8_takeDial 23 = .ok (.iconst 1, 1) := by decide +kernel
theorem dX8_takeDial_24 : decode cX8_takeDial 24 = .ok (.invokevirtual 127, 3) := by decide +kernel
theorem dX8_takeDial_27 : decode cX8_takeDial 27 = .ok (.iconst (-1), 1) := by decide +kernel
theorem dX8_takeDial_28 : decode cX8_takeDial 28 = .ok (.if_icmp .eq 7, 3) := by decide +kernel
theorem dX8_takeDial_31 : decode cX8_takeDial 31 = .ok (.iconst 1, 1) := by decide +kernel
theorem dX8_takeDial_32 : decode cX8_takeDial 32 = .ok (.goto 4, 3) := by decide +kernel
theorem dX8_takeDial_35 : decode cX8_takeDial 35 = .ok (.iconst 0, 1) := by decide +kernel
theorem dX8_takeDial_36 : decode cX8_takeDial 36 = .ok (.iload_n 2, 1) := by decide +kernel
theorem dX8_takeDial_37 : decode cX8_takeDial 37 = .ok (.invokevirtual 133, 3) := by decide +kernel
theorem dX8_takeDial_40 : decode cX8_takeDial 40 = .ok (.iconst 1, 1) := by decide +kernel
theorem dX8_takeDial_41 : decode cX8_takeDial 41 = .ok (.ireturn, 1) := by decide +kernel
theorem dX8_weightOf_0 : decode cX8_weightOf 0 = .ok (.aload_n 0, 1) := by decide +kernel
theorem dX8_weightOf_1 : decode cX8_weightOf 1 = .ok (.iload_n 1, 1) := by decide +kernel
theorem dX8_weightOf_2 : decode cX8_weightOf 2 = .ok (.iconst 2, 1) := by decide +kernel
theorem dX8_weightOf_3 : decode cX8_weightOf 3 = .ok (.invokevirtual 127, 3) := by decide +kernel
theorem dX8_weightOf_6 : decode cX8_weightOf 6 = .ok (.aload_n 0, 1) := by decide +kernel
theorem dX8_weightOf_7 : decode cX8_weightOf 7 = .ok (.iload_n 1, 1) := by decide +kernel
theorem dX8_weightOf_8 : decode cX8_weightOf 8 = .ok (.iconst 2, 1) := by decide +kernel
theorem dX8_weightOf_9 : decode cX8_weightOf 9 = .ok (.invokevirtual 127, 3) := by decide +kernel
theorem dX8_weightOf_12 : decode cX8_weightOf 12 = .ok (.imul, 1) := by decide +kernel
theorem dX8_weightOf_13 : decode cX8_weightOf 13 = .ok (.i2l, 1) := by decide +kernel
theorem dX8_weightOf_14 : decode cX8_weightOf 14 = .ok (.ldc2_w 137, 3) := by decide +kernel
theorem dX8_weightOf_17 : decode cX8_weightOf 17 = .ok (.invokestatic 46, 3) := by decide +kernel
theorem dX8_weightOf_20 : decode cX8_weightOf 20 = .ok (.l2i, 1) := by decide +kernel
theorem dX8_weightOf_21 : decode cX8_weightOf 21 = .ok (.ireturn, 1) := by decide +kernel
theorem dX8_reasonFor_0 : decode cX8_reasonFor 0 = .ok (.aload_n 0, 1) := by decide +kernel
theorem dX8_reasonFor_1 : decode cX8_reasonFor 1 = .ok (.iload_n 1, 1) := by decide +kernel
theorem dX8_reasonFor_2 : decode cX8_reasonFor 2 = .ok (.invokevirtual 139, 3) := by decide +kernel
theorem dX8_reasonFor_5 : decode cX8_reasonFor 5 = .ok (.ifCond .ne 5, 3) := by decide +kernel
theorem dX8_reasonFor_8 : decode cX8_reasonFor 8 = .ok (.iconst 1, 1) := by decide +kernel
theorem dX8_reasonFor_9 : decode cX8_reasonFor 9 = .ok (.ireturn, 1) := by decide +kernel
theorem dX8_reasonFor_10 : decode cX8_reasonFor 10 = .ok (.aload_n 0, 1) := by decide +kernel
theorem dX8_reasonFor_11 : decode cX8_reasonFor 11 = .ok (.invokevirtual 142, 3) := by decide +kernel
theorem dX8_reasonFor_14 : decode cX8_reasonFor 14 = .ok (.aload_n 0, 1) := by decide +kernel
theorem dX8_reasonFor_15 : decode cX8_reasonFor 15 = .ok (.getfield 7, 3) := by decide +kernel
theorem dX8_reasonFor_18 : decode cX8_reasonFor 18 = .ok (.iconst 5, 1) := by decide +kernel
theorem dX8_reasonFor_19 : decode cX8_reasonFor 19 = .ok (.iaload, 1) := by decide +kernel
theorem dX8_reasonFor_20 : decode cX8_reasonFor 20 = .ok (.if_icmp .ge 5, 3) := by decide +kernel
theorem dX8_reasonFor_23 : decode cX8_reasonFor 23 = .ok (.iconst 2, 1) := by decide +kernel
theorem dX8_reasonFor_24 : decode cX8_reasonFor 24 = .ok (.ireturn, 1) := by decide +kernel
theorem dX8_reasonFor_25 : decode cX8_reasonFor 25 = .ok (.aload_n 0, 1) := by decide +kernel
theorem dX8_reasonFor_26 : decode cX8_reasonFor 26 = .ok (.iconst 0, 1) := by decide +kernel
theorem dX8_reasonFor_27 : decode cX8_reasonFor 27 = .ok (.invokevirtual 145, 3) := by decide +kernel
theorem dX8_reasonFor_30 : decode cX8_reasonFor 30 = .ok (.aload_n 0, 1) := by decide +kernel
theorem dX8_reasonFor_31 : decode cX8_reasonFor 31 = .ok (.getfield 7, 3) := by decide +kernel
theorem dX8_reasonFor_34 : decode cX8_reasonFor 34 = .ok (.bipush 6, 2) := by decide +kernel
theorem dX8_reasonFor_36 : decode cX8_reasonFor 36 = .ok (.iaload, 1) := by decide +kernel
theorem dX8_reasonFor_37 : decode cX8_reasonFor 37 = .ok (.if_icmp .le 5, 3) := by decide +kernel
theorem dX8_reasonFor_40 : decode cX8_reasonFor 40 = .ok (.iconst 3, 1) := by decide +kernel
theorem dX8_reasonFor_41 : decode cX8_reasonFor 41 = .ok (.ireturn, 1) := by decide +kernel
theorem dX8_reasonFor_42 : decode cX8_reasonFor 42 = .ok (.aload_n 0, 1) := by decide +kernel
theorem dX8_reasonFor_43 : decode cX8_reasonFor 43 = .ok (.iload_n 1, 1) := by decide +kernel
theorem dX8_reasonFor_44 : decode cX8_reasonFor 44 = .ok (.invokevirtual 148, 3) := by decide +kernel
theorem dX8_reasonFor_47 : decode cX8_reasonFor 47 = .ok (.aload_n 0, 1) := by decide +kernel
theorem dX8_reasonFor_48 : decode cX8_reasonFor 48 = .ok (.getfield 7, 3) := by decide +kernel
theorem dX8_reasonFor_51 : decode cX8_reasonFor 51 = .ok (.bipush 7, 2) := by decide +kernel
theorem dX8_reasonFor_53 : decode cX8_reasonFor 53 = .ok (.iaload, 1) := by decide +kernel
theorem dX8_reasonFor_54 : decode cX8_reasonFor 54 = .ok (.if_icmp .le 7, 3) := by decide +kernel
theorem dX8_reasonFor_57 : decode cX8_reasonFor 57 = .ok (.iconst 4, 1) := by decide +kernel
theorem dX8_reasonFor_58 : decode cX8_reasonFor 58 = .ok (.goto 4, 3) := by decide +kernel
theorem dX8_reasonFor_61 : decode cX8_reasonFor 61 = .ok (.iconst 0, 1) := by decide +kernel
theorem dX8_reasonFor_62 : decode cX8_reasonFor 62 = .ok (.ireturn, 1) := by decide +kernel
theorem dX8_askCode_0 : decode cX8_askCode 0 = .ok (.iload_n 1, 1) := by decide +kernel
theorem dX8_askCode_1 : decode cX8_askCode 1 = .ok (.bipush 10, 2) := by decide +kernel
theorem dX8_askCode_3 : decode cX8_askCode 3 = .ok (.bipush 70, 2) := by decide +kernel
theorem dX8_askCode_5 : decode cX8_askCode 5 = .ok (.invokestatic 90, 3) := by decide +kernel
theorem dX8_askCode_8 : decode cX8_askCode 8 = .ok (.ifCond .eq 39, 3) := by decide +kernel
theorem dX8_askCode_11 : decode cX8_askCode 11 = .ok (.iload_n 2, 1) := by decide +kernel
theorem dX8_askCode_12 : decode cX8_askCode 12 = .ok (.iconst (-1), 1) := by decide +kernel
theorem dX8_askCode_13 : decode cX8_askCode 13 = .ok (.if_icmp .eq 11, 3) := by decide +kernel
theorem dX8_askCode_16 : decode cX8_askCode 16 = .ok (.aload_n 0, 1) := by decide +kernel
theorem dX8_askCode_17 : decode cX8_askCode 17 = .ok (.iload_n 2, 1) := by decide +kernel
theorem dX8_askCode_18 : decode cX8_askCode 18 = .ok (.invokevirtual 114, 3) := by decide +kernel
theorem dX8_askCode_21 : decode cX8_askCode 21 = .ok (.ifCond .eq 26, 3) := by decide +kernel
theorem dX8_askCode_24 : decode cX8_askCode 24 = .ok (.iload_n 3, 1) := by decide +kernel
theorem dX8_askCode_25 : decode cX8_askCode 25 = .ok (.bipush 10, 2) := by decide +kernel
theorem dX8_askCode_27 : decode cX8_askCode 27 = .ok (.bipush 60, 2) := by decide +kernel
theorem dX8_askCode_29 : decode cX8_askCode 29 = .ok (.invokestatic 90, 3) := by decide +kernel
theorem dX8_askCode_32 : decode cX8_askCode 32 = .ok (.ifCond .eq 15, 3) := by decide +kernel
theorem dX8_askCode_35 : decode cX8_askCode 35 = .ok (.iload 4, 2) := by decide +kernel
theorem dX8_askCode_37 : decode cX8_askCode 37 = .ok (.bipush (-60), 2) := by decide +kernel
theorem dX8_askCode_39 : decode cX8_askCode 39 = .ok (.bipush 60, 2) := by decide +kernel
theorem dX8_askCode_41 : decode cX8_askCode 41 = .ok (.invokestatic 90, 3) := by decide +kernel
theorem dX8_askCode_44 : decode cX8_askCode 44 = .ok (.ifCond .ne 6, 3) := by decide +kernel
theorem dX8_askCode_47 : decode cX8_askCode 47 = .ok (.ldc 94, 2) := by decide +kernel
theorem dX8_askCode_49 : decode cX8_askCode 49 = .ok (.ireturn, 1) := by decide +kernel
theorem dX8_askCode_50 : decode cX8_askCode 50 = .ok (.aload_n 0, 1) := by decide +kernel
theorem dX8_askCode_51 : decode cX8_askCode 51 = .ok (.getfield 7, 3) := by decide +kernel
theorem dX8_askCode_54 : decode cX8_askCode 54 = .ok (.iconst 1, 1) := by decide +kernel
theorem dX8_askCode_55 : decode cX8_askCode 55 = .ok (.iaload, 1) := by decide +kernel
theorem dX8_askCode_56 : decode cX8_askCode 56 = .ok (.bipush 10, 2) := by decide +kernel
theorem dX8_askCode_58 : decode cX8_askCode 58 = .ok (.if_icmp .ne 8, 3) := by decide +kernel
theorem dX8_askCode_61 : decode cX8_askCode 61 = .ok (.ldc 104, 2) := by decide +kernel
theorem dX8_askCode_63 : decode cX8_askCode 63 = .ok (.goto 4, 3) := by decide +kernel
theorem dX8_askCode_66 : decode cX8_askCode 66 = .ok (.iconst 0, 1) := by decide +kernel
theorem dX8_askCode_67 : decode cX8_askCode 67 = .ok (.ireturn, 1) := by decide +kernel
theorem dX8_askNow_0 : decode cX8_askNow 0 = .ok (.aload_n 0, 1) := by decide +kernel
theorem dX8_askNow_1 : decode cX8_askNow 1 = .ok (.getfield 7, 3) := by decide +kernel
theorem dX8_askNow_4 : decode cX8_askNow 4 = .ok (.iconst 1, 1) := by decide +kernel
theorem dX8_askNow_5 : decode cX8_askNow 5 = .ok (.iaload, 1) := by decide +kernel
theorem dX8_askNow_6 : decode cX8_askNow 6 = .ok (.istore 5, 2) := by decide +kernel
theorem dX8_askNow_8 : decode cX8_askNow 8 = .ok (.aload_n 0, 1) := by decide +kernel
theorem dX8_askNow_9 : decode cX8_askNow 9 = .ok (.getfield 7, 3) := by decide +kernel
theorem dX8_askNow_12 : decode cX8_askNow 12 = .ok (.iconst 1, 1) := by decide +kernel
theorem dX8_askNow_13 : decode cX8_askNow 13 = .ok (.dup2, 1) := by decide +kernel
theorem dX8_askNow_14 : decode cX8_askNow 14 = .ok (.iaload, 1) := by decide +kernel
theorem dX8_askNow_15 : decode cX8_askNow 15 = .ok (.iconst 1, 1) := by decide +kernel
theorem dX8_askNow_16 : decode cX8_askNow 16 = .ok (.iadd, 1) := by decide +kernel
theorem dX8_askNow_17 : decode cX8_askNow 17 = .ok (.iastore, 1) := by decide +kernel
theorem dX8_askNow_18 : decode cX8_askNow 18 = .ok (.aload_n 0, 1) := by decide +kernel
theorem dX8_askNow_19 : decode cX8_askNow 19 = .ok (.iload 5, 2) := by decide +kernel
theorem dX8_askNow_21 : decode cX8_askNow 21 = .ok (.iconst 0, 1) := by decide +kernel
theorem dX8_askNow_22 : decode cX8_askNow 22 = .ok (.iload_n 1, 1) := by decide +kernel
theorem dX8_askNow_23 : decode cX8_askNow 23 = .ok (.invokevirtual 151, 3) := by decide +kernel
theorem dX8_askNow_26 : decode cX8_askNow 26 = .ok (.aload_n 0, 1) := by decide +kernel
theorem dX8_askNow_27 : decode cX8_askNow 27 = .ok (.iload 5, 2) := by decide +kernel
theorem dX8_askNow_29 : decode cX8_askNow 29 = .ok (.iconst 1, 1) := by decide +kernel
theorem dX8_askNow_30 : decode cX8_askNow 30 = .ok (.iload_n 2, 1) := by decide +kernel
theorem dX8_askNow_31 : decode cX8_askNow 31 = .ok (.invokevirtual 151, 3) := by decide +kernel
theorem dX8_askNow_34 : decode cX8_askNow 34 = .ok (.aload_n 0, 1) := by decide +kernel
theorem dX8_askNow_35 : decode cX8_askNow 35 = .ok (.iload 5, 2) := by decide +kernel
theorem dX8_askNow_37 : decode cX8_askNow 37 = .ok (.iconst 2, 1) := by decide +kernel
theorem dX8_askNow_38 : decode cX8_askNow 38 = .ok (.iload_n 3, 1) := by decide +kernel
theorem dX8_askNow_39 : decode cX8_askNow 39 = .ok (.invokevirtual 151, 3) := by decide +kernel
theorem dX8_askNow_42 : decode cX8_askNow 42 = .ok (.aload_n 0, 1) := by decide +kernel
theorem dX8_askNow_43 : decode cX8_askNow 43 = .ok (.iload 5, 2) := by decide +kernel
theorem dX8_askNow_45 : decode cX8_askNow 45 = .ok (.iconst 3, 1) := by decide +kernel
theorem dX8_askNow_46 : decode cX8_askNow 46 = .ok (.iload 4, 2) := by decide +kernel
theorem dX8_askNow_48 : decode cX8_askNow 48 = .ok (.invokevirtual 151, 3) := by decide +kernel
theorem dX8_askNow_51 : decode cX8_askNow 51 = .ok (.aload_n 0, 1) := by decide +kernel
theorem dX8_askNow_52 : decode cX8_askNow 52 = .ok (.iload 5, 2) := by decide +kernel
theorem dX8_askNow_54 : decode cX8_askNow 54 = .ok (.iconst 4, 1) := by decide +kernel
theorem dX8_askNow_55 : decode cX8_askNow 55 = .ok (.iconst 0, 1) := by decide +kernel
theorem dX8_askNow_56 : decode cX8_askNow 56 = .ok (.invokevirtual 151, 3) := by decide +kernel
theorem dX8_askNow_59 : decode cX8_askNow 59 = .ok (.aload_n 0, 1) := by decide +kernel
theorem dX8_askNow_60 : decode cX8_askNow 60 = .ok (.iload 5, 2) := by decide +kernel
theorem dX8_askNow_62 : decode cX8_askNow 62 = .ok (.iconst 5, 1) := by decide +kernel
theorem dX8_askNow_63 : decode cX8_askNow 63 = .ok (.iconst 0, 1) := by decide +kernel
theorem dX8_askNow_64 : decode cX8_askNow 64 = .ok (.invokevirtual 151, 3) := by decide +kernel
theorem dX8_askNow_67 : decode cX8_askNow 67 = .ok (.aload_n 0, 1) := by decide +kernel
theorem dX8_askNow_68 : decode cX8_askNow 68 = .ok (.iload 5, 2) := by decide +kernel
theorem dX8_askNow_70 : decode cX8_askNow 70 = .ok (.bipush 6, 2) := by decide +kernel
theorem dX8_askNow_72 : decode cX8_askNow 72 = .ok (.ldc 83, 2) := by decide +kernel
theorem dX8_askNow_74 : decode cX8_askNow 74 = .ok (.invokevirtual 151, 3) := by decide +kernel
theorem dX8_askNow_77 : decode cX8_askNow 77 = .ok (.aload_n 0, 1) := by decide +kernel
theorem dX8_askNow_78 : decode cX8_askNow 78 = .ok (.iload 5, 2) := by decide +kernel
theorem dX8_askNow_80 : decode cX8_askNow 80 = .ok (.bipush 7, 2) := by decide +kernel
theorem dX8_askNow_82 : decode cX8_askNow 82 = .ok (.iconst 0, 1) := by decide +kernel
theorem dX8_askNow_83 : decode cX8_askNow 83 = .ok (.invokevirtual 151, 3) := by decide +kernel
theorem dX8_askNow_86 : decode cX8_askNow 86 = .ok (.iload 5, 2) := by decide +kernel
theorem dX8_askNow_88 : decode cX8_askNow 88 = .ok (.ireturn, 1) := by decide +kernel
theorem dX8_ask_0 : decode cX8_ask 0 = .ok (.aload_n 0, 1) := by decide +kernel
theorem dX8_ask_1 : decode cX8_ask 1 = .ok (.iconst 0, 1) := by decide +kernel
theorem dX8_ask_2 : decode cX8_ask 2 = .ok (.putfield 35, 3) := by decide +kernel
theorem dX8_ask_5 : decode cX8_ask 5 = .ok (.aload_n 0, 1) := by decide +kernel
theorem dX8_ask_6 : decode cX8_ask 6 = .ok (.iload_n 1, 1) := by decide +kernel
theorem dX8_ask_7 : decode cX8_ask 7 = .ok (.iload_n 2, 1) := by decide +kernel
theorem dX8_ask_8 : decode cX8_ask 8 = .ok (.iload_n 3, 1) := by decide +kernel
theorem dX8_ask_9 : decode cX8_ask 9 = .ok (.iload 4, 2) := by decide +kernel
theorem dX8_ask_11 : decode cX8_ask 11 = .ok (.invokevirtual 155, 3) := by decide +kernel
theorem dX8_ask_14 : decode cX8_ask 14 = .ok (.istore 5, 2) := by decide +kernel
theorem dX8_ask_16 : decode cX8_ask 16 = .ok (.iload 5, 2) := by decide +kernel
theorem dX8_ask_18 : decode cX8_ask 18 = .ok (.ifCond .ge 6, 3) := by decide +kernel
theorem dX8_ask_21 : decode cX8_ask 21 = .ok (.iload 5, 2) := by decide +kernel
theorem dX8_ask_23 : decode cX8_ask 23 = .ok (.ireturn, 1) := by decide +kernel
theorem dX8_ask_24 : decode cX8_ask 24 = .ok (.aload_n 0, 1) := by decide +kernel
theorem dX8_ask_25 : decode cX8_ask 25 = .ok (.invokevirtual 95, 3) := by decide +kernel
theorem dX8_ask_28 : decode cX8_ask 28 = .ok (.aload_n 0, 1) := by decide +kernel
theorem dX8_ask_29 : decode cX8_ask 29 = .ok (.iload_n 1, 1) := by decide +kernel
theorem dX8_ask_30 : decode cX8_ask 30 = .ok (.iload_n 2, 1) := by decide +kernel
theorem dX8_ask_31 : decode cX8_ask 31 = .ok (.iload_n 3, 1) := by decide +kernel
theorem dX8_ask_32 : decode cX8_ask 32 = .ok (.iload 4, 2) := by decide +kernel
theorem dX8_ask_34 : decode cX8_ask 34 = .ok (.invokevirtual 159, 3) := by decide +kernel
theorem dX8_ask_37 : decode cX8_ask 37 = .ok (.ireturn, 1) := by decide +kernel
theorem dX8_stateCode_0 : decode cX8_stateCode 0 = .ok (.aload_n 0, 1) := by decide +kernel
theorem dX8_stateCode_1 : decode cX8_stateCode 1 = .ok (.iload_n 1, 1) := by decide +kernel
theorem dX8_stateCode_2 : decode cX8_stateCode 2 = .ok (.invokevirtual 162, 3) := by decide +kernel
theorem dX8_stateCode_5 : decode cX8_stateCode 5 = .ok (.ifCond .ne 8, 3) := by decide +kernel
theorem dX8_stateCode_8 : decode cX8_stateCode 8 = .ok (.ldc 94, 2) := by decide +kernel
theorem dX8_stateCode_10 : decode cX8_stateCode 10 = .ok (.goto 19, 3) := by decide +kernel
theorem dX8_stateCode_13 : decode cX8_stateCode 13 = .ok (.aload_n 0, 1) := by decide +kernel
theorem dX8_stateCode_14 : decode cX8_stateCode 14 = .ok (.iload_n 1, 1) := by decide +kernel
theorem dX8_stateCode_15 : decode cX8_stateCode 15 = .ok (.iconst 4, 1) := by decide +kernel
theorem dX8_stateCode_16 : decode cX8_stateCode 16 = .ok (.invokevirtual 127, 3) := by decide +kernel
theorem dX8_stateCode_19 : decode cX8_stateCode 19 = .ok (.iload_n 2, 1) := by decide +kernel
theorem dX8_stateCode_20 : decode cX8_stateCode 20 = .ok (.if_icmp .eq 8, 3) := by decide +kernel
theorem dX8_stateCode_23 : decode cX8_stateCode 23 = .ok (.ldc 165, 2) := by decide +kernel
theorem dX8_stateCode_25 : decode cX8_stateCode 25 = .ok (.goto 4, 3) := by decide +kernel
theorem dX8_stateCode_28 : decode cX8_stateCode 28 = .ok (.iconst 0, 1) := by decide +kernel
theorem dX8_stateCode_29 : decode cX8_stateCode 29 = .ok (.ireturn, 1) := by decide +kernel
theorem dX8_decideNow_0 : decode cX8_decideNow 0 = .ok (.aload_n 0, 1) := by decide +kernel
theorem dX8_decideNow_1 : decode cX8_decideNow 1 = .ok (.iload_n 1, 1) := by decide +kernel
theorem dX8_decideNow_2 : decode cX8_decideNow 2 = .ok (.invokevirtual 166, 3) := by decide +kernel
theorem dX8_decideNow_5 : decode cX8_decideNow 5 = .ok (.istore_n 2, 1) := by decide +kernel
theorem dX8_decideNow_6 : decode cX8_decideNow 6 = .ok (.iload_n 2, 1) := by decide +kernel
theorem dX8_decideNow_7 : decode cX8_decideNow 7 = .ok (.ifCond .ne 24, 3) := by decide +kernel
theorem dX8_decideNow_10 : decode cX8_decideNow 10 = .ok (.aload_n 0, 1) := by decide +kernel
theorem dX8_decideNow_11 : decode cX8_decideNow 11 = .ok (.iload_n 1, 1) := by decide +kernel
theorem dX8_decideNow_12 : decode cX8_decideNow 12 = .ok (.iconst 5, 1) := by decide +kernel
theorem dX8_decideNow_13 : decode cX8_decideNow 13 = .ok (.aload_n 0, 1) := by decide +kernel
theorem dX8_decideNow_14 : decode cX8_decideNow 14 = .ok (.iload_n 1, 1) := by decide +kernel
theorem dX8_decideNow_15 : decode cX8_decideNow 15 = .ok (.invokevirtual 130, 3) := by decide +kernel
theorem dX8_decideNow_18 : decode cX8_decideNow 18 = .ok (.invokevirtual 151, 3) := by decide +kernel
theorem dX8_decideNow_21 : decode cX8_decideNow 21 = .ok (.aload_n 0, 1) := by decide +kernel
theorem dX8_decideNow_22 : decode cX8_decideNow 22 = .ok (.iload_n 1, 1) := by decide +kernel
theorem dX8_decideNow_23 : decode cX8_decideNow 23 = .ok (.iconst 4, 1) := by decide +kernel
theorem dX8_decideNow_24 : decode cX8_decideNow 24 = .ok (.iconst 1, 1) := by decide +kernel
theorem dX8_decideNow_25 : decode cX8_decideNow 25 = .ok (.invokevirtual 151, 3) := by decide +kernel
theorem dX8_decideNow_28 : decode cX8_decideNow 28 = .ok (.goto 18, 3) := by decide +kernel
theorem dX8_decideNow_31 : decode cX8_decideNow 31 = .ok (.aload_n 0, 1) := by decide +kernel
theorem dX8_decideNow_32 : decode cX8_decideNow 32 = .ok (.iload_n 1, 1) := by decide +kernel
theorem dX8_decideNow_33 : decode cX8_decideNow 33 = .ok (.bipush 7, 2) := by decide +kernel
theorem dX8_decideNow_35 : decode cX8_decideNow 35 = .ok (.iload_n 2, 1) := by decide +kernel
theorem dX8_decideNow_36 : decode cX8_decideNow 36 = .ok (.invokevirtual 151, 3) := by decide +kernel
theorem dX8_decideNow_39 : decode cX8_decideNow 39 = .ok (.aload_n 0, 1) := by decide +kernel
theorem dX8_decideNow_40 : decode cX8_decideNow 40 = .ok (.iload_n 1, 1) := by decide +kernel
theorem dX8_decideNow_41 : decode cX8_decideNow 41 = .ok (.iconst 4, 1) := by decide +kernel
theorem dX8_decideNow_42 : decode cX8_decideNow 42 = .ok (.iconst 4, 1) := by decide +kernel
theorem dX8_decideNow_43 : decode cX8_decideNow 43 = .ok (.invokevirtual 151, 3) := by decide +kernel
theorem dX8_decideNow_46 : decode cX8_decideNow 46 = .ok (.iload_n 2, 1) := by decide +kernel
theorem dX8_decideNow_47 : decode cX8_decideNow 47 = .ok (.ireturn, 1) := by decide +kernel
theorem dX8_decide_0 : decode cX8_decide 0 = .ok (.aload_n 0, 1) := by decide +kernel
theorem dX8_decide_1 : decode cX8_decide 1 = .ok (.iconst 0, 1) := by decide +kernel
theorem dX8_decide_2 : decode cX8_decide 2 = .ok (.putfield 35, 3) := by decide +kernel
theorem dX8_decide_5 : decode cX8_decide 5 = .ok (.aload_n 0, 1) := by decide +kernel
theorem dX8_decide_6 : decode cX8_decide 6 = .ok (.iload_n 1, 1) := by decide +kernel
theorem dX8_decide_7 : decode cX8_decide 7 = .ok (.iconst 0, 1) := by decide +kernel
theorem dX8_decide_8 : decode cX8_decide 8 = .ok (.invokevirtual 169, 3) := by decide +kernel
theorem dX8_decide_11 : decode cX8_decide 11 = .ok (.istore_n 2, 1) := by decide +kernel
theorem dX8_decide_12 : decode cX8_decide 12 = .ok (.iload_n 2, 1) := by decide +kernel
theorem dX8_decide_13 : decode cX8_decide 13 = .ok (.ifCond .ge 5, 3) := by decide +kernel
theorem dX8_decide_16 : decode cX8_decide 16 = .ok (.iload_n 2, 1) := by decide +kernel
theorem dX8_decide_17 : decode cX8_decide 17 = .ok (.ireturn, 1) := by decide +kernel
theorem dX8_decide_18 : decode cX8_decide 18 = .ok (.aload_n 0, 1) := by decide +kernel
theorem dX8_decide_19 : decode cX8_decide 19 = .ok (.invokevirtual 95, 3) := by decide +kernel
theorem dX8_decide_22 : decode cX8_decide 22 = .ok (.aload_n 0, 1) := by decide +kernel
theorem dX8_decide_23 : decode cX8_decide 23 = .ok (.iload_n 1, 1) := by decide +kernel
theorem dX8_decide_24 : decode cX8_decide 24 = .ok (.invokevirtual 172, 3) := by decide +kernel
theorem dX8_decide_27 : decode cX8_decide 27 = .ok (.ireturn, 1) := by decide +kernel
theorem dX8_askAgain_0 : decode cX8_askAgain 0 = .ok (.aload_n 0, 1) := by decide +kernel
theorem dX8_askAgain_1 : decode cX8_askAgain 1 = .ok (.iconst 0, 1) := by decide +kernel
theorem dX8_askAgain_2 : decode cX8_askAgain 2 = .ok (.putfield 35, 3) := by decide +kernel
theorem dX8_askAgain_5 : decode cX8_askAgain 5 = .ok (.aload_n 0, 1) := by decide +kernel
theorem dX8_askAgain_6 : decode cX8_askAgain 6 = .ok (.iload_n 1, 1) := by decide +kernel
theorem dX8_askAgain_7 : decode cX8_askAgain 7 = .ok (.iconst 4, 1) := by decide +kernel
theorem dX8_askAgain_8 : decode cX8_askAgain 8 = .ok (.invokevirtual 169, 3) := by decide +kernel
theorem dX8_askAgain_11 : decode cX8_askAgain 11 = .ok (.istore_n 2, 1) := by decide +kernel
theorem dX8_askAgain_12 : decode cX8_askAgain 12 = .ok (.iload_n 2, 1) := by decide +kernel
theorem dX8_askAgain_13 : decode cX8_askAgain 13 = .ok (.ifCond .ge 5, 3) := by decide +kernel
theorem dX8_askAgain_16 : decode cX8_askAgain 16 = .ok (.iload_n 2, 1) := by decide +kernel
theorem dX8_askAgain_17 : decode cX8_askAgain 17 = .ok (.ireturn, 1) := by decide +kernel
theorem dX8_askAgain_18 : decode cX8_askAgain 18 = .ok (.aload_n 0, 1) := by decide +kernel
theorem dX8_askAgain_19 : decode cX8_askAgain 19 = .ok (.invokevirtual 95, 3) := by decide +kernel
theorem dX8_askAgain_22 : decode cX8_askAgain 22 = .ok (.aload_n 0, 1) := by decide +kernel
theorem dX8_askAgain_23 : decode cX8_askAgain 23 = .ok (.iload_n 1, 1) := by decide +kernel
theorem dX8_askAgain_24 : decode cX8_askAgain 24 = .ok (.iconst 4, 1) := by decide +kernel
theorem dX8_askAgain_25 : decode cX8_askAgain 25 = .ok (.iconst 0, 1) := by decide +kernel
theorem dX8_askAgain_26 : decode cX8_askAgain 26 = .ok (.invokevirtual 151, 3) := by decide +kernel
theorem dX8_askAgain_29 : decode cX8_askAgain 29 = .ok (.aload_n 0, 1) := by decide +kernel
theorem dX8_askAgain_30 : decode cX8_askAgain 30 = .ok (.iload_n 1, 1) := by decide +kernel
theorem dX8_askAgain_31 : decode cX8_askAgain 31 = .ok (.invokevirtual 166, 3) := by decide +kernel
theorem dX8_askAgain_34 : decode cX8_askAgain 34 = .ok (.ireturn, 1) := by decide +kernel
theorem dX8_melt_0 : decode cX8_melt 0 = .ok (.iconst 0, 1) := by decide +kernel
theorem dX8_melt_1 : decode cX8_melt 1 = .ok (.istore_n 1, 1) := by decide +kernel
theorem dX8_melt_2 : decode cX8_melt 2 = .ok (.iconst 0, 1) := by decide +kernel
theorem dX8_melt_3 : decode cX8_melt 3 = .ok (.istore_n 2, 1) := by decide +kernel
theorem dX8_melt_4 : decode cX8_melt 4 = .ok (.iconst 0, 1) := by decide +kernel
theorem dX8_melt_5 : decode cX8_melt 5 = .ok (.istore_n 3, 1) := by decide +kernel
theorem dX8_melt_6 : decode cX8_melt 6 = .ok (.iload_n 3, 1) := by decide +kernel
theorem dX8_melt_7 : decode cX8_melt 7 = .ok (.aload_n 0, 1) := by decide +kernel
theorem dX8_melt_8 : decode cX8_melt 8 = .ok (.getfield 7, 3) := by decide +kernel
theorem dX8_melt_11 : decode cX8_melt 11 = .ok (.iconst 1, 1) := by decide +kernel
theorem dX8_melt_12 : decode cX8_melt 12 = .ok (.iaload, 1) := by decide +kernel
theorem dX8_melt_13 : decode cX8_melt 13 = .ok (.if_icmp .ge 54, 3) := by decide +kernel
theorem dX8_melt_16 : decode cX8_melt 16 = .ok (.aload_n 0, 1) := by decide +kernel
theorem dX8_melt_17 : decode cX8_melt 17 = .ok (.getfield 32, 3) := by decide +kernel
theorem dX8_melt_20 : decode cX8_melt 20 = .ok (.iload_n 3, 1) := by decide +kernel
theorem dX8_melt_21 : decode cX8_melt 21 = .ok (.iaload, 1) := by decide +kernel
theorem dX8_melt_22 : decode cX8_melt 22 = .ok (.iconst 1, 1) := by decide +kernel
theorem dX8_melt_23 : decode cX8_melt 23 = .ok (.if_icmp .ne 38, 3) := by decide +kernel
theorem dX8_melt_26 : decode cX8_melt 26 = .ok (.iload_n 1, 1) := by decide +kernel
theorem dX8_melt_27 : decode cX8_melt 27 = .ok (.aload_n 0, 1) := by decide +kernel
theorem dX8_melt_28 : decode cX8_melt 28 = .ok (.iload_n 3, 1) := by decide +kernel
theorem dX8_melt_29 : decode cX8_melt 29 = .ok (.invokevirtual 148, 3) := by decide +kernel
theorem dX8_melt_32 : decode cX8_melt 32 = .ok (.iadd, 1) := by decide +kernel
theorem dX8_melt_33 : decode cX8_melt 33 = .ok (.aload_n 0, 1) := by decide +kernel
theorem dX8_melt_34 : decode cX8_melt 34 = .ok (.getfield 7, 3) := by decide +kernel
theorem dX8_melt_37 : decode cX8_melt 37 = .ok (.bipush 7, 2) := by decide +kernel
theorem dX8_melt_39 : decode cX8_melt 39 = .ok (.iaload, 1) := by decide +kernel
theorem dX8_melt_40 : decode cX8_melt 40 = .ok (.if_icmp .gt 21, 3) := by decide +kernel
theorem dX8_melt_43 : decode cX8_melt 43 = .ok (.iload_n 1, 1) := by decide +kernel
theorem dX8_melt_44 : decode cX8_melt 44 = .ok (.aload_n 0, 1) := by decide +kernel
theorem dX8_melt_45 : decode cX8_melt 45 = .ok (.iload_n 3, 1) := by decide +kernel
theorem dX8_melt_46 : decode cX8_melt 46 = .ok (.invokevirtual 148, 3) := by decide +kernel
theorem dX8_melt_49 : decode cX8_melt 49 = .ok (.iadd, 1) := by decide +kernel
theorem dX8_melt_50 : decode cX8_melt 50 = .ok (.istore_n 1, 1) := by decide +kernel
theorem dX8_melt_51 : decode cX8_melt 51 = .ok (.aload_n 0, 1) := by decide +kernel
theorem dX8_melt_52 : decode cX8_melt 52 = .ok (.getfield 32, 3) := by decide +kernel
theorem dX8_melt_55 : decode cX8_melt 55 = .ok (.iload_n 3, 1) := by decide +kernel
theorem dX8_melt_56 : decode cX8_melt 56 = .ok (.iconst 2, 1) := by decide +kernel
theorem dX8_melt_57 : decode cX8_melt 57 = .ok (.iastore, 1) := by decide +kernel
theorem dX8_melt_58 : decode cX8_melt 58 = .ok (.iinc 2 1, 3) := by decide +kernel
theorem dX8_melt_61 : decode cX8_melt 61 = .ok (.iinc 3 1, 3) := by decide +kernel
theorem dX8_melt_64 : decode cX8_melt 64 = .ok (.goto (-58), 3) := by decide +kernel
theorem dX8_melt_67 : decode cX8_melt 67 = .ok (.iload_n 2, 1) := by decide +kernel
theorem dX8_melt_68 : decode cX8_melt 68 = .ok (.ireturn, 1) := by decide +kernel
theorem dX8_takeStates_0 : decode cX8_takeStates 0 = .ok (.iconst 0, 1) := by decide +kernel
theorem dX8_takeStates_1 : decode cX8_takeStates 1 = .ok (.istore_n 1, 1) := by decide +kernel
theorem dX8_takeStates_2 : decode cX8_takeStates 2 = .ok (.iload_n 1, 1) := by decide +kernel
theorem dX8_takeStates_3 : decode cX8_takeStates 3 = .ok (.aload_n 0, 1) := by decide +kernel
theorem dX8_takeStates_4 : decode cX8_takeStates 4 = .ok (.getfield 7, 3) := by decide +kernel
theorem dX8_takeStates_7 : decode cX8_takeStates 7 = .ok (.iconst 1, 1) := by decide +kernel
theorem dX8_takeStates_8 : decode cX8_takeStates 8 = .ok (.iaload, 1) := by decide +kernel
theorem dX8_takeStates_9 : decode cX8_takeStates 9 = .ok (.if_icmp .ge 21, 3) := by decide +kernel
theorem dX8_takeStates_12 : decode cX8_takeStates 12 = .ok (.aload_n 0, 1) := by decide +kernel
theorem dX8_takeStates_13 : decode cX8_takeStates 13 = .ok (.getfield 32, 3) := by decide +kernel
theorem dX8_takeStates_16 : decode cX8_takeStates 16 = .ok (.iload_n 1, 1) := by decide +kernel
theorem dX8_takeStates_17 : decode cX8_takeStates 17 = .ok (.aload_n 0, 1) := by decide +kernel
theorem dX8_takeStates_18 : decode cX8_takeStates 18 = .ok (.iload_n 1, 1) := by decide +kernel
theorem dX8_takeStates_19 : decode cX8_takeStates 19 = .ok (.iconst 4, 1) := by decide +kernel
theorem dX8_takeStates_20 : decode cX8_takeStates 20 = .ok (.invokevirtual 127, 3) := by decide +kernel
theorem dX8_takeStates_23 : decode cX8_takeStates 23 = .ok (.iastore, 1) := by decide +kernel
theorem dX8_takeStates_24 : decode cX8_takeStates 24 = .ok (.iinc 1 1, 3) := by decide +kernel
theorem dX8_takeStates_27 : decode cX8_takeStates 27 = .ok (.goto (-25), 3) := by decide +kernel
theorem dX8_takeStates_30 : decode cX8_takeStates 30 = .ok (.return_, 1) := by decide +kernel
theorem dX8_castCode_0 : decode cX8_castCode 0 = .ok (.aload_n 0, 1) := by decide +kernel
theorem dX8_castCode_1 : decode cX8_castCode 1 = .ok (.invokevirtual 175, 3) := by decide +kernel
theorem dX8_castCode_4 : decode cX8_castCode 4 = .ok (.aload_n 0, 1) := by decide +kernel
theorem dX8_castCode_5 : decode cX8_castCode 5 = .ok (.invokevirtual 178, 3) := by decide +kernel
theorem dX8_castCode_8 : decode cX8_castCode 8 = .ok (.ifCond .ne 8, 3) := by decide +kernel
theorem dX8_castCode_11 : decode cX8_castCode 11 = .ok (.ldc 165, 2) := by decide +kernel
theorem dX8_castCode_13 : decode cX8_castCode 13 = .ok (.goto 4, 3) := by decide +kernel
theorem dX8_castCode_16 : decode cX8_castCode 16 = .ok (.iconst 0, 1) := by decide +kernel
theorem dX8_castCode_17 : decode cX8_castCode 17 = .ok (.ireturn, 1) := by decide +kernel
theorem dX8_castNow_0 : decode cX8_castNow 0 = .ok (.aload_n 0, 1) := by decide +kernel
theorem dX8_castNow_1 : decode cX8_castNow 1 = .ok (.invokevirtual 175, 3) := by decide +kernel
theorem dX8_castNow_4 : decode cX8_castNow 4 = .ok (.aload_n 0, 1) := by decide +kernel
theorem dX8_castNow_5 : decode cX8_castNow 5 = .ok (.invokevirtual 178, 3) := by decide +kernel
theorem dX8_castNow_8 : decode cX8_castNow 8 = .ok (.istore_n 1, 1) := by decide +kernel
theorem dX8_castNow_9 : decode cX8_castNow 9 = .ok (.iconst 0, 1) := by decide +kernel
theorem dX8_castNow_10 : decode cX8_castNow 10 = .ok (.istore_n 2, 1) := by decide +kernel
theorem dX8_castNow_11 : decode cX8_castNow 11 = .ok (.iload_n 2, 1) := by decide +kernel
theorem dX8_castNow_12 : decode cX8_castNow 12 = .ok (.aload_n 0, 1) := by decide +kernel
theorem dX8_castNow_13 : decode cX8_castNow 13 = .ok (.getfield 7, 3) := by decide +kernel
theorem dX8_castNow_16 : decode cX8_castNow 16 = .ok (.iconst 1, 1) := by decide +kernel
theorem dX8_castNow_17 : decode cX8_castNow 17 = .ok (.iaload, 1) := by decide +kernel
theorem dX8_castNow_18 : decode cX8_castNow 18 = .ok (.if_icmp .ge 58, 3) := by decide +kernel
theorem dX8_castNow_21 : decode cX8_castNow 21 = .ok (.aload_n 0, 1) := by decide +kernel
theorem dX8_castNow_22 : decode cX8_castNow 22 = .ok (.getfield 32, 3) := by decide +kernel
theorem dX8_castNow_25 : decode cX8_castNow 25 = .ok (.iload_n 2, 1) := by decide +kernel
theorem dX8_castNow_26 : decode cX8_castNow 26 = .ok (.iaload, 1) := by decide +kernel
theorem dX8_castNow_27 : decode cX8_castNow 27 = .ok (.aload_n 0, 1) := by decide +kernel
theorem dX8_castNow_28 : decode cX8_castNow 28 = .ok (.iload_n 2, 1) := by decide +kernel
theorem dX8_castNow_29 : decode cX8_castNow 29 = .ok (.iconst 4, 1) := by decide +kernel
theorem dX8_castNow_30 : decode cX8_castNow 30 = .ok (.invokevirtual 127, 3) := by decide +kernel
theorem dX8_castNow_33 : decode cX8_castNow 33 = .ok (.if_icmp .eq 37, 3) := by decide +kernel
theorem dX8_castNow_36 : decode cX8_castNow 36 = .ok (.aload_n 0, 1) := by decide +kernel
theorem dX8_castNow_37 : decode cX8_castNow 37 = .ok (.iload_n 2, 1) := by decide +kernel
theorem dX8_castNow_38 : decode cX8_castNow 38 = .ok (.iconst 4, 1) := by decide +kernel
theorem dX8_castNow_39 : decode cX8_castNow 39 = .ok (.iconst 2, 1) := by decide +kernel
theorem dX8_castNow_40 : decode cX8_castNow 40 = .ok (.invokevirtual 151, 3) := by decide +kernel
theorem dX8_castNow_43 : decode cX8_castNow 43 = .ok (.aload_n 0, 1) := by decide +kernel
theorem dX8_castNow_44 : decode cX8_castNow 44 = .ok (.iload_n 2, 1) := by decide +kernel
theorem dX8_castNow_45 : decode cX8_castNow 45 = .ok (.bipush 6, 2) := by decide +kernel
theorem dX8_castNow_47 : decode cX8_castNow 47 = .ok (.aload_n 0, 1) := by decide +kernel
theorem dX8_castNow_48 : decode cX8_castNow 48 = .ok (.getfield 7, 3) := by decide +kernel
theorem dX8_castNow_51 : decode cX8_castNow 51 = .ok (.iconst 2, 1) := by decide +kernel
theorem dX8_castNow_52 : decode cX8_castNow 52 = .ok (.iaload, 1) := by decide +kernel
theorem dX8_castNow_53 : decode cX8_castNow 53 = .ok (.invokevirtual 151, 3) := by decide +kernel
theorem dX8_castNow_56 : decode cX8_castNow 56 = .ok (.aload_n 0, 1) := by decide +kernel
theorem dX8_castNow_57 : decode cX8_castNow 57 = .ok (.getfield 7, 3) := by decide +kernel
theorem dX8_castNow_60 : decode cX8_castNow 60 = .ok (.iconst 3, 1) := by decide +kernel
theorem dX8_castNow_61 : decode cX8_castNow 61 = .ok (.dup2, 1) := by decide +kernel
theorem dX8_castNow_62 : decode cX8_castNow 62 = .ok (.iaload, 1) := by decide +kernel
theorem dX8_castNow_63 : decode cX8_castNow 63 = .ok (.aload_n 0, 1) := by decide +kernel
theorem dX8_castNow_64 : decode cX8_castNow 64 = .ok (.iload_n 2, 1) := by decide +kernel
theorem dX8_castNow_65 : decode cX8_castNow 65 = .ok (.invokevirtual 148, 3) := by decide +kernel
theorem dX8_castNow_68 : decode cX8_castNow 68 = .ok (.iadd, 1) := by decide +kernel
theorem dX8_castNow_69 : decode cX8_castNow 69 = .ok (.iastore, 1) := by decide +kernel
theorem dX8_castNow_70 : decode cX8_castNow 70 = .ok (.iinc 2 1, 3) := by decide +kernel
theorem dX8_castNow_73 : decode cX8_castNow 73 = .ok (.goto (-62), 3) := by decide +kernel
theorem dX8_castNow_76 : decode cX8_castNow 76 = .ok (.aload_n 0, 1) := by decide +kernel
theorem dX8_castNow_77 : decode cX8_castNow 77 = .ok (.getfield 7, 3) := by decide +kernel
theorem dX8_castNow_80 : decode cX8_castNow 80 = .ok (.iconst 2, 1) := by decide +kernel
theorem dX8_castNow_81 : decode cX8_castNow 81 = .ok (.dup2, 1) := by decide +kernel
theorem dX8_castNow_82 : decode cX8_castNow 82 = .ok (.iaload, 1) := by decide +kernel
theorem dX8_castNow_83 : decode cX8_castNow 83 = .ok (.iconst 1, 1) := by decide +kernel
theorem dX8_castNow_84 : decode cX8_castNow 84 = .ok (.iadd, 1) := by decide +kernel
theorem dX8_castNow_85 : decode cX8_castNow 85 = .ok (.iastore, 1) := by decide +kernel
theorem dX8_castNow_86 : decode cX8_castNow 86 = .ok (.iload_n 1, 1) := by decide +kernel
theorem dX8_castNow_87 : decode cX8_castNow 87 = .ok (.ireturn, 1) := by decide +kernel
theorem dX8_cast_0 : decode cX8_cast 0 = .ok (.aload_n 0, 1) := by decide +kernel
theorem dX8_cast_1 : decode cX8_cast 1 = .ok (.iconst 0, 1) := by decide +kernel
theorem dX8_cast_2 : decode cX8_cast 2 = .ok (.putfield 35, 3) := by decide +kernel
theorem dX8_cast_5 : decode cX8_cast 5 = .ok (.aload_n 0, 1) := by decide +kernel
theorem dX8_cast_6 : decode cX8_cast 6 = .ok (.invokevirtual 181, 3) := by decide +kernel
theorem dX8_cast_9 : decode cX8_cast 9 = .ok (.istore_n 1, 1) := by decide +kernel
theorem dX8_cast_10 : decode cX8_cast 10 = .ok (.iload_n 1, 1) := by decide +kernel
theorem dX8_cast_11 : decode cX8_cast 11 = .ok (.ifCond .ge 5, 3) := by decide +kernel
theorem dX8_cast_14 : decode cX8_cast 14 = .ok (.iload_n 1, 1) := by decide +kernel
theorem dX8_cast_15 : decode cX8_cast 15 = .ok (.ireturn, 1) := by decide +kernel
theorem dX8_cast_16 : decode cX8_cast 16 = .ok (.aload_n 0, 1) := by decide +kernel
theorem dX8_cast_17 : decode cX8_cast 17 = .ok (.invokevirtual 95, 3) := by decide +kernel
theorem dX8_cast_20 : decode cX8_cast 20 = .ok (.aload_n 0, 1) := by decide +kernel
theorem dX8_cast_21 : decode cX8_cast 21 = .ok (.invokevirtual 184, 3) := by decide +kernel
theorem dX8_cast_24 : decode cX8_cast 24 = .ok (.ireturn, 1) := by decide +kernel
theorem dX8_inState_0 : decode cX8_inState 0 = .ok (.iconst 0, 1) := by decide +kernel
theorem dX8_inState_1 : decode cX8_inState 1 = .ok (.istore_n 2, 1) := by decide +kernel
theorem dX8_inState_2 : decode cX8_inState 2 = .ok (.iconst 0, 1) := by decide +kernel
theorem dX8_inState_3 : decode cX8_inState 3 = .ok (.istore_n 3, 1) := by decide +kernel
theorem dX8_inState_4 : decode cX8_inState 4 = .ok (.iload_n 3, 1) := by decide +kernel
theorem dX8_inState_5 : decode cX8_inState 5 = .ok (.aload_n 0, 1) := by decide +kernel
theorem dX8_inState_6 : decode cX8_inState 6 = .ok (.getfield 7, 3) := by decide +kernel
theorem dX8_inState_9 : decode cX8_inState 9 = .ok (.iconst 1, 1) := by decide +kernel
theorem dX8_inState_10 : decode cX8_inState 10 = .ok (.iaload, 1) := by decide +kernel
theorem dX8_inState_11 : decode cX8_inState 11 = .ok (.if_icmp .ge 27, 3) := by decide +kernel
theorem dX8_inState_14 : decode cX8_inState 14 = .ok (.iload_n 2, 1) := by decide +kernel
theorem dX8_inState_15 : decode cX8_inState 15 = .ok (.aload_n 0, 1) := by decide +kernel
theorem dX8_inState_16 : decode cX8_inState 16 = .ok (.iload_n 3, 1) := by decide +kernel
theorem dX8_inState_17 : decode cX8_inState 17 = .ok (.iconst 4, 1) := by decide +kernel
theorem dX8_inState_18 : decode cX8_inState 18 = .ok (.invokevirtual 127, 3) := by decide +kernel
theorem dX8_inState_21 : decode cX8_inState 21 = .ok (.iload_n 1, 1) := by decide +kernel
theorem dX8_inState_22 : decode cX8_inState 22 = .ok (.if_icmp .ne 7, 3) := by decide +kernel
theorem dX8_inState_25 : decode cX8_inState 25 = .ok (.iconst 1, 1) := by decide +kernel
theorem dX8_inState_26 : decode cX8_inState 26 = .ok (.goto 4, 3) := by decide +kernel
theorem dX8_inState_29 : decode cX8_inState 29 = .ok (.iconst 0, 1) := by decide +kernel
theorem dX8_inState_30 : decode cX8_inState 30 = .ok (.iadd, 1) := by decide +kernel
theorem dX8_inState_31 : decode cX8_inState 31 = .ok (.istore_n 2, 1) := by decide +kernel
theorem dX8_inState_32 : decode cX8_inState 32 = .ok (.iinc 3 1, 3) := by decide +kernel
theorem dX8_inState_35 : decode cX8_inState 35 = .ok (.goto (-31), 3) := by decide +kernel
theorem dX8_inState_38 : decode cX8_inState 38 = .ok (.iload_n 2, 1) := by decide +kernel
theorem dX8_inState_39 : decode cX8_inState 39 = .ok (.ireturn, 1) := by decide +kernel
theorem dX8_deliverNow_0 : decode cX8_deliverNow 0 = .ok (.aload_n 0, 1) := by decide +kernel
theorem dX8_deliverNow_1 : decode cX8_deliverNow 1 = .ok (.iload_n 1, 1) := by decide +kernel
theorem dX8_deliverNow_2 : decode cX8_deliverNow 2 = .ok (.iconst 4, 1) := by decide +kernel
theorem dX8_deliverNow_3 : decode cX8_deliverNow 3 = .ok (.iconst 3, 1) := by decide +kernel
theorem dX8_deliverNow_4 : decode cX8_deliverNow 4 = .ok (.invokevirtual 151, 3) := by decide +kernel
theorem dX8_deliverNow_7 : decode cX8_deliverNow 7 = .ok (.aload_n 0, 1) := by decide +kernel
theorem dX8_deliverNow_8 : decode cX8_deliverNow 8 = .ok (.iconst 3, 1) := by decide +kernel
theorem dX8_deliverNow_9 : decode cX8_deliverNow 9 = .ok (.invokevirtual 187, 3) := by decide +kernel
theorem dX8_deliverNow_12 : decode cX8_deliverNow 12 = .ok (.ireturn, 1) := by decide +kernel
theorem dX8_deliver_0 : decode cX8_deliver 0 = .ok (.aload_n 0, 1) := by decide +kernel
theorem dX8_deliver_1 : decode cX8_deliver 1 = .ok (.iconst 0, 1) := by decide +kernel
theorem dX8_deliver_2 : decode cX8_deliver 2 = .ok (.putfield 35, 3) := by decide +kernel
theorem dX8_deliver_5 : decode cX8_deliver 5 = .ok (.aload_n 0, 1) := by decide +kernel
theorem dX8_deliver_6 : decode cX8_deliver 6 = .ok (.iload_n 1, 1) := by decide +kernel
theorem dX8_deliver_7 : decode cX8_deliver 7 = .ok (.iconst 2, 1) := by decide +kernel
theorem dX8_deliver_8 : decode cX8_deliver 8 = .ok (.invokevirtual 169, 3) := by decide +kernel
theorem dX8_deliver_11 : decode cX8_deliver 11 = .ok (.istore_n 2, 1) := by decide +kernel
theorem dX8_deliver_12 : decode cX8_deliver 12 = .ok (.iload_n 2, 1) := by decide +kernel
theorem dX8_deliver_13 : decode cX8_deliver 13 = .ok (.ifCond .ge 5, 3) := by decide +kernel
theorem dX8_deliver_16 : decode cX8_deliver 16 = .ok (.iload_n 2, 1) := by decide +kernel
theorem dX8_deliver_17 : decode cX8_deliver 17 = .ok (.ireturn, 1) := by decide +kernel
theorem dX8_deliver_18 : decode cX8_deliver 18 = .ok (.aload_n 0, 1) := by decide +kernel
theorem dX8_deliver_19 : decode cX8_deliver 19 = .ok (.invokevirtual 95, 3) := by decide +kernel
theorem dX8_deliver_22 : decode cX8_deliver 22 = .ok (.aload_n 0, 1) := by decide +kernel
theorem dX8_deliver_23 : decode cX8_deliver 23 = .ok (.iload_n 1, 1) := by decide +kernel
theorem dX8_deliver_24 : decode cX8_deliver 24 = .ok (.invokevirtual 190, 3) := by decide +kernel
theorem dX8_deliver_27 : decode cX8_deliver 27 = .ok (.ireturn, 1) := by decide +kernel
theorem dX8_slotAt_0 : decode cX8_slotAt 0 = .ok (.bipush 118, 2) := by decide +kernel
theorem dX8_slotAt_2 : decode cX8_slotAt 2 = .ok (.bipush 119, 2) := by decide +kernel
theorem dX8_slotAt_4 : decode cX8_slotAt 4 = .ok (.iload_n 0, 1) := by decide +kernel
theorem dX8_slotAt_5 : decode cX8_slotAt 5 = .ok (.imul, 1) := by decide +kernel
theorem dX8_slotAt_6 : decode cX8_slotAt 6 = .ok (.iadd, 1) := by decide +kernel
theorem dX8_slotAt_7 : decode cX8_slotAt 7 = .ok (.ireturn, 1) := by decide +kernel
theorem dX8_take_0 : decode cX8_take 0 = .ok (.aload_n 0, 1) := by decide +kernel
theorem dX8_take_1 : decode cX8_take 1 = .ok (.iconst 0, 1) := by decide +kernel
theorem dX8_take_2 : decode cX8_take 2 = .ok (.putfield 35, 3) := by decide +kernel
theorem dX8_take_5 : decode cX8_take 5 = .ok (.iload_n 1, 1) := by decide +kernel
theorem dX8_take_6 : decode cX8_take 6 = .ok (.invokestatic 193, 3) := by decide +kernel
theorem dX8_take_9 : decode cX8_take 9 = .ok (.ifCond .ne 6, 3) := by decide +kernel
theorem dX8_take_12 : decode cX8_take 12 = .ok (.ldc 94, 2) := by decide +kernel
theorem dX8_take_14 : decode cX8_take 14 = .ok (.ireturn, 1) := by decide +kernel
theorem dX8_take_15 : decode cX8_take 15 = .ok (.aload_n 0, 1) := by decide +kernel
theorem dX8_take_16 : decode cX8_take 16 = .ok (.invokevirtual 95, 3) := by decide +kernel
theorem dX8_take_19 : decode cX8_take 19 = .ok (.aload_n 0, 1) := by decide +kernel
theorem dX8_take_20 : decode cX8_take 20 = .ok (.getfield 7, 3) := by decide +kernel
theorem dX8_take_23 : decode cX8_take 23 = .ok (.iload_n 1, 1) := by decide +kernel
theorem dX8_take_24 : decode cX8_take 24 = .ok (.invokestatic 196, 3) := by decide +kernel
theorem dX8_take_27 : decode cX8_take 27 = .ok (.iconst 1, 1) := by decide +kernel
theorem dX8_take_28 : decode cX8_take 28 = .ok (.iastore, 1) := by decide +kernel
theorem dX8_take_29 : decode cX8_take 29 = .ok (.iconst 0, 1) := by decide +kernel
theorem dX8_take_30 : decode cX8_take 30 = .ok (.istore_n 2, 1) := by decide +kernel
theorem dX8_take_31 : decode cX8_take 31 = .ok (.iload_n 2, 1) := by decide +kernel
theorem dX8_take_32 : decode cX8_take 32 = .ok (.bipush 118, 2) := by decide +kernel
theorem dX8_take_34 : decode cX8_take 34 = .ok (.if_icmp .ge 28, 3) := by decide +kernel
theorem dX8_take_37 : decode cX8_take 37 = .ok (.aload_n 0, 1) := by decide +kernel
theorem dX8_take_38 : decode cX8_take 38 = .ok (.getfield 7, 3) := by decide +kernel
theorem dX8_take_41 : decode cX8_take 41 = .ok (.iload_n 1, 1) := by decide +kernel
theorem dX8_take_42 : decode cX8_take 42 = .ok (.invokestatic 196, 3) := by decide +kernel
theorem dX8_take_45 : decode cX8_take 45 = .ok (.iconst 1, 1) := by decide +kernel
theorem dX8_take_46 : decode cX8_take 46 = .ok (.iadd, 1) := by decide +kernel
theorem dX8_take_47 : decode cX8_take 47 = .ok (.iload_n 2, 1) := by decide +kernel
theorem dX8_take_48 : decode cX8_take 48 = .ok (.iadd, 1) := by decide +kernel
theorem dX8_take_49 : decode cX8_take 49 = .ok (.aload_n 0, 1) := by decide +kernel
theorem dX8_take_50 : decode cX8_take 50 = .ok (.getfield 7, 3) := by decide +kernel
theorem dX8_take_53 : decode cX8_take 53 = .ok (.iload_n 2, 1) := by decide +kernel
theorem dX8_take_54 : decode cX8_take 54 = .ok (.iaload, 1) := by decide +kernel
theorem dX8_take_55 : decode cX8_take 55 = .ok (.iastore, 1) := by decide +kernel
theorem dX8_take_56 : decode cX8_take 56 = .ok (.iinc 2 1, 3) := by decide +kernel
theorem dX8_take_59 : decode cX8_take 59 = .ok (.goto (-28), 3) := by decide +kernel
theorem dX8_take_62 : decode cX8_take 62 = .ok (.aload_n 0, 1) := by decide +kernel
theorem dX8_take_63 : decode cX8_take 63 = .ok (.getfield 7, 3) := by decide +kernel
theorem dX8_take_66 : decode cX8_take 66 = .ok (.iconst 1, 1) := by decide +kernel
theorem dX8_take_67 : decode cX8_take 67 = .ok (.iaload, 1) := by decide +kernel
theorem dX8_take_68 : decode cX8_take 68 = .ok (.ireturn, 1) := by decide +kernel
theorem dX8_restore_0 : decode cX8_restore 0 = .ok (.aload_n 0, 1) := by decide +kernel
theorem dX8_restore_1 : decode cX8_restore 1 = .ok (.iconst 0, 1) := by decide +kernel
theorem dX8_restore_2 : decode cX8_restore 2 = .ok (.putfield 35, 3) := by decide +kernel
theorem dX8_restore_5 : decode cX8_restore 5 = .ok (.iload_n 1, 1) := by decide +kernel
theorem dX8_restore_6 : decode cX8_restore 6 = .ok (.invokestatic 193, 3) := by decide +kernel
theorem dX8_restore_9 : decode cX8_restore 9 = .ok (.ifCond .ne 6, 3) := by decide +kernel
theorem dX8_restore_12 : decode cX8_restore 12 = .ok (.ldc 94, 2) := by decide +kernel
theorem dX8_restore_14 : decode cX8_restore 14 = .ok (.ireturn, 1) := by decide +kernel
theorem dX8_restore_15 : decode cX8_restore 15 = .ok (.aload_n 0, 1) := by decide +kernel
theorem dX8_restore_16 : decode cX8_restore 16 = .ok (.getfield 7, 3) := by decide +kernel
theorem dX8_restore_19 : decode cX8_restore 19 = .ok (.iload_n 1, 1) := by decide +kernel
theorem dX8_restore_20 : decode cX8_restore 20 = .ok (.invokestatic 196, 3) := by decide +kernel
theorem dX8_restore_23 : decode cX8_restore 23 = .ok (.iaload, 1) := by decide +kernel
theorem dX8_restore_24 : decode cX8_restore 24 = .ok (.ifCond .ne 6, 3) := by decide +kernel
theorem dX8_restore_27 : decode cX8_restore 27 = .ok (.ldc 165, 2) := by decide +kernel
theorem dX8_restore_29 : decode cX8_restore 29 = .ok (.ireturn, 1) := by decide +kernel
theorem dX8_restore_30 : decode cX8_restore 30 = .ok (.aload_n 0, 1) := by decide +kernel
theorem dX8_restore_31 : decode cX8_restore 31 = .ok (.invokevirtual 95, 3) := by decide +kernel
theorem dX8_restore_34 : decode cX8_restore 34 = .ok (.iconst 0, 1) := by decide +kernel
theorem dX8_restore_35 : decode cX8_restore 35 = .ok (.istore_n 2, 1) := by decide +kernel
theorem dX8_restore_36 : decode cX8_restore 36 = .ok (.iload_n 2, 1) := by decide +kernel
theorem dX8_restore_37 : decode cX8_restore 37 = .ok (.bipush 118, 2) := by decide +kernel
theorem dX8_restore_39 : decode cX8_restore 39 = .ok (.if_icmp .ge 28, 3) := by decide +kernel
theorem dX8_restore_42 : decode cX8_restore 42 = .ok (.aload_n 0, 1) := by decide +kernel
theorem dX8_restore_43 : decode cX8_restore 43 = .ok (.getfield 7, 3) := by decide +kernel
theorem dX8_restore_46 : decode cX8_restore 46 = .ok (.iload_n 2, 1) := by decide +kernel
theorem dX8_restore_47 : decode cX8_restore 47 = .ok (.aload_n 0, 1) := by decide +kernel
theorem dX8_restore_48 : decode cX8_restore 48 = .ok (.getfield 7, 3) := by decide +kernel
theorem dX8_restore_51 : decode cX8_restore 51 = .ok (.iload_n 1, 1) := by decide +kernel
theorem dX8_restore_52 : decode cX8_restore 52 = .ok (.invokestatic 196, 3) := by decide +kernel
theorem dX8_restore_55 : decode cX8_restore 55 = .ok (.iconst 1, 1) := by decide +kernel
theorem dX8_restore_56 : decode cX8_restore 56 = .ok (.iadd, 1) := by decide +kernel
theorem dX8_restore_57 : decode cX8_restore 57 = .ok (.iload_n 2, 1) := by decide +kernel
theorem dX8_restore_58 : decode cX8_restore 58 = .ok (.iadd, 1) := by decide +kernel
theorem dX8_restore_59 : decode cX8_restore 59 = .ok (.iaload, 1) := by decide +kernel
theorem dX8_restore_60 : decode cX8_restore 60 = .ok (.iastore, 1) := by decide +kernel
theorem dX8_restore_61 : decode cX8_restore 61 = .ok (.iinc 2 1, 3) := by decide +kernel
theorem dX8_restore_64 : decode cX8_restore 64 = .ok (.goto (-28), 3) := by decide +kernel
theorem dX8_restore_67 : decode cX8_restore 67 = .ok (.aload_n 0, 1) := by decide +kernel
theorem dX8_restore_68 : decode cX8_restore 68 = .ok (.getfield 7, 3) := by decide +kernel
theorem dX8_restore_71 : decode cX8_restore 71 = .ok (.iconst 1, 1) := by decide +kernel
theorem dX8_restore_72 : decode cX8_restore 72 = .ok (.iaload, 1) := by decide +kernel
theorem dX8_restore_73 : decode cX8_restore 73 = .ok (.ireturn, 1) := by decide +kernel
theorem dX8_undo_0 : decode cX8_undo 0 = .ok (.aload_n 0, 1) := by decide +kernel
theorem dX8_undo_1 : decode cX8_undo 1 = .ok (.iconst 0, 1) := by decide +kernel
theorem dX8_undo_2 : decode cX8_undo 2 = .ok (.putfield 35, 3) := by decide +kernel
theorem dX8_undo_5 : decode cX8_undo 5 = .ok (.aload_n 0, 1) := by decide +kernel
theorem dX8_undo_6 : decode cX8_undo 6 = .ok (.getfield 39, 3) := by decide +kernel
theorem dX8_undo_9 : decode cX8_undo 9 = .ok (.ifCond .ne 6, 3) := by decide +kernel
theorem dX8_undo_12 : decode cX8_undo 12 = .ok (.ldc 165, 2) := by decide +kernel
theorem dX8_undo_14 : decode cX8_undo 14 = .ok (.ireturn, 1) := by decide +kernel
theorem dX8_undo_15 : decode cX8_undo 15 = .ok (.aload_n 0, 1) := by decide +kernel
theorem dX8_undo_16 : decode cX8_undo 16 = .ok (.dup, 1) := by decide +kernel
theorem dX8_undo_17 : decode cX8_undo 17 = .ok (.getfield 39, 3) := by decide +kernel
theorem dX8_undo_20 : decode cX8_undo 20 = .ok (.iconst 1, 1) := by decide +kernel
theorem dX8_undo_21 : decode cX8_undo 21 = .ok (.isub, 1) := by decide +kernel
theorem dX8_undo_22 : decode cX8_undo 22 = .ok (.putfield 39, 3) := by decide +kernel
theorem dX8_undo_25 : decode cX8_undo 25 = .ok (.iconst 0, 1) := by decide +kernel
theorem dX8_undo_26 : decode cX8_undo 26 = .ok (.istore_n 1, 1) := by decide +kernel
theorem dX8_undo_27 : decode cX8_undo 27 = .ok (.iload_n 1, 1) := by decide +kernel
theorem dX8_undo_28 : decode cX8_undo 28 = .ok (.sipush 356, 3) := by decide +kernel
theorem dX8_undo_31 : decode cX8_undo 31 = .ok (.if_icmp .ge 30, 3) := by decide +kernel
theorem dX8_undo_34 : decode cX8_undo 34 = .ok (.aload_n 0, 1) := by decide +kernel
theorem dX8_undo_35 : decode cX8_undo 35 = .ok (.getfield 7, 3) := by decide +kernel
theorem dX8_undo_38 : decode cX8_undo 38 = .ok (.iload_n 1, 1) := by decide +kernel
theorem dX8_undo_39 : decode cX8_undo 39 = .ok (.aload_n 0, 1) := by decide +kernel
theorem dX8_undo_40 : decode cX8_undo 40 = .ok (.getfield 16, 3) := by decide +kernel
theorem dX8_undo_43 : decode cX8_undo 43 = .ok (.sipush 356, 3) := by decide +kernel
theorem dX8_undo_46 : decode cX8_undo 46 = .ok (.aload_n 0, 1) := by decide +kernel
theorem dX8_undo_47 : decode cX8_undo 47 = .ok (.getfield 39, 3) := by decide +kernel
theorem dX8_undo_50 : decode cX8_undo 50 = .ok (.imul, 1) := by decide +kernel
theorem dX8_undo_51 : decode cX8_undo 51 = .ok (.iload_n 1, 1) := by decide +kernel
theorem dX8_undo_52 : decode cX8_undo 52 = .ok (.iadd, 1) := by decide +kernel
theorem dX8_undo_53 : decode cX8_undo 53 = .ok (.iaload, 1) := by decide +kernel
theorem dX8_undo_54 : decode cX8_undo 54 = .ok (.iastore, 1) := by decide +kernel
theorem dX8_undo_55 : decode cX8_undo 55 = .ok (.iinc 1 1, 3) := by decide +kernel
theorem dX8_undo_58 : decode cX8_undo 58 = .ok (.goto (-31), 3) := by decide +kernel
theorem dX8_undo_61 : decode cX8_undo 61 = .ok (.aload_n 0, 1) := by decide +kernel
theorem dX8_undo_62 : decode cX8_undo 62 = .ok (.getfield 39, 3) := by decide +kernel
theorem dX8_undo_65 : decode cX8_undo 65 = .ok (.ireturn, 1) := by decide +kernel
theorem dX8_append_0 : decode cX8_append 0 = .ok (.aload_n 0, 1) := by decide +kernel
theorem dX8_append_1 : decode cX8_append 1 = .ok (.iconst 0, 1) := by decide +kernel
theorem dX8_append_2 : decode cX8_append 2 = .ok (.putfield 35, 3) := by decide +kernel
theorem dX8_append_5 : decode cX8_append 5 = .ok (.iload_n 1, 1) := by decide +kernel
theorem dX8_append_6 : decode cX8_append 6 = .ok (.iconst 1, 1) := by decide +kernel
theorem dX8_append_7 : decode cX8_append 7 = .ok (.sipush 255, 3) := by decide +kernel
theorem dX8_append_10 : decode cX8_append 10 = .ok (.invokestatic 90, 3) := by decide +kernel
theorem dX8_append_13 : decode cX8_append 13 = .ok (.ifCond .ne 6, 3) := by decide +kernel
theorem dX8_append_16 : decode cX8_append 16 = .ok (.ldc 94, 2) := by decide +kernel
theorem dX8_append_18 : decode cX8_append 18 = .ok (.ireturn, 1) := by decide +kernel
theorem dX8_append_19 : decode cX8_append 19 = .ok (.aload_n 0, 1) := by decide +kernel
theorem dX8_append_20 : decode cX8_append 20 = .ok (.getfield 199, 3) := by decide +kernel
theorem dX8_append_23 : decode cX8_append 23 = .ok (.sipush 140, 3) := by decide +kernel
theorem dX8_append_26 : decode cX8_append 26 = .ok (.if_icmp .ne 6, 3) := by decide +kernel
theorem dX8_append_29 : decode cX8_append 29 = .ok (.ldc 104, 2) := by decide +kernel
theorem dX8_append_31 : decode cX8_append 31 = .ok (.ireturn, 1) := by decide +kernel
theorem dX8_append_32 : decode cX8_append 32 = .ok (.aload_n 0, 1) := by decide +kernel
theorem dX8_append_33 : decode cX8_append 33 = .ok (.getfield 19, 3) := by decide +kernel
theorem dX8_append_36 : decode cX8_append 36 = .ok (.aload_n 0, 1) := by decide +kernel
theorem dX8_append_37 : decode cX8_append 37 = .ok (.getfield 199, 3) := by decide +kernel
theorem dX8_append_40 : decode cX8_append 40 = .ok (.iload_n 1, 1) := by decide +kernel
theorem dX8_append_41 : decode cX8_append 41 = .ok (.iastore, 1) := by decide +kernel
theorem dX8_append_42 : decode cX8_append 42 = .ok (.aload_n 0, 1) := by decide +kernel
theorem dX8_append_43 : decode cX8_append 43 = .ok (.dup, 1) := by decide +kernel
theorem dX8_append_44 : decode cX8_append 44 = .ok (.getfield 199, 3) := by decide +kernel
theorem dX8_append_47 : decode cX8_append 47 = .ok (.iconst 1, 1) := by decide +kernel
theorem dX8_append_48 : decode cX8_append 48 = .ok (.iadd, 1) := by decide +kernel
theorem dX8_append_49 : decode cX8_append 49 = .ok (.putfield 199, 3) := by decide +kernel
theorem dX8_append_52 : decode cX8_append 52 = .ok (.aload_n 0, 1) := by decide +kernel
theorem dX8_append_53 : decode cX8_append 53 = .ok (.getfield 199, 3) := by decide +kernel
theorem dX8_append_56 : decode cX8_append 56 = .ok (.ireturn, 1) := by decide +kernel
theorem dX8_clearText_0 : decode cX8_clearText 0 = .ok (.aload_n 0, 1) := by decide +kernel
theorem dX8_clearText_1 : decode cX8_clearText 1 = .ok (.iconst 0, 1) := by decide +kernel
theorem dX8_clearText_2 : decode cX8_clearText 2 = .ok (.putfield 35, 3) := by decide +kernel
theorem dX8_clearText_5 : decode cX8_clearText 5 = .ok (.aload_n 0, 1) := by decide +kernel
theorem dX8_clearText_6 : decode cX8_clearText 6 = .ok (.getfield 199, 3) := by decide +kernel
theorem dX8_clearText_9 : decode cX8_clearText 9 = .ok (.istore_n 1, 1) := by decide +kernel
theorem dX8_clearText_10 : decode cX8_clearText 10 = .ok (.aload_n 0, 1) := by decide +kernel
theorem dX8_clearText_11 : decode cX8_clearText 11 = .ok (.iconst 0, 1) := by decide +kernel
theorem dX8_clearText_12 : decode cX8_clearText 12 = .ok (.putfield 199, 3) := by decide +kernel
theorem dX8_clearText_15 : decode cX8_clearText 15 = .ok (.iload_n 1, 1) := by decide +kernel
theorem dX8_clearText_16 : decode cX8_clearText 16 = .ok (.ireturn, 1) := by decide +kernel
theorem dX8_at_0 : decode cX8_at 0 = .ok (.iload_n 1, 1) := by decide +kernel
theorem dX8_at_1 : decode cX8_at 1 = .ok (.aload_n 0, 1) := by decide +kernel
theorem dX8_at_2 : decode cX8_at 2 = .ok (.getfield 199, 3) := by decide +kernel
theorem dX8_at_5 : decode cX8_at 5 = .ok (.if_icmp .ge 12, 3) := by decide +kernel
theorem dX8_at_8 : decode cX8_at 8 = .ok (.aload_n 0, 1) := by decide +kernel
theorem dX8_at_9 : decode cX8_at 9 = .ok (.getfield 19, 3) := by decide +kernel
theorem dX8_at_12 : decode cX8_at 12 = .ok (.iload_n 1, 1) := by decide +kernel
theorem dX8_at_13 : decode cX8_at 13 = .ok (.iaload, 1) := by decide +kernel
theorem dX8_at_14 : decode cX8_at 14 = .ok (.goto 4, 3) := by decide +kernel
theorem dX8_at_17 : decode cX8_at 17 = .ok (.iconst (-1), 1) := by decide +kernel
theorem dX8_at_18 : decode cX8_at 18 = .ok (.ireturn, 1) := by decide +kernel
theorem dX8_next_0 : decode cX8_next 0 = .ok (.aload_n 0, 1) := by decide +kernel
theorem dX8_next_1 : decode cX8_next 1 = .ok (.aload_n 0, 1) := by decide +kernel
theorem dX8_next_2 : decode cX8_next 2 = .ok (.getfield 202, 3) := by decide +kernel
theorem dX8_next_5 : decode cX8_next 5 = .ok (.putfield 205, 3) := by decide +kernel
theorem dX8_next_8 : decode cX8_next 8 = .ok (.aload_n 0, 1) := by decide +kernel
theorem dX8_next_9 : decode cX8_next 9 = .ok (.aload_n 0, 1) := by decide +kernel
theorem dX8_next_10 : decode cX8_next 10 = .ok (.getfield 205, 3) := by decide +kernel
theorem dX8_next_13 : decode cX8_next 13 = .ok (.invokevirtual 208, 3) := by decide +kernel
theorem dX8_next_16 : decode cX8_next 16 = .ok (.bipush 32, 2) := by decide +kernel
theorem dX8_next_18 : decode cX8_next 18 = .ok (.if_icmp .ne 16, 3) := by decide +kernel
theorem dX8_next_21 : decode cX8_next 21 = .ok (.aload_n 0, 1) := by decide +kernel
theorem dX8_next_22 : decode cX8_next 22 = .ok (.dup, 1) := by decide +kernel
theorem dX8_next_23 : decode cX8_next 23 = .ok (.getfield 205, 3) := by decide +kernel
theorem dX8_next_26 : decode cX8_next 26 = .ok (.iconst 1, 1) := by decide +kernel
theorem dX8_next_27 : decode cX8_next 27 = .ok (.iadd, 1) := by decide +kernel
theorem dX8_next_28 : decode cX8_next 28 = .ok (.putfield 205, 3) := by decide +kernel
theorem dX8_next_31 : decode cX8_next 31 = .ok (.goto (-23), 3) := by decide +kernel
theorem dX8_next_34 : decode cX8_next 34 = .ok (.aload_n 0, 1) := by decide +kernel
theorem dX8_next_35 : decode cX8_next 35 = .ok (.aload_n 0, 1) := by decide +kernel
theorem dX8_next_36 : decode cX8_next 36 = .ok (.getfield 205, 3) := by decide +kernel
theorem dX8_next_39 : decode cX8_next 39 = .ok (.putfield 202, 3) := by decide +kernel
theorem dX8_next_42 : decode cX8_next 42 = .ok (.aload_n 0, 1) := by decide +kernel
theorem dX8_next_43 : decode cX8_next 43 = .ok (.aload_n 0, 1) := by decide +kernel
theorem dX8_next_44 : decode cX8_next 44 = .ok (.getfield 205, 3) := by decide +kernel
theorem dX8_next_47 : decode cX8_next 47 = .ok (.invokevirtual 208, 3) := by decide +kernel
theorem dX8_next_50 : decode cX8_next 50 = .ok (.bipush 97, 2) := by decide +kernel
theorem dX8_next_52 : decode cX8_next 52 = .ok (.bipush 122, 2) := by decide +kernel
theorem dX8_next_54 : decode cX8_next 54 = .ok (.invokestatic 90, 3) := by decide +kernel
theorem dX8_next_57 : decode cX8_next 57 = .ok (.ifCond .eq 39, 3) := by decide +kernel
theorem dX8_next_60 : decode cX8_next 60 = .ok (.aload_n 0, 1) := by decide +kernel
theorem dX8_next_61 : decode cX8_next 61 = .ok (.iconst 1, 1) := by decide +kernel
theorem dX8_next_62 : decode cX8_next 62 = .ok (.putfield 211, 3) := by decide +kernel
theorem dX8_next_65 : decode cX8_next 65 = .ok (.aload_n 0, 1) := by decide +kernel
theorem dX8_next_66 : decode cX8_next 66 = .ok (.aload_n 0, 1) := by decide +kernel
theorem dX8_next_67 : decode cX8_next 67 = .ok (.getfield 202, 3) := by decide +kernel
theorem dX8_next_70 : decode cX8_next 70 = .ok (.invokevirtual 208, 3) := by decide +kernel
theorem dX8_next_73 : decode cX8_next 73 = .ok (.bipush 97, 2) := by decide +kernel
theorem dX8_next_75 : decode cX8_next 75 = .ok (.bipush 122, 2) := by decide +kernel
theorem dX8_next_77 : decode cX8_next 77 = .ok (.invokestatic 90, 3) := by decide +kernel
theorem dX8_next_80 : decode cX8_next 80 = .ok (.ifCond .eq 115, 3) := by decide +kernel
theorem dX8_next_83 : decode cX8_next 83 = .ok (.aload_n 0, 1) := by decide +kernel
theorem dX8_next_84 : decode cX8_next 84 = .ok (.dup, 1) := by decide +kernel
theorem dX8_next_85 : decode cX8_next 85 = .ok (.getfield 202, 3) := by decide +kernel
theorem dX8_next_88 : decode cX8_next 88 = .ok (.iconst 1, 1) := by decide +kernel
theorem dX8_next_89 : decode cX8_next 89 = .ok (.iadd, 1) := by decide +kernel
theorem dX8_next_90 : decode cX8_next 90 = .ok (.putfield 202, 3) := by decide +kernel
theorem dX8_next_93 : decode cX8_next 93 = .ok (.goto (-28), 3) := by decide +kernel
theorem dX8_next_96 : decode cX8_next 96 = .ok (.aload_n 0, 1) := by decide +kernel
theorem dX8_next_97 : decode cX8_next 97 = .ok (.aload_n 0, 1) := by decide +kernel
theorem dX8_next_98 : decode cX8_next 98 = .ok (.getfield 205, 3) := by decide +kernel
theorem dX8_next_101 : decode cX8_next 101 = .ok (.invokevirtual 208, 3) := by decide +kernel
theorem dX8_next_104 : decode cX8_next 104 = .ok (.bipush 48, 2) := by decide +kernel
theorem dX8_next_106 : decode cX8_next 106 = .ok (.bipush 57, 2) := by decide +kernel
theorem dX8_next_108 : decode cX8_next 108 = .ok (.invokestatic 90, 3) := by decide +kernel
theorem dX8_next_111 : decode cX8_next 111 = .ok (.ifCond .eq 39, 3) := by decide +kernel
theorem dX8_next_114 : decode cX8_next 114 = .ok (.aload_n 0, 1) := by decide +kernel
theorem dX8_next_115 : decode cX8_next 115 = .ok (.iconst 2, 1) := by decide +kernel
theorem dX8_next_116 : decode cX8_next 116 = .ok (.putfield 211, 3) := by decide +kernel
theorem dX8_next_119 : decode cX8_next 119 = .ok (.aload_n 0, 1) := by decide +kernel
theorem dX8_next_120 : decode cX8_next 120 = .ok (.aload_n 0, 1) := by decide +kernel
theorem dX8_next_121 : decode cX8_next 121 = .ok (.getfield 202, 3) := by decide +kernel
theorem dX8_next_124 : decode cX8_next 124 = .ok (.invokevirtual 208, 3) := by decide +kernel
theorem dX8_next_127 : decode cX8_next 127 = .ok (.bipush 48, 2) := by decide +kernel
theorem dX8_next_129 : decode cX8_next 129 = .ok (.bipush 57, 2) := by decide +kernel
theorem dX8_next_131 : decode cX8_next 131 = .ok (.invokestatic 90, 3) := by decide +kernel
theorem dX8_next_134 : decode cX8_next 134 = .ok (.ifCond .eq 61, 3) := by decide +kernel
theorem dX8_next_137 : decode cX8_next 137 = .ok (.aload_n 0, 1) := by decide +kernel
theorem dX8_next_138 : decode cX8_next 138 = .ok (.dup, 1) := by decide +kernel
theorem dX8_next_139 : decode cX8_next 139 = .ok (.getfield 202, 3) := by decide +kernel
theorem dX8_next_142 : decode cX8_next 142 = .ok (.iconst 1, 1) := by decide +kernel
theorem dX8_next_143 : decode cX8_next 143 = .ok (.iadd, 1) := by decide +kernel
theorem dX8_next_144 : decode cX8_next 144 = .ok (.putfield 202, 3) := by decide +kernel
theorem dX8_next_147 : decode cX8_next 147 = .ok (.goto (-28), 3) := by decide +kernel
theorem dX8_next_150 : decode cX8_next 150 = .ok (.aload_n 0, 1) := by decide +kernel
theorem dX8_next_151 : decode cX8_next 151 = .ok (.aload_n 0, 1) := by decide +kernel
theorem dX8_next_152 : decode cX8_next 152 = .ok (.getfield 205, 3) := by decide +kernel
theorem dX8_next_155 : decode cX8_next 155 = .ok (.aload_n 0, 1) := by decide +kernel
theorem dX8_next_156 : decode cX8_next 156 = .ok (.getfield 199, 3) := by decide +kernel
theorem dX8_next_159 : decode cX8_next 159 = .ok (.if_icmp .ge 7, 3) := by decide +kernel
theorem dX8_next_162 : decode cX8_next 162 = .ok (.iconst 3, 1) := by decide +kernel
theorem dX8_next_163 : decode cX8_next 163 = .ok (.goto 4, 3) := by decide +kernel
theorem dX8_next_166 : decode cX8_next 166 = .ok (.iconst 0, 1) := by decide +kernel
theorem dX8_next_167 : decode cX8_next 167 = .ok (.putfield 211, 3) := by decide +kernel
theorem dX8_next_170 : decode cX8_next 170 = .ok (.aload_n 0, 1) := by decide +kernel
theorem dX8_next_171 : decode cX8_next 171 = .ok (.dup, 1) := by decide +kernel
theorem dX8_next_172 : decode cX8_next 172 = .ok (.getfield 202, 3) := by decide +kernel
theorem dX8_next_175 : decode cX8_next 175 = .ok (.aload_n 0, 1) := by decide +kernel
theorem dX8_next_176 : decode cX8_next 176 = .ok (.getfield 205, 3) := by decide +kernel
theorem dX8_next_179 : decode cX8_next 179 = .ok (.aload_n 0, 1) := by decide +kernel
theorem dX8_next_180 : decode cX8_next 180 = .ok (.getfield 199, 3) := by decide +kernel
theorem dX8_next_183 : decode cX8_next 183 = .ok (.if_icmp .ge 7, 3) := by decide +kernel
theorem dX8_next_186 : decode cX8_next 186 = .ok (.iconst 1, 1) := by decide +kernel
theorem dX8_next_187 : decode cX8_next 187 = .ok (.goto 4, 3) := by decide +kernel
theorem dX8_next_190 : decode cX8_next 190 = .ok (.iconst 0, 1) := by decide +kernel
theorem dX8_next_191 : decode cX8_next 191 = .ok (.iadd, 1) := by decide +kernel
theorem dX8_next_192 : decode cX8_next 192 = .ok (.putfield 202, 3) := by decide +kernel
theorem dX8_next_195 : decode cX8_next 195 = .ok (.return_, 1) := by decide +kernel
theorem dX8_fail_0 : decode cX8_fail 0 = .ok (.aload_n 0, 1) := by decide +kernel
theorem dX8_fail_1 : decode cX8_fail 1 = .ok (.aload_n 0, 1) := by decide +kernel
theorem dX8_fail_2 : decode cX8_fail 2 = .ok (.getfield 214, 3) := by decide +kernel
theorem dX8_fail_5 : decode cX8_fail 5 = .ok (.ifCond .ge 7, 3) := by decide +kernel
theorem dX8_fail_8 : decode cX8_fail 8 = .ok (.iload_n 1, 1) := by decide +kernel
theorem dX8_fail_9 : decode cX8_fail 9 = .ok (.goto 7, 3) := by decide +kernel
theorem dX8_fail_12 : decode cX8_fail 12 = .ok (.aload_n 0, 1) := by decide +kernel
theorem dX8_fail_13 : decode cX8_fail 13 = .ok (.getfield 214, 3) := by decide +kernel
theorem dX8_fail_16 : decode cX8_fail 16 = .ok (.putfield 214, 3) := by decide +kernel
theorem dX8_fail_19 : decode cX8_fail 19 = .ok (.return_, 1) := by decide +kernel
theorem dX8_spelled_0 : decode cX8_spelled 0 = .ok (.iload_n 0, 1) := by decide +kernel
theorem dX8_spelled_1 : decode cX8_spelled 1 = .ok (.ifCond .ne 7, 3) := by decide +kernel
theorem dX8_spelled_4 : decode cX8_spelled 4 = .ok (.iload_n 1, 1) := by decide +kernel
theorem dX8_spelled_5 : decode cX8_spelled 5 = .ok (.goto 52, 3) := by decide +kernel
theorem dX8_spelled_8 : decode cX8_spelled 8 = .ok (.iload_n 0, 1) := by decide +kernel
theorem dX8_spelled_9 : decode cX8_spelled 9 = .ok (.iconst 1, 1) := by decide +kernel
theorem dX8_spelled_10 : decode cX8_spelled 10 = .ok (.if_icmp .ne 7, 3) := by decide +kernel
theorem dX8_spelled_13 : decode cX8_spelled 13 = .ok (.iload_n 2, 1) := by decide +kernel
theorem dX8_spelled_14 : decode cX8_spelled 14 = .ok (.goto 43, 3) := by decide +kernel
theorem dX8_spelled_17 : decode cX8_spelled 17 = .ok (.iload_n 0, 1) := by decide +kernel
theorem dX8_spelled_18 : decode cX8_spelled 18 = .ok (.iconst 2, 1) := by decide +kernel
theorem dX8_spelled_19 : decode cX8_spelled 19 = .ok (.if_icmp .ne 7, 3) := by decide +kernel
theorem dX8_spelled_22 : decode cX8_spelled 22 = .ok (.iload_n 3, 1) := by decide +kernel
theorem dX8_spelled_23 : decode cX8_spelled 23 = .ok (.goto 34, 3) := by decide +kernel
theorem dX8_spelled_26 : decode cX8_spelled 26 = .ok (.iload_n 0, 1) := by decide +kernel
theorem dX8_spelled_27 : decode cX8_spelled 27 = .ok (.iconst 3, 1) := by decide +kernel
theorem dX8_spelled_28 : decode cX8_spelled 28 = .ok (.if_icmp .ne 8, 3) := by decide +kernel
theorem dX8_spelled_31 : decode cX8_spelled 31 = .ok (.iload 4, 2) := by decide +kernel
theorem dX8_spelled_33 : decode cX8_spelled 33 = .ok (.goto 24, 3) := by decide +kernel
theorem dX8_spelled_36 : decode cX8_spelled 36 = .ok (.iload_n 0, 1) := by decide +kernel
theorem dX8_spelled_37 : decode cX8_spelled 37 = .ok (.iconst 4, 1) := by decide +kernel
theorem dX8_spelled_38 : decode cX8_spelled 38 = .ok (.if_icmp .ne 8, 3) := by decide +kernel
theorem dX8_spelled_41 : decode cX8_spelled 41 = .ok (.iload 5, 2) := by decide +kernel
theorem dX8_spelled_43 : decode cX8_spelled 43 = .ok (.goto 14, 3) := by decide +kernel
theorem dX8_spelled_46 : decode cX8_spelled 46 = .ok (.iload_n 0, 1) := by decide +kernel
theorem dX8_spelled_47 : decode cX8_spelled 47 = .ok (.iconst 5, 1) := by decide +kernel
theorem dX8_spelled_48 : decode cX8_spelled 48 = .ok (.if_icmp .ne 8, 3) := by decide +kernel
theorem dX8_spelled_51 : decode cX8_spelled 51 = .ok (.iload 6, 2) := by decide +kernel
theorem dX8_spelled_53 : decode cX8_spelled 53 = .ok (.goto 4, 3) := by decide +kernel
theorem dX8_spelled_56 : decode cX8_spelled 56 = .ok (.iconst 0, 1) := by decide +kernel
theorem dX8_spelled_57 : decode cX8_spelled 57 = .ok (.ireturn, 1) := by decide +kernel
theorem dX8_letterOf_0 : decode cX8_letterOf 0 = .ok (.iload_n 0, 1) := by decide +kernel
theorem dX8_letterOf_1 : decode cX8_letterOf 1 = .ok (.tableswitch 157 0 5 #[39, 54, 82, 97, 125, 142], 39) := by decide +kernel
theorem dX8_letterOf_40 : decode cX8_letterOf 40 = .ok (.iload_n 1, 1) := by decide +kernel
theorem dX8_letterOf_41 : decode cX8_letterOf 41 = .ok (.bipush 119, 2) := by decide +kernel
theorem dX8_letterOf_43 : decode cX8_letterOf 43 = .ok (.bipush 97, 2) := by decide +kernel
theorem dX8_letterOf_45 : decode cX8_letterOf 45 = .ok (.bipush 108, 2) := by decide +kernel
theorem dX8_letterOf_47 : decode cX8_letterOf 47 = .ok (.bipush 108, 2) := by decide +kernel
theorem dX8_letterOf_49 : decode cX8_letterOf 49 = .ok (.iconst 0, 1) := by decide +kernel
theorem dX8_letterOf_50 : decode cX8_letterOf 50 = .ok (.iconst 0, 1) := by decide +kernel
theorem dX8_letterOf_51 : decode cX8_letterOf 51 = .ok (.invokestatic 217, 3) := by decide +kernel
theorem dX8_letterOf_54 : decode cX8_letterOf 54 = .ok (.ireturn, 1) := by decide +kernel
theorem dX8_letterOf_55 : decode cX8_letterOf 55 = .ok (.iload_n 1, 1) := by decide +kernel
theorem dX8_letterOf_56 : decode cX8_letterOf 56 = .ok (.bipush 6, 2) := by decide +kernel
theorem dX8_letterOf_58 : decode cX8_letterOf 58 = .ok (.if_icmp .ne 8, 3) := by decide +kernel
theorem dX8_letterOf_61 : decode cX8_letterOf 61 = .ok (.bipush 101, 2) := by decide +kernel
theorem dX8_letterOf_63 : decode cX8_letterOf 63 = .ok (.goto 19, 3) := by decide +kernel
theorem dX8_letterOf_66 : decode cX8_letterOf 66 = .ok (.iload_n 1, 1) := by decide +kernel
theorem dX8_letterOf_67 : decode cX8_letterOf 67 = .ok (.bipush 109, 2) := by decide +kernel
theorem dX8_letterOf_69 : decode cX8_letterOf 69 = .ok (.bipush 101, 2) := by decide +kernel
theorem dX8_letterOf_71 : decode cX8_letterOf 71 = .ok (.bipush 97, 2) := by decide +kernel
theorem dX8_letterOf_73 : decode cX8_letterOf 73 = .ok (.bipush 115, 2) := by decide +kernel
theorem dX8_letterOf_75 : decode cX8_letterOf 75 = .ok (.bipush 117, 2) := by decide +kernel
theorem dX8_letterOf_77 : decode cX8_letterOf 77 = .ok (.bipush 114, 2) := by decide +kernel
theorem dX8_letterOf_79 : decode cX8_letterOf 79 = .ok (.invokestatic 217, 3) := by decide +kernel
theorem dX8_letterOf_82 : decode cX8_letterOf 82 = .ok (.ireturn, 1) := by decide +kernel
theorem dX8_letterOf_83 : decode cX8_letterOf 83 = .ok (.iload_n 1, 1) := by decide +kernel
theorem dX8_letterOf_84 : decode cX8_letterOf 84 = .ok (.bipush 102, 2) := by decide +kernel
theorem dX8_letterOf_86 : decode cX8_letterOf 86 = .ok (.bipush 108, 2) := by decide +kernel
theorem dX8_letterOf_88 : decode cX8_letterOf 88 = .ok (.bipush 97, 2) := by decide +kernel
theorem dX8_letterOf_90 : decode cX8_letterOf 90 = .ok (.bipush 116, 2) := by decide +kernel
theorem dX8_letterOf_92 : decode cX8_letterOf 92 = .ok (.iconst 0, 1) := by decide +kernel
theorem dX8_letterOf_93 : decode cX8_letterOf 93 = .ok (.iconst 0, 1) := by decide +kernel
theorem dX8_letterOf_94 : decode cX8_letterOf 94 = .ok (.invokestatic 217, 3) := by decide +kernel
theorem dX8_letterOf_97 : decode cX8_letterOf 97 = .ok (.ireturn, 1) := by decide +kernel
theorem dX8_letterOf_98 : decode cX8_letterOf 98 = .ok (.iload_n 1, 1) := by decide +kernel
theorem dX8_letterOf_99 : decode cX8_letterOf 99 = .ok (.bipush 6, 2) := by decide +kernel
theorem dX8_letterOf_101 : decode cX8_letterOf 101 = .ok (.if_icmp .ne 8, 3) := by decide +kernel
theorem dX8_letterOf_104 : decode cX8_letterOf 104 = .ok (.bipush 116, 2) := by decide +kernel
theorem dX8_letterOf_106 : decode cX8_letterOf 106 = .ok (.goto 19, 3) := by decide +kernel
theorem dX8_letterOf_109 : decode cX8_letterOf 109 = .ok (.iload_n 1, 1) := by decide +kernel
theorem dX8_letterOf_110 : decode cX8_letterOf 110 = .ok (.bipush 117, 2) := by decide +kernel
theorem dX8_letterOf_112 : decode cX8_letterOf 112 = .ok (.bipush 112, 2) := by decide +kernel
theorem dX8_letterOf_114 : decode cX8_letterOf 114 = .ok (.bipush 114, 2) := by decide +kernel
theorem dX8_letterOf_116 : decode cX8_letterOf 116 = .ok (.bipush 105, 2) := by decide +kernel
theorem dX8_letterOf_118 : decode cX8_letterOf 118 = .ok (.bipush 103, 2) := by decide +kernel
theorem dX8_letterOf_120 : decode cX8_letterOf 120 = .ok (.bipush 104, 2) := by decide +kernel
theorem dX8_letterOf_122 : decode cX8_letterOf 122 = .ok (.invokestatic 217, 3) := by decide +kernel
theorem dX8_letterOf_125 : decode cX8_letterOf 125 = .ok (.ireturn, 1) := by decide +kernel
theorem dX8_letterOf_126 : decode cX8_letterOf 126 = .ok (.iload_n 1, 1) := by decide +kernel
theorem dX8_letterOf_127 : decode cX8_letterOf 127 = .ok (.bipush 100, 2) := by decide +kernel
theorem dX8_letterOf_129 : decode cX8_letterOf 129 = .ok (.bipush 101, 2) := by decide +kernel
theorem dX8_letterOf_131 : decode cX8_letterOf 131 = .ok (.bipush 99, 2) := by decide +kernel
theorem dX8_letterOf_133 : decode cX8_letterOf 133 = .ok (.bipush 105, 2) := by decide +kernel
theorem dX8_letterOf_135 : decode cX8_letterOf 135 = .ok (.bipush 100, 2) := by decide +kernel
theorem dX8_letterOf_137 : decode cX8_letterOf 137 = .ok (.bipush 101, 2) := by decide +kernel
theorem dX8_letterOf_139 : decode cX8_letterOf 139 = .ok (.invokestatic 217, 3) := by decide +kernel
theorem dX8_letterOf_142 : decode cX8_letterOf 142 = .ok (.ireturn, 1) := by decide +kernel
theorem dX8_letterOf_143 : decode cX8_letterOf 143 = .ok (.iload_n 1, 1) := by decide +kernel
theorem dX8_letterOf_144 : decode cX8_letterOf 144 = .ok (.bipush 99, 2) := by decide +kernel
theorem dX8_letterOf_146 : decode cX8_letterOf 146 = .ok (.bipush 97, 2) := by decide +kernel
theorem dX8_letterOf_148 : decode cX8_letterOf 148 = .ok (.bipush 115, 2) := by decide +kernel
theorem dX8_letterOf_150 : decode cX8_letterOf 150 = .ok (.bipush 116, 2) := by decide +kernel
theorem dX8_letterOf_152 : decode cX8_letterOf 152 = .ok (.iconst 0, 1) := by decide +kernel
theorem dX8_letterOf_153 : decode cX8_letterOf 153 = .ok (.iconst 0, 1) := by decide +kernel
theorem dX8_letterOf_154 : decode cX8_letterOf 154 = .ok (.invokestatic 217, 3) := by decide +kernel
theorem dX8_letterOf_157 : decode cX8_letterOf 157 = .ok (.ireturn, 1) := by decide +kernel
theorem dX8_letterOf_158 : decode cX8_letterOf 158 = .ok (.iload_n 1, 1) := by decide +kernel
theorem dX8_letterOf_159 : decode cX8_letterOf 159 = .ok (.bipush 6, 2) := by decide +kernel
theorem dX8_letterOf_161 : decode cX8_letterOf 161 = .ok (.if_icmp .ne 8, 3) := by decide +kernel
theorem dX8_letterOf_164 : decode cX8_letterOf 164 = .ok (.bipush 114, 2) := by decide +kernel
theorem dX8_letterOf_166 : decode cX8_letterOf 166 = .ok (.goto 19, 3) := by decide +kernel
theorem dX8_letterOf_169 : decode cX8_letterOf 169 = .ok (.iload_n 1, 1) := by decide +kernel
theorem dX8_letterOf_170 : decode cX8_letterOf 170 = .ok (.bipush 100, 2) := by decide +kernel
theorem dX8_letterOf_172 : decode cX8_letterOf 172 = .ok (.bipush 101, 2) := by decide +kernel
theorem dX8_letterOf_174 : decode cX8_letterOf 174 = .ok (.bipush 108, 2) := by decide +kernel
theorem dX8_letterOf_176 : decode cX8_letterOf 176 = .ok (.bipush 105, 2) := by decide +kernel
theorem dX8_letterOf_178 : decode cX8_letterOf 178 = .ok (.bipush 118, 2) := by decide +kernel
theorem dX8_letterOf_180 : decode cX8_letterOf 180 = .ok (.bipush 101, 2) := by decide +kernel
theorem dX8_letterOf_182 : decode cX8_letterOf 182 = .ok (.invokestatic 217, 3) := by decide +kernel
theorem dX8_letterOf_185 : decode cX8_letterOf 185 = .ok (.ireturn, 1) := by decide +kernel
theorem dX8_isWord_0 : decode cX8_isWord 0 = .ok (.iconst 1, 1) := by decide +kernel
theorem dX8_isWord_1 : decode cX8_isWord 1 = .ok (.istore_n 2, 1) := by decide +kernel
theorem dX8_isWord_2 : decode cX8_isWord 2 = .ok (.iconst 0, 1) := by decide +kernel
theorem dX8_isWord_3 : decode cX8_isWord 3 = .ok (.istore_n 3, 1) := by decide +kernel
theorem dX8_isWord_4 : decode cX8_isWord 4 = .ok (.iload_n 3, 1) := by decide +kernel
theorem dX8_isWord_5 : decode cX8_isWord 5 = .ok (.aload_n 0, 1) := by decide +kernel
theorem dX8_isWord_6 : decode cX8_isWord 6 = .ok (.getfield 202, 3) := by decide +kernel
theorem dX8_isWord_9 : decode cX8_isWord 9 = .ok (.aload_n 0, 1) := by decide +kernel
theorem dX8_isWord_10 : decode cX8_isWord 10 = .ok (.getfield 205, 3) := by decide +kernel
theorem dX8_isWord_13 : decode cX8_isWord 13 = .ok (.isub, 1) := by decide +kernel
theorem dX8_isWord_14 : decode cX8_isWord 14 = .ok (.if_icmp .gt 54, 3) := by decide +kernel
theorem dX8_isWord_17 : decode cX8_isWord 17 = .ok (.iload_n 2, 1) := by decide +kernel
theorem dX8_isWord_18 : decode cX8_isWord 18 = .ok (.ifCond .eq 50, 3) := by decide +kernel
theorem dX8_isWord_21 : decode cX8_isWord 21 = .ok (.iload_n 1, 1) := by decide +kernel
theorem dX8_isWord_22 : decode cX8_isWord 22 = .ok (.iload_n 3, 1) := by decide +kernel
theorem dX8_isWord_23 : decode cX8_isWord 23 = .ok (.invokestatic 221, 3) := by decide +kernel
theorem dX8_isWord_26 : decode cX8_isWord 26 = .ok (.iload_n 3, 1) := by decide +kernel
theorem dX8_isWord_27 : decode cX8_isWord 27 = .ok (.aload_n 0, 1) := by decide +kernel
theorem dX8_isWord_28 : decode cX8_isWord 28 = .ok (.getfield 202, 3) := by decide +kernel
theorem dX8_isWord_31 : decode cX8_isWord 31 = .ok (.aload_n 0, 1) := by decide +kernel
theorem dX8_isWord_32 : decode cX8_isWord 32 = .ok (.getfield 205, 3) := by decide +kernel
theorem dX8_isWord_35 : decode cX8_isWord 35 = .ok (.isub, 1) := by decide +kernel
theorem dX8_isWord_36 : decode cX8_isWord 36 = .ok (.if_icmp .ge 16, 3) := by decide +kernel
theorem dX8_isWord_39 : decode cX8_isWord 39 = .ok (.aload_n 0, 1) := by decide +kernel
theorem dX8_isWord_40 : decode cX8_isWord 40 = .ok (.aload_n 0, 1) := by decide +kernel
theorem dX8_isWord_41 : decode cX8_isWord 41 = .ok (.getfield 205, 3) := by decide +kernel
theorem dX8_isWord_44 : decode cX8_isWord 44 = .ok (.iload_n 3, 1) := by decide +kernel
theorem dX8_isWord_45 : decode cX8_isWord 45 = .ok (.iadd, 1) := by decide +kernel
theorem dX8_isWord_46 : decode cX8_isWord 46 = .ok (.invokevirtual 208, 3) := by decide +kernel
theorem dX8_isWord_49 : decode cX8_isWord 49 = .ok (.goto 4, 3) := by decide +kernel
theorem dX8_isWord_52 : decode cX8_isWord 52 = .ok (.iconst 0, 1) := by decide +kernel
theorem dX8_isWord_53 : decode cX8_isWord 53 = .ok (.if_icmp .ne 7, 3) := by decide +kernel
theorem dX8_isWord_56 : decode cX8_isWord 56 = .ok (.iconst 1, 1) := by decide +kernel
theorem dX8_isWord_57 : decode cX8_isWord 57 = .ok (.goto 4, 3) := by decide +kernel
theorem dX8_isWord_60 : decode cX8_isWord 60 = .ok (.iconst 0, 1) := by decide +kernel
theorem dX8_isWord_61 : decode cX8_isWord 61 = .ok (.istore_n 2, 1) := by decide +kernel
theorem dX8_isWord_62 : decode cX8_isWord 62 = .ok (.iinc 3 1, 3) := by decide +kernel
theorem dX8_isWord_65 : decode cX8_isWord 65 = .ok (.goto (-61), 3) := by decide +kernel
theorem dX8_isWord_68 : decode cX8_isWord 68 = .ok (.iload_n 2, 1) := by decide +kernel
theorem dX8_isWord_69 : decode cX8_isWord 69 = .ok (.ireturn, 1) := by decide +kernel
theorem dX8_wordHere_0 : decode cX8_wordHere 0 = .ok (.iconst 0, 1) := by decide +kernel
theorem dX8_wordHere_1 : decode cX8_wordHere 1 = .ok (.istore_n 1, 1) := by decide +kernel
theorem dX8_wordHere_2 : decode cX8_wordHere 2 = .ok (.iload_n 1, 1) := by decide +kernel
theorem dX8_wordHere_3 : decode cX8_wordHere 3 = .ok (.bipush 7, 2) := by decide +kernel
theorem dX8_wordHere_5 : decode cX8_wordHere 5 = .ok (.if_icmp .ge 17, 3) := by decide +kernel
theorem dX8_wordHere_8 : decode cX8_wordHere 8 = .ok (.aload_n 0, 1) := by decide +kernel
theorem dX8_wordHere_9 : decode cX8_wordHere 9 = .ok (.iload_n 1, 1) := by decide +kernel
theorem dX8_wordHere_10 : decode cX8_wordHere 10 = .ok (.invokevirtual 224, 3) := by decide +kernel
theorem dX8_wordHere_13 : decode cX8_wordHere 13 = .ok (.ifCond .ne 9, 3) := by decide +kernel
theorem dX8_wordHere_16 : decode cX8_wordHere 16 = .ok (.iinc 1 1, 3) := by decide +kernel
theorem dX8_wordHere_19 : decode cX8_wordHere 19 = .ok (.goto (-17), 3) := by decide +kernel
theorem dX8_wordHere_22 : decode cX8_wordHere 22 = .ok (.aload_n 0, 1) := by decide +kernel
theorem dX8_wordHere_23 : decode cX8_wordHere 23 = .ok (.getfield 211, 3) := by decide +kernel
theorem dX8_wordHere_26 : decode cX8_wordHere 26 = .ok (.iconst 1, 1) := by decide +kernel
theorem dX8_wordHere_27 : decode cX8_wordHere 27 = .ok (.if_icmp .ne 7, 3) := by decide +kernel
theorem dX8_wordHere_30 : decode cX8_wordHere 30 = .ok (.iload_n 1, 1) := by decide +kernel
theorem dX8_wordHere_31 : decode cX8_wordHere 31 = .ok (.goto 5, 3) := by decide +kernel
theorem dX8_wordHere_34 : decode cX8_wordHere 34 = .ok (.bipush 7, 2) := by decide +kernel
theorem dX8_wordHere_36 : decode cX8_wordHere 36 = .ok (.ireturn, 1) := by decide +kernel
theorem dX8_numbersOf_0 : decode cX8_numbersOf 0 = .ok (.iload_n 0, 1) := by decide +kernel
theorem dX8_numbersOf_1 : decode cX8_numbersOf 1 = .ok (.iconst 3, 1) := by decide +kernel
theorem dX8_numbersOf_2 : decode cX8_numbersOf 2 = .ok (.if_icmp .ne 7, 3) := by decide +kernel
theorem dX8_numbersOf_5 : decode cX8_numbersOf 5 = .ok (.iconst 3, 1) := by decide +kernel
theorem dX8_numbersOf_6 : decode cX8_numbersOf 6 = .ok (.goto 33, 3) := by decide +kernel
theorem dX8_numbersOf_9 : decode cX8_numbersOf 9 = .ok (.iload_n 0, 1) := by decide +kernel
theorem dX8_numbersOf_10 : decode cX8_numbersOf 10 = .ok (.iconst 1, 1) := by decide +kernel
theorem dX8_numbersOf_11 : decode cX8_numbersOf 11 = .ok (.if_icmp .eq 8, 3) := by decide +kernel
theorem dX8_numbersOf_14 : decode cX8_numbersOf 14 = .ok (.iload_n 0, 1) := by decide +kernel
theorem dX8_numbersOf_15 : decode cX8_numbersOf 15 = .ok (.iconst 2, 1) := by decide +kernel
theorem dX8_numbersOf_16 : decode cX8_numbersOf 16 = .ok (.if_icmp .ne 7, 3) := by decide +kernel
theorem dX8_numbersOf_19 : decode cX8_numbersOf 19 = .ok (.iconst 2, 1) := by decide +kernel
theorem dX8_numbersOf_20 : decode cX8_numbersOf 20 = .ok (.goto 19, 3) := by decide +kernel
theorem dX8_numbersOf_23 : decode cX8_numbersOf 23 = .ok (.iload_n 0, 1) := by decide +kernel
theorem dX8_numbersOf_24 : decode cX8_numbersOf 24 = .ok (.iconst 4, 1) := by decide +kernel
theorem dX8_numbersOf_25 : decode cX8_numbersOf 25 = .ok (.if_icmp .eq 9, 3) := by decide +kernel
theorem dX8_numbersOf_28 : decode cX8_numbersOf 28 = .ok (.iload_n 0, 1) := by decide +kernel
theorem dX8_numbersOf_29 : decode cX8_numbersOf 29 = .ok (.bipush 6, 2) := by decide +kernel
theorem dX8_numbersOf_31 : decode cX8_numbersOf 31 = .ok (.if_icmp .ne 7, 3) := by decide +kernel
theorem dX8_numbersOf_34 : decode cX8_numbersOf 34 = .ok (.iconst 1, 1) := by decide +kernel
theorem dX8_numbersOf_35 : decode cX8_numbersOf 35 = .ok (.goto 4, 3) := by decide +kernel
theorem dX8_numbersOf_38 : decode cX8_numbersOf 38 = .ok (.iconst 0, 1) := by decide +kernel
theorem dX8_numbersOf_39 : decode cX8_numbersOf 39 = .ok (.ireturn, 1) := by decide +kernel
theorem dX8_readNumber_0 : decode cX8_readNumber 0 = .ok (.iconst 1, 1) := by decide +kernel
theorem dX8_readNumber_1 : decode cX8_readNumber 1 = .ok (.istore_n 3, 1) := by decide +kernel
theorem dX8_readNumber_2 : decode cX8_readNumber 2 = .ok (.iload_n 1, 1) := by decide +kernel
theorem dX8_readNumber_3 : decode cX8_readNumber 3 = .ok (.iconst 1, 1) := by decide +kernel
theorem dX8_readNumber_4 : decode cX8_readNumber 4 = .ok (.if_icmp .ne 35, 3) := by decide +kernel
theorem dX8_readNumber_7 : decode cX8_readNumber 7 = .ok (.iload_n 2, 1) := by decide +kernel
theorem dX8_readNumber_8 : decode cX8_readNumber 8 = .ok (.iconst 1, 1) := by decide +kernel
theorem dX8_readNumber_9 : decode cX8_readNumber 9 = .ok (.if_icmp .ne 30, 3) := by decide +kernel
theorem dX8_readNumber_12 : decode cX8_readNumber 12 = .ok (.aload_n 0, 1) := by decide +kernel
theorem dX8_readNumber_13 : decode cX8_readNumber 13 = .ok (.getfield 211, 3) := by decide +kernel
theorem dX8_readNumber_16 : decode cX8_readNumber 16 = .ok (.iconst 3, 1) := by decide +kernel
theorem dX8_readNumber_17 : decode cX8_readNumber 17 = .ok (.if_icmp .ne 22, 3) := by decide +kernel
theorem dX8_readNumber_20 : decode cX8_readNumber 20 = .ok (.aload_n 0, 1) := by decide +kernel
theorem dX8_readNumber_21 : decode cX8_readNumber 21 = .ok (.aload_n 0, 1) := by decide +kernel
theorem dX8_readNumber_22 : decode cX8_readNumber 22 = .ok (.getfield 205, 3) := by decide +kernel
theorem dX8_readNumber_25 : decode cX8_readNumber 25 = .ok (.invokevirtual 208, 3) := by decide +kernel
theorem dX8_readNumber_28 : decode cX8_readNumber 28 = .ok (.bipush 45, 2) := by decide +kernel
theorem dX8_readNumber_30 : decode cX8_readNumber 30 = .ok (.if_icmp .ne 9, 3) := by decide +kernel
theorem dX8_readNumber_33 : decode cX8_readNumber 33 = .ok (.iconst (-1), 1) := by decide +kernel
theorem dX8_readNumber_34 : decode cX8_readNumber 34 = .ok (.istore_n 3, 1) := by decide +kernel
theorem dX8_readNumber_35 : decode cX8_readNumber 35 = .ok (.aload_n 0, 1) := by decide +kernel
theorem dX8_readNumber_36 : decode cX8_readNumber 36 = .ok (.invokevirtual 227, 3) := by decide +kernel
theorem dX8_readNumber_39 : decode cX8_readNumber 39 = .ok (.aload_n 0, 1) := by decide +kernel
theorem dX8_readNumber_40 : decode cX8_readNumber 40 = .ok (.getfield 211, 3) := by decide +kernel
theorem dX8_readNumber_43 : decode cX8_readNumber 43 = .ok (.iconst 2, 1) := by decide +kernel
theorem dX8_readNumber_44 : decode cX8_readNumber 44 = .ok (.if_icmp .ne 42, 3) := by decide +kernel
theorem dX8_readNumber_47 : decode cX8_readNumber 47 = .ok (.aload_n 0, 1) := by decide +kernel
theorem dX8_readNumber_48 : decode cX8_readNumber 48 = .ok (.getfield 202, 3) := by decide +kernel
theorem dX8_readNumber_51 : decode cX8_readNumber 51 = .ok (.aload_n 0, 1) := by decide +kernel
theorem dX8_readNumber_52 : decode cX8_readNumber 52 = .ok (.getfield 205, 3) := by decide +kernel
theorem dX8_readNumber_55 : decode cX8_readNumber 55 = .ok (.isub, 1) := by decide +kernel
theorem dX8_readNumber_56 : decode cX8_readNumber 56 = .ok (.iconst 4, 1) := by decide +kernel
theorem dX8_readNumber_57 : decode cX8_readNumber 57 = .ok (.if_icmp .gt 29, 3) := by decide +kernel
theorem dX8_readNumber_60 : decode cX8_readNumber 60 = .ok (.aload_n 0, 1) := by decide +kernel
theorem dX8_readNumber_61 : decode cX8_readNumber 61 = .ok (.getfield 202, 3) := by decide +kernel
theorem dX8_readNumber_64 : decode cX8_readNumber 64 = .ok (.aload_n 0, 1) := by decide +kernel
theorem dX8_readNumber_65 : decode cX8_readNumber 65 = .ok (.getfield 205, 3) := by decide +kernel
theorem dX8_readNumber_68 : decode cX8_readNumber 68 = .ok (.isub, 1) := by decide +kernel
theorem dX8_readNumber_69 : decode cX8_readNumber 69 = .ok (.iconst 1, 1) := by decide +kernel
theorem dX8_readNumber_70 : decode cX8_readNumber 70 = .ok (.if_icmp .le 25, 3) := by decide +kernel
theorem dX8_readNumber_73 : decode cX8_readNumber 73 = .ok (.aload_n 0, 1) := by decide +kernel
theorem dX8_readNumber_74 : decode cX8_readNumber 74 = .ok (.aload_n 0, 1) := by decide +kernel
theorem dX8_readNumber_75 : decode cX8_readNumber 75 = .ok (.getfield 205, 3) := by decide +kernel
theorem dX8_readNumber_78 : decode cX8_readNumber 78 = .ok (.invokevirtual 208, 3) := by decide +kernel
theorem dX8_readNumber_81 : decode cX8_readNumber 81 = .ok (.bipush 48, 2) := by decide +kernel
theorem dX8_readNumber_83 : decode cX8_readNumber 83 = .ok (.if_icmp .ne 12, 3) := by decide +kernel
theorem dX8_readNumber_86 : decode cX8_readNumber 86 = .ok (.aload_n 0, 1) := by decide +kernel
theorem dX8_readNumber_87 : decode cX8_readNumber 87 = .ok (.aload_n 0, 1) := by decide +kernel
theorem dX8_readNumber_88 : decode cX8_readNumber 88 = .ok (.getfield 205, 3) := by decide +kernel
theorem dX8_readNumber_91 : decode cX8_readNumber 91 = .ok (.invokevirtual 230, 3) := by decide +kernel
theorem dX8_readNumber_94 : decode cX8_readNumber 94 = .ok (.return_, 1) := by decide +kernel
theorem dX8_readNumber_95 : decode cX8_readNumber 95 = .ok (.iconst 0, 1) := by decide +kernel
theorem dX8_readNumber_96 : decode cX8_readNumber 96 = .ok (.istore 4, 2) := by decide +kernel
theorem dX8_readNumber_98 : decode cX8_readNumber 98 = .ok (.aload_n 0, 1) := by decide +kernel
theorem dX8_readNumber_99 : decode cX8_readNumber 99 = .ok (.getfield 205, 3) := by decide +kernel
theorem dX8_readNumber_102 : decode cX8_readNumber 102 = .ok (.istore 5, 2) := by decide +kernel
theorem dX8_readNumber_104 : decode cX8_readNumber 104 = .ok (.iload 5, 2) := by decide +kernel
theorem dX8_readNumber_106 : decode cX8_readNumber 106 = .ok (.aload_n 0, 1) := by decide +kernel
theorem dX8_readNumber_107 : decode cX8_readNumber 107 = .ok (.getfield 202, 3) := by decide +kernel
theorem dX8_readNumber_110 : decode cX8_readNumber 110 = .ok (.if_icmp .ge 26, 3) := by decide +kernel
theorem dX8_readNumber_113 : decode cX8_readNumber 113 = .ok (.bipush 10, 2) := by decide +kernel
theorem dX8_readNumber_115 : decode cX8_readNumber 115 = .ok (.iload 4, 2) := by decide +kernel
theorem dX8_readNumber_117 : decode cX8_readNumber 117 = .ok (.imul, 1) := by decide +kernel
theorem dX8_readNumber_118 : decode cX8_readNumber 118 = .ok (.aload_n 0, 1) := by decide +kernel
theorem dX8_readNumber_119 : decode cX8_readNumber 119 = .ok (.iload 5, 2) := by decide +kernel
theorem dX8_readNumber_121 : decode cX8_readNumber 121 = .ok (.invokevirtual 208, 3) := by decide +kernel
theorem dX8_readNumber_124 : decode cX8_readNumber 124 = .ok (.iadd, 1) := by decide +kernel
theorem dX8_readNumber_125 : decode cX8_readNumber 125 = .ok (.bipush 48, 2) := by decide +kernel
theorem dX8_readNumber_127 : decode cX8_readNumber 127 = .ok (.isub, 1) := by decide +kernel
theorem dX8_readNumber_128 : decode cX8_readNumber 128 = .ok (.istore 4, 2) := by decide +kernel
theorem dX8_readNumber_130 : decode cX8_readNumber 130 = .ok (.iinc 5 1, 3) := by decide +kernel
theorem dX8_readNumber_133 : decode cX8_readNumber 133 = .ok (.goto (-29), 3) := by decide +kernel
theorem dX8_readNumber_136 : decode cX8_readNumber 136 = .ok (.aload_n 0, 1) := by decide +kernel
theorem dX8_readNumber_137 : decode cX8_readNumber 137 = .ok (.getfield 22, 3) := by decide +kernel
theorem dX8_readNumber_140 : decode cX8_readNumber 140 = .ok (.iload_n 2, 1) := by decide +kernel
theorem dX8_readNumber_141 : decode cX8_readNumber 141 = .ok (.iload_n 3, 1) := by decide +kernel
theorem dX8_readNumber_142 : decode cX8_readNumber 142 = .ok (.iload 4, 2) := by decide +kernel
theorem dX8_readNumber_144 : decode cX8_readNumber 144 = .ok (.imul, 1) := by decide +kernel
theorem dX8_readNumber_145 : decode cX8_readNumber 145 = .ok (.iastore, 1) := by decide +kernel
theorem dX8_readNumber_146 : decode cX8_readNumber 146 = .ok (.aload_n 0, 1) := by decide +kernel
theorem dX8_readNumber_147 : decode cX8_readNumber 147 = .ok (.invokevirtual 227, 3) := by decide +kernel
theorem dX8_readNumber_150 : decode cX8_readNumber 150 = .ok (.return_, 1) := by decide +kernel
theorem dX8_codeOf_0 : decode cX8_codeOf 0 = .ok (.iload_n 1, 1) := by decide +kernel
theorem dX8_codeOf_1 : decode cX8_codeOf 1 = .ok (.tableswitch 82 0 5 #[39, 44, 51, 60, 70, 77], 39) := by decide +kernel
theorem dX8_codeOf_40 : decode cX8_codeOf 40 = .ok (.aload_n 0, 1) := by decide +kernel
theorem dX8_codeOf_41 : decode cX8_codeOf 41 = .ok (.invokevirtual 105, 3) := by decide +kernel
theorem dX8_codeOf_44 : decode cX8_codeOf 44 = .ok (.ireturn, 1) := by decide +kernel
theorem dX8_codeOf_45 : decode cX8_codeOf 45 = .ok (.aload_n 0, 1) := by decide +kernel
theorem dX8_codeOf_46 : decode cX8_codeOf 46 = .ok (.iload_n 2, 1) := by decide +kernel
theorem dX8_codeOf_47 : decode cX8_codeOf 47 = .ok (.iload_n 3, 1) := by decide +kernel
theorem dX8_codeOf_48 : decode cX8_codeOf 48 = .ok (.invokevirtual 120, 3) := by decide +kernel
theorem dX8_codeOf_51 : decode cX8_codeOf 51 = .ok (.ireturn, 1) := by decide +kernel
theorem dX8_codeOf_52 : decode cX8_codeOf 52 = .ok (.aload_n 0, 1) := by decide +kernel
theorem dX8_codeOf_53 : decode cX8_codeOf 53 = .ok (.iload_n 2, 1) := by decide +kernel
theorem dX8_codeOf_54 : decode cX8_codeOf 54 = .ok (.iconst (-1), 1) := by decide +kernel
theorem dX8_codeOf_55 : decode cX8_codeOf 55 = .ok (.iload_n 3, 1) := by decide +kernel
theorem dX8_codeOf_56 : decode cX8_codeOf 56 = .ok (.iconst 0, 1) := by decide +kernel
theorem dX8_codeOf_57 : decode cX8_codeOf 57 = .ok (.invokevirtual 155, 3) := by decide +kernel
theorem dX8_codeOf_60 : decode cX8_codeOf 60 = .ok (.ireturn, 1) := by decide +kernel
theorem dX8_codeOf_61 : decode cX8_codeOf 61 = .ok (.aload_n 0, 1) := by decide +kernel
theorem dX8_codeOf_62 : decode cX8_codeOf 62 = .ok (.iload_n 2, 1) := by decide +kernel
theorem dX8_codeOf_63 : decode cX8_codeOf 63 = .ok (.iload_n 3, 1) := by decide +kernel
theorem dX8_codeOf_64 : decode cX8_codeOf 64 = .ok (.iload 4, 2) := by decide +kernel
theorem dX8_codeOf_66 : decode cX8_codeOf 66 = .ok (.iconst 0, 1) := by decide +kernel
theorem dX8_codeOf_67 : decode cX8_codeOf 67 = .ok (.invokevirtual 155, 3) := by decide +kernel
theorem dX8_codeOf_70 : decode cX8_codeOf 70 = .ok (.ireturn, 1) := by decide +kernel
theorem dX8_codeOf_71 : decode cX8_codeOf 71 = .ok (.aload_n 0, 1) := by decide +kernel
theorem dX8_codeOf_72 : decode cX8_codeOf 72 = .ok (.iload_n 2, 1) := by decide +kernel
theorem dX8_codeOf_73 : decode cX8_codeOf 73 = .ok (.iconst 0, 1) := by decide +kernel
theorem dX8_codeOf_74 : decode cX8_codeOf 74 = .ok (.invokevirtual 169, 3) := by decide +kernel
theorem dX8_codeOf_77 : decode cX8_codeOf 77 = .ok (.ireturn, 1) := by decide +kernel
theorem dX8_codeOf_78 : decode cX8_codeOf 78 = .ok (.aload_n 0, 1) := by decide +kernel
theorem dX8_codeOf_79 : decode cX8_codeOf 79 = .ok (.invokevirtual 181, 3) := by decide +kernel
theorem dX8_codeOf_82 : decode cX8_codeOf 82 = .ok (.ireturn, 1) := by decide +kernel
theorem dX8_codeOf_83 : decode cX8_codeOf 83 = .ok (.aload_n 0, 1) := by decide +kernel
theorem dX8_codeOf_84 : decode cX8_codeOf 84 = .ok (.iload_n 2, 1) := by decide +kernel
theorem dX8_codeOf_85 : decode cX8_codeOf 85 = .ok (.iconst 2, 1) := by decide +kernel
theorem dX8_codeOf_86 : decode cX8_codeOf 86 = .ok (.invokevirtual 169, 3) := by decide +kernel
theorem dX8_codeOf_89 : decode cX8_codeOf 89 = .ok (.ireturn, 1) := by decide +kernel
theorem dX8_carry_0 : decode cX8_carry 0 = .ok (.iload_n 1, 1) := by decide +kernel
theorem dX8_carry_1 : decode cX8_carry 1 = .ok (.tableswitch 81 0 5 #[39, 44, 51, 60, 70, 76], 39) := by decide +kernel
theorem dX8_carry_40 : decode cX8_carry 40 = .ok (.aload_n 0, 1) := by decide +kernel
theorem dX8_carry_41 : decode cX8_carry 41 = .ok (.invokevirtual 109, 3) := by decide +kernel
theorem dX8_carry_44 : decode cX8_carry 44 = .ok (.ireturn, 1) := by decide +kernel
theorem dX8_carry_45 : decode cX8_carry 45 = .ok (.aload_n 0, 1) := by decide +kernel
theorem dX8_carry_46 : decode cX8_carry 46 = .ok (.iload_n 2, 1) := by decide +kernel
theorem dX8_carry_47 : decode cX8_carry 47 = .ok (.iload_n 3, 1) := by decide +kernel
theorem dX8_carry_48 : decode cX8_carry 48 = .ok (.invokevirtual 124, 3) := by decide +kernel
theorem dX8_carry_51 : decode cX8_carry 51 = .ok (.ireturn, 1) := by decide +kernel
theorem dX8_carry_52 : decode cX8_carry 52 = .ok (.aload_n 0, 1) := by decide +kernel
theorem dX8_carry_53 : decode cX8_carry 53 = .ok (.iload_n 2, 1) := by decide +kernel
theorem dX8_carry_54 : decode cX8_carry 54 = .ok (.iconst (-1), 1) := by decide +kernel
theorem dX8_carry_55 : decode cX8_carry 55 = .ok (.iload_n 3, 1) := by decide +kernel
theorem dX8_carry_56 : decode cX8_carry 56 = .ok (.iconst 0, 1) := by decide +kernel
theorem dX8_carry_57 : decode cX8_carry 57 = .ok (.invokevirtual 159, 3) := by decide +kernel
theorem dX8_carry_60 : decode cX8_carry 60 = .ok (.ireturn, 1) := by decide +kernel
theorem dX8_carry_61 : decode cX8_carry 61 = .ok (.aload_n 0, 1) := by decide +kernel
theorem dX8_carry_62 : decode cX8_carry 62 = .ok (.iload_n 2, 1) := by decide +kernel
theorem dX8_carry_63 : decode cX8_carry 63 = .ok (.iload_n 3, 1) := by decide +kernel
theorem dX8_carry_64 : decode cX8_carry 64 = .ok (.iload 4, 2) := by decide +kernel
theorem dX8_carry_66 : decode cX8_carry 66 = .ok (.iconst 0, 1) := by decide +kernel
theorem dX8_carry_67 : decode cX8_carry 67 = .ok (.invokevirtual 159, 3) := by decide +kernel
theorem dX8_carry_70 : decode cX8_carry 70 = .ok (.ireturn, 1) := by decide +kernel
theorem dX8_carry_71 : decode cX8_carry 71 = .ok (.aload_n 0, 1) := by decide +kernel
theorem dX8_carry_72 : decode cX8_carry 72 = .ok (.iload_n 2, 1) := by decide +kernel
theorem dX8_carry_73 : decode cX8_carry 73 = .ok (.invokevirtual 172, 3) := by decide +kernel
theorem dX8_carry_76 : decode cX8_carry 76 = .ok (.ireturn, 1) := by decide +kernel
theorem dX8_carry_77 : decode cX8_carry 77 = .ok (.aload_n 0, 1) := by decide +kernel
theorem dX8_carry_78 : decode cX8_carry 78 = .ok (.invokevirtual 184, 3) := by decide +kernel
theorem dX8_carry_81 : decode cX8_carry 81 = .ok (.ireturn, 1) := by decide +kernel
theorem dX8_carry_82 : decode cX8_carry 82 = .ok (.aload_n 0, 1) := by decide +kernel
theorem dX8_carry_83 : decode cX8_carry 83 = .ok (.iload_n 2, 1) := by decide +kernel
theorem dX8_carry_84 : decode cX8_carry 84 = .ok (.invokevirtual 190, 3) := by decide +kernel
theorem dX8_carry_87 : decode cX8_carry 87 = .ok (.ireturn, 1) := by decide +kernel
theorem dX8_command_0 : decode cX8_command 0 = .ok (.aload_n 0, 1) := by decide +kernel
theorem dX8_command_1 : decode cX8_command 1 = .ok (.getfield 205, 3) := by decide +kernel
theorem dX8_command_4 : decode cX8_command 4 = .ok (.istore_n 1, 1) := by decide +kernel
theorem dX8_command_5 : decode cX8_command 5 = .ok (.aload_n 0, 1) := by decide +kernel
theorem dX8_command_6 : decode cX8_command 6 = .ok (.invokevirtual 234, 3) := by decide +kernel
theorem dX8_command_9 : decode cX8_command 9 = .ok (.istore_n 2, 1) := by decide +kernel
theorem dX8_command_10 : decode cX8_command 10 = .ok (.iload_n 2, 1) := by decide +kernel
theorem dX8_command_11 : decode cX8_command 11 = .ok (.bipush 7, 2) := by decide +kernel
theorem dX8_command_13 : decode cX8_command 13 = .ok (.if_icmp .ne 13, 3) := by decide +kernel
theorem dX8_command_16 : decode cX8_command 16 = .ok (.aload_n 0, 1) := by decide +kernel
theorem dX8_command_17 : decode cX8_command 17 = .ok (.aload_n 0, 1) := by decide +kernel
theorem dX8_command_18 : decode cX8_command 18 = .ok (.getfield 205, 3) := by decide +kernel
theorem dX8_command_21 : decode cX8_command 21 = .ok (.invokevirtual 230, 3) := by decide +kernel
theorem dX8_command_24 : decode cX8_command 24 = .ok (.iconst 0, 1) := by decide +kernel
theorem dX8_command_25 : decode cX8_command 25 = .ok (.ireturn, 1) := by decide +kernel
theorem dX8_command_26 : decode cX8_command 26 = .ok (.aload_n 0, 1) := by decide +kernel
theorem dX8_command_27 : decode cX8_command 27 = .ok (.invokevirtual 227, 3) := by decide +kernel
theorem dX8_command_30 : decode cX8_command 30 = .ok (.iconst 0, 1) := by decide +kernel
theorem dX8_command_31 : decode cX8_command 31 = .ok (.istore_n 3, 1) := by decide +kernel
theorem dX8_command_32 : decode cX8_command 32 = .ok (.iload_n 3, 1) := by decide +kernel
theorem dX8_command_33 : decode cX8_command 33 = .ok (.iload_n 2, 1) := by decide +kernel
theorem dX8_command_34 : decode cX8_command 34 = .ok (.invokestatic 237, 3) := by decide +kernel
theorem dX8_command_37 : decode cX8_command 37 = .ok (.if_icmp .ge 22, 3) := by decide +kernel
theorem dX8_command_40 : decode cX8_command 40 = .ok (.aload_n 0, 1) := by decide +kernel
theorem dX8_command_41 : decode cX8_command 41 = .ok (.getfield 214, 3) := by decide +kernel
theorem dX8_command_44 : decode cX8_command 44 = .ok (.ifCond .ge 15, 3) := by decide +kernel
theorem dX8_command_47 : decode cX8_command 47 = .ok (.aload_n 0, 1) := by decide +kernel
theorem dX8_command_48 : decode cX8_command 48 = .ok (.iload_n 2, 1) := by decide +kernel
theorem dX8_command_49 : decode cX8_command 49 = .ok (.iload_n 3, 1) := by decide +kernel
theorem dX8_command_50 : decode cX8_command 50 = .ok (.invokevirtual 240, 3) := by decide +kernel
theorem dX8_command_53 : decode cX8_command 53 = .ok (.iinc 3 1, 3) := by decide +kernel
theorem dX8_command_56 : decode cX8_command 56 = .ok (.goto (-24), 3) := by decide +kernel
theorem dX8_command_59 : decode cX8_command 59 = .ok (.aload_n 0, 1) := by decide +kernel
theorem dX8_command_60 : decode cX8_command 60 = .ok (.getfield 214, 3) := by decide +kernel
theorem dX8_command_63 : decode cX8_command 63 = .ok (.ifCond .ge 32, 3) := by decide +kernel
theorem dX8_command_66 : decode cX8_command 66 = .ok (.aload_n 0, 1) := by decide +kernel
theorem dX8_command_67 : decode cX8_command 67 = .ok (.getfield 211, 3) := by decide +kernel
theorem dX8_command_70 : decode cX8_command 70 = .ok (.iconst 3, 1) := by decide +kernel
theorem dX8_command_71 : decode cX8_command 71 = .ok (.if_icmp .ne 16, 3) := by decide +kernel
theorem dX8_command_74 : decode cX8_command 74 = .ok (.aload_n 0, 1) := by decide +kernel
theorem dX8_command_75 : decode cX8_command 75 = .ok (.aload_n 0, 1) := by decide +kernel
theorem dX8_command_76 : decode cX8_command 76 = .ok (.getfield 205, 3) := by decide +kernel
theorem dX8_command_79 : decode cX8_command 79 = .ok (.invokevirtual 208, 3) := by decide +kernel
theorem dX8_command_82 : decode cX8_command 82 = .ok (.bipush 59, 2) := by decide +kernel
theorem dX8_command_84 : decode cX8_command 84 = .ok (.if_icmp .eq 11, 3) := by decide +kernel
theorem dX8_command_87 : decode cX8_command 87 = .ok (.aload_n 0, 1) := by decide +kernel
theorem dX8_command_88 : decode cX8_command 88 = .ok (.aload_n 0, 1) := by decide +kernel
theorem dX8_command_89 : decode cX8_command 89 = .ok (.getfield 205, 3) := by decide +kernel
theorem dX8_command_92 : decode cX8_command 92 = .ok (.invokevirtual 230, 3) := by decide +kernel
theorem dX8_command_95 : decode cX8_command 95 = .ok (.aload_n 0, 1) := by decide +kernel
theorem dX8_command_96 : decode cX8_command 96 = .ok (.getfield 214, 3) := by decide +kernel
theorem dX8_command_99 : decode cX8_command 99 = .ok (.ifCond .ge 34, 3) := by decide +kernel
theorem dX8_command_102 : decode cX8_command 102 = .ok (.aload_n 0, 1) := by decide +kernel
theorem dX8_command_103 : decode cX8_command 103 = .ok (.iload_n 2, 1) := by decide +kernel
theorem dX8_command_104 : decode cX8_command 104 = .ok (.aload_n 0, 1) := by decide +kernel
theorem dX8_command_105 : decode cX8_command 105 = .ok (.getfield 22, 3) := by decide +kernel
theorem dX8_command_108 : decode cX8_command 108 = .ok (.iconst 0, 1) := by decide +kernel
theorem dX8_command_109 : decode cX8_command 109 = .ok (.iaload, 1) := by decide +kernel
theorem dX8_command_110 : decode cX8_command 110 = .ok (.aload_n 0, 1) := by decide +kernel
theorem dX8_command_111 : decode cX8_command 111 = .ok (.getfield 22, 3) := by decide +kernel
theorem dX8_command_114 : decode cX8_command 114 = .ok (.iconst 1, 1) := by decide +kernel
theorem dX8_command_115 : decode cX8_command 115 = .ok (.iaload, 1) := by decide +kernel
theorem dX8_command_116 : decode cX8_command 116 = .ok (.aload_n 0, 1) := by decide +kernel
theorem dX8_command_117 : decode cX8_command 117 = .ok (.getfield 22, 3) := by decide +kernel
theorem dX8_command_120 : decode cX8_command 120 = .ok (.iconst 2, 1) := by decide +kernel
theorem dX8_command_121 : decode cX8_command 121 = .ok (.iaload, 1) := by decide +kernel
theorem dX8_command_122 : decode cX8_command 122 = .ok (.invokevirtual 244, 3) := by decide +kernel
theorem dX8_command_125 : decode cX8_command 125 = .ok (.ifCond .ge 8, 3) := by decide +kernel
theorem dX8_command_128 : decode cX8_command 128 = .ok (.aload_n 0, 1) := by decide +kernel
theorem dX8_command_129 : decode cX8_command 129 = .ok (.iload_n 1, 1) := by decide +kernel
theorem dX8_command_130 : decode cX8_command 130 = .ok (.invokevirtual 230, 3) := by decide +kernel
theorem dX8_command_133 : decode cX8_command 133 = .ok (.aload_n 0, 1) := by decide +kernel
theorem dX8_command_134 : decode cX8_command 134 = .ok (.getfield 214, 3) := by decide +kernel
theorem dX8_command_137 : decode cX8_command 137 = .ok (.ifCond .lt 5, 3) := by decide +kernel
theorem dX8_command_140 : decode cX8_command 140 = .ok (.iconst 0, 1) := by decide +kernel
theorem dX8_command_141 : decode cX8_command 141 = .ok (.ireturn, 1) := by decide +kernel
theorem dX8_command_142 : decode cX8_command 142 = .ok (.aload_n 0, 1) := by decide +kernel
theorem dX8_command_143 : decode cX8_command 143 = .ok (.iload_n 2, 1) := by decide +kernel
theorem dX8_command_144 : decode cX8_command 144 = .ok (.aload_n 0, 1) := by decide +kernel
theorem dX8_command_145 : decode cX8_command 145 = .ok (.getfield 22, 3) := by decide +kernel
theorem dX8_command_148 : decode cX8_command 148 = .ok (.iconst 0, 1) := by decide +kernel
theorem dX8_command_149 : decode cX8_command 149 = .ok (.iaload, 1) := by decide +kernel
theorem dX8_command_150 : decode cX8_command 150 = .ok (.aload_n 0, 1) := by decide +kernel
theorem dX8_command_151 : decode cX8_command 151 = .ok (.getfield 22, 3) := by decide +kernel
theorem dX8_command_154 : decode cX8_command 154 = .ok (.iconst 1, 1) := by decide +kernel
theorem dX8_command_155 : decode cX8_command 155 = .ok (.iaload, 1) := by decide +kernel
theorem dX8_command_156 : decode cX8_command 156 = .ok (.aload_n 0, 1) := by decide +kernel
theorem dX8_command_157 : decode cX8_command 157 = .ok (.getfield 22, 3) := by decide +kernel
theorem dX8_command_160 : decode cX8_command 160 = .ok (.iconst 2, 1) := by decide +kernel
theorem dX8_command_161 : decode cX8_command 161 = .ok (.iaload, 1) := by decide +kernel
theorem dX8_command_162 : decode cX8_command 162 = .ok (.invokevirtual 247, 3) := by decide +kernel
theorem dX8_command_165 : decode cX8_command 165 = .ok (.istore_n 3, 1) := by decide +kernel
theorem dX8_command_166 : decode cX8_command 166 = .ok (.aload_n 0, 1) := by decide +kernel
theorem dX8_command_167 : decode cX8_command 167 = .ok (.invokevirtual 227, 3) := by decide +kernel
theorem dX8_command_170 : decode cX8_command 170 = .ok (.iload_n 3, 1) := by decide +kernel
theorem dX8_command_171 : decode cX8_command 171 = .ok (.ifCond .ge 7, 3) := by decide +kernel
theorem dX8_command_174 : decode cX8_command 174 = .ok (.iconst 0, 1) := by decide +kernel
theorem dX8_command_175 : decode cX8_command 175 = .ok (.goto 4, 3) := by decide +kernel
theorem dX8_command_178 : decode cX8_command 178 = .ok (.iconst 1, 1) := by decide +kernel
theorem dX8_command_179 : decode cX8_command 179 = .ok (.ireturn, 1) := by decide +kernel
theorem dX8_run_0 : decode cX8_run 0 = .ok (.aload_n 0, 1) := by decide +kernel
theorem dX8_run_1 : decode cX8_run 1 = .ok (.iconst 0, 1) := by decide +kernel
theorem dX8_run_2 : decode cX8_run 2 = .ok (.putfield 35, 3) := by decide +kernel
theorem dX8_run_5 : decode cX8_run 5 = .ok (.iconst 0, 1) := by decide +kernel
theorem dX8_run_6 : decode cX8_run 6 = .ok (.istore_n 1, 1) := by decide +kernel
theorem dX8_run_7 : decode cX8_run 7 = .ok (.iload_n 1, 1) := by decide +kernel
theorem dX8_run_8 : decode cX8_run 8 = .ok (.sipush 356, 3) := by decide +kernel
theorem dX8_run_11 : decode cX8_run 11 = .ok (.if_icmp .ge 21, 3) := by decide +kernel
theorem dX8_run_14 : decode cX8_run 14 = .ok (.aload_n 0, 1) := by decide +kernel
theorem dX8_run_15 : decode cX8_run 15 = .ok (.getfield 13, 3) := by decide +kernel
theorem dX8_run_18 : decode cX8_run 18 = .ok (.iload_n 1, 1) := by decide +kernel
theorem dX8_run_19 : decode cX8_run 19 = .ok (.aload_n 0, 1) := by decide +kernel
theorem dX8_run_20 : decode cX8_run 20 = .ok (.getfield 7, 3) := by decide +kernel
theorem dX8_run_23 : decode cX8_run 23 = .ok (.iload_n 1, 1) := by decide +kernel
theorem dX8_run_24 : decode cX8_run 24 = .ok (.iaload, 1) := by decide +kernel
theorem dX8_run_25 : decode cX8_run 25 = .ok (.iastore, 1) := by decide +kernel
theorem dX8_run_26 : decode cX8_run 26 = .ok (.iinc 1 1, 3) := by decide +kernel
theorem dX8_run_29 : decode cX8_run 29 = .ok (.goto (-22), 3) := by decide +kernel
theorem dX8_run_32 : decode cX8_run 32 = .ok (.aload_n 0, 1) := by decide +kernel
theorem dX8_run_33 : decode cX8_run 33 = .ok (.iconst 0, 1) := by decide +kernel
theorem dX8_run_34 : decode cX8_run 34 = .ok (.putfield 202, 3) := by decide +kernel
theorem dX8_run_37 : decode cX8_run 37 = .ok (.aload_n 0, 1) := by decide +kernel
theorem dX8_run_38 : decode cX8_run 38 = .ok (.iconst (-1), 1) := by decide +kernel
theorem dX8_run_39 : decode cX8_run 39 = .ok (.putfield 214, 3) := by decide +kernel
theorem dX8_run_42 : decode cX8_run 42 = .ok (.iconst 0, 1) := by decide +kernel
theorem dX8_run_43 : decode cX8_run 43 = .ok (.istore_n 1, 1) := by decide +kernel
theorem dX8_run_44 : decode cX8_run 44 = .ok (.aload_n 0, 1) := by decide +kernel
theorem dX8_run_45 : decode cX8_run 45 = .ok (.invokevirtual 227, 3) := by decide +kernel
theorem dX8_run_48 : decode cX8_run 48 = .ok (.aload_n 0, 1) := by decide +kernel
theorem dX8_run_49 : decode cX8_run 49 = .ok (.getfield 214, 3) := by decide +kernel
theorem dX8_run_52 : decode cX8_run 52 = .ok (.ifCond .ge 20, 3) := by decide +kernel
theorem dX8_run_55 : decode cX8_run 55 = .ok (.aload_n 0, 1) := by decide +kernel
theorem dX8_run_56 : decode cX8_run 56 = .ok (.getfield 211, 3) := by decide +kernel
theorem dX8_run_59 : decode cX8_run 59 = .ok (.ifCond .eq 13, 3) := by decide +kernel
theorem dX8_run_62 : decode cX8_run 62 = .ok (.iload_n 1, 1) := by decide +kernel
theorem dX8_run_63 : decode cX8_run 63 = .ok (.aload_n 0, 1) := by decide +kernel
theorem dX8_run_64 : decode cX8_run 64 = .ok (.invokevirtual 250, 3) := by decide +kernel
theorem dX8_run_67 : decode cX8_run 67 = .ok (.iadd, 1) := by decide +kernel
theorem dX8_run_68 : decode cX8_run 68 = .ok (.istore_n 1, 1) := by decide +kernel
theorem dX8_run_69 : decode cX8_run 69 = .ok (.goto (-21), 3) := by decide +kernel
theorem dX8_run_72 : decode cX8_run 72 = .ok (.iconst 0, 1) := by decide +kernel
theorem dX8_run_73 : decode cX8_run 73 = .ok (.istore_n 2, 1) := by decide +kernel
theorem dX8_run_74 : decode cX8_run 74 = .ok (.iload_n 2, 1) := by decide +kernel
theorem dX8_run_75 : decode cX8_run 75 = .ok (.sipush 356, 3) := by decide +kernel
theorem dX8_run_78 : decode cX8_run 78 = .ok (.if_icmp .ge 35, 3) := by decide +kernel
theorem dX8_run_81 : decode cX8_run 81 = .ok (.aload_n 0, 1) := by decide +kernel
theorem dX8_run_82 : decode cX8_run 82 = .ok (.getfield 7, 3) := by decide +kernel
theorem dX8_run_85 : decode cX8_run 85 = .ok (.iload_n 2, 1) := by decide +kernel
theorem dX8_run_86 : decode cX8_run 86 = .ok (.iaload, 1) := by decide +kernel
theorem dX8_run_87 : decode cX8_run 87 = .ok (.istore_n 3, 1) := by decide +kernel
theorem dX8_run_88 : decode cX8_run 88 = .ok (.aload_n 0, 1) := by decide +kernel
theorem dX8_run_89 : decode cX8_run 89 = .ok (.getfield 7, 3) := by decide +kernel
theorem dX8_run_92 : decode cX8_run 92 = .ok (.iload_n 2, 1) := by decide +kernel
theorem dX8_run_93 : decode cX8_run 93 = .ok (.aload_n 0, 1) := by decide +kernel
theorem dX8_run_94 : decode cX8_run 94 = .ok (.getfield 13, 3) := by decide +kernel
theorem dX8_run_97 : decode cX8_run 97 = .ok (.iload_n 2, 1) := by decide +kernel
theorem dX8_run_98 : decode cX8_run 98 = .ok (.iaload, 1) := by decide +kernel
theorem dX8_run_99 : decode cX8_run 99 = .ok (.iastore, 1) := by decide +kernel
theorem dX8_run_100 : decode cX8_run 100 = .ok (.aload_n 0, 1) := by decide +kernel
theorem dX8_run_101 : decode cX8_run 101 = .ok (.getfield 13, 3) := by decide +kernel
theorem dX8_run_104 : decode cX8_run 104 = .ok (.iload_n 2, 1) := by decide +kernel
theorem dX8_run_105 : decode cX8_run 105 = .ok (.iload_n 3, 1) := by decide +kernel
theorem dX8_run_106 : decode cX8_run 106 = .ok (.iastore, 1) := by decide +kernel
theorem dX8_run_107 : decode cX8_run 107 = .ok (.iinc 2 1, 3) := by decide +kernel
theorem dX8_run_110 : decode cX8_run 110 = .ok (.goto (-36), 3) := by decide +kernel
theorem dX8_run_113 : decode cX8_run 113 = .ok (.aload_n 0, 1) := by decide +kernel
theorem dX8_run_114 : decode cX8_run 114 = .ok (.getfield 214, 3) := by decide +kernel
theorem dX8_run_117 : decode cX8_run 117 = .ok (.ifCond .lt 12, 3) := by decide +kernel
theorem dX8_run_120 : decode cX8_run 120 = .ok (.sipush (-1000), 3) := by decide +kernel
theorem dX8_run_123 : decode cX8_run 123 = .ok (.aload_n 0, 1) := by decide +kernel
theorem dX8_run_124 : decode cX8_run 124 = .ok (.getfield 214, 3) := by decide +kernel
theorem dX8_run_127 : decode cX8_run 127 = .ok (.isub, 1) := by decide +kernel
theorem dX8_run_128 : decode cX8_run 128 = .ok (.ireturn, 1) := by decide +kernel
theorem dX8_run_129 : decode cX8_run 129 = .ok (.aload_n 0, 1) := by decide +kernel
theorem dX8_run_130 : decode cX8_run 130 = .ok (.invokevirtual 95, 3) := by decide +kernel
theorem dX8_run_133 : decode cX8_run 133 = .ok (.iconst 0, 1) := by decide +kernel
theorem dX8_run_134 : decode cX8_run 134 = .ok (.istore_n 2, 1) := by decide +kernel
theorem dX8_run_135 : decode cX8_run 135 = .ok (.iload_n 2, 1) := by decide +kernel
theorem dX8_run_136 : decode cX8_run 136 = .ok (.sipush 356, 3) := by decide +kernel
theorem dX8_run_139 : decode cX8_run 139 = .ok (.if_icmp .ge 21, 3) := by decide +kernel
theorem dX8_run_142 : decode cX8_run 142 = .ok (.aload_n 0, 1) := by decide +kernel
theorem dX8_run_143 : decode cX8_run 143 = .ok (.getfield 7, 3) := by decide +kernel
theorem dX8_run_146 : decode cX8_run 146 = .ok (.iload_n 2, 1) := by decide +kernel
theorem dX8_run_147 : decode cX8_run 147 = .ok (.aload_n 0, 1) := by decide +kernel
theorem dX8_run_148 : decode cX8_run 148 = .ok (.getfield 13, 3) := by decide +kernel
theorem dX8_run_151 : decode cX8_run 151 = .ok (.iload_n 2, 1) := by decide +kernel
theorem dX8_run_152 : decode cX8_run 152 = .ok (.iaload, 1) := by decide +kernel
theorem dX8_run_153 : decode cX8_run 153 = .ok (.iastore, 1) := by decide +kernel
theorem dX8_run_154 : decode cX8_run 154 = .ok (.iinc 2 1, 3) := by decide +kernel
theorem dX8_run_157 : decode cX8_run 157 = .ok (.goto (-22), 3) := by decide +kernel
theorem dX8_run_160 : decode cX8_run 160 = .ok (.aload_n 0, 1) := by decide +kernel
theorem dX8_run_161 : decode cX8_run 161 = .ok (.iconst 0, 1) := by decide +kernel
theorem dX8_run_162 : decode cX8_run 162 = .ok (.putfield 199, 3) := by decide +kernel
theorem dX8_run_165 : decode cX8_run 165 = .ok (.iload_n 1, 1) := by decide +kernel
theorem dX8_run_166 : decode cX8_run 166 = .ok (.ireturn, 1) := by decide +kernel
theorem dX8_knownWalls_0 : decode cX8_knownWalls 0 = .ok (.iconst 0, 1) := by decide +kernel
theorem dX8_knownWalls_1 : decode cX8_knownWalls 1 = .ok (.istore_n 1, 1) := by decide +kernel
theorem dX8_knownWalls_2 : decode cX8_knownWalls 2 = .ok (.iconst 0, 1) := by decide +kernel
theorem dX8_knownWalls_3 : decode cX8_knownWalls 3 = .ok (.istore_n 2, 1) := by decide +kernel
theorem dX8_knownWalls_4 : decode cX8_knownWalls 4 = .ok (.iload_n 2, 1) := by decide +kernel
theorem dX8_knownWalls_5 : decode cX8_knownWalls 5 = .ok (.aload_n 0, 1) := by decide +kernel
theorem dX8_knownWalls_6 : decode cX8_knownWalls 6 = .ok (.getfield 7, 3) := by decide +kernel
theorem dX8_knownWalls_9 : decode cX8_knownWalls 9 = .ok (.iconst 0, 1) := by decide +kernel
theorem dX8_knownWalls_10 : decode cX8_knownWalls 10 = .ok (.iaload, 1) := by decide +kernel
theorem dX8_knownWalls_11 : decode cX8_knownWalls 11 = .ok (.if_icmp .ge 27, 3) := by decide +kernel
theorem dX8_knownWalls_14 : decode cX8_knownWalls 14 = .ok (.iload_n 1, 1) := by decide +kernel
theorem dX8_knownWalls_15 : decode cX8_knownWalls 15 = .ok (.aload_n 0, 1) := by decide +kernel
theorem dX8_knownWalls_16 : decode cX8_knownWalls 16 = .ok (.iload_n 2, 1) := by decide +kernel
theorem dX8_knownWalls_17 : decode cX8_knownWalls 17 = .ok (.invokevirtual 117, 3) := by decide +kernel
theorem dX8_knownWalls_20 : decode cX8_knownWalls 20 = .ok (.ldc 83, 2) := by decide +kernel
theorem dX8_knownWalls_22 : decode cX8_knownWalls 22 = .ok (.if_icmp .ne 7, 3) := by decide +kernel
theorem dX8_knownWalls_25 : decode cX8_knownWalls 25 = .ok (.iconst 0, 1) := by decide +kernel
theorem dX8_knownWalls_26 : decode cX8_knownWalls 26 = .ok (.goto 4, 3) := by decide +kernel
theorem dX8_knownWalls_29 : decode cX8_knownWalls 29 = .ok (.iconst 1, 1) := by decide +kernel
theorem dX8_knownWalls_30 : decode cX8_knownWalls 30 = .ok (.iadd, 1) := by decide +kernel
theorem dX8_knownWalls_31 : decode cX8_knownWalls 31 = .ok (.istore_n 1, 1) := by decide +kernel
theorem dX8_knownWalls_32 : decode cX8_knownWalls 32 = .ok (.iinc 2 1, 3) := by decide +kernel
theorem dX8_knownWalls_35 : decode cX8_knownWalls 35 = .ok (.goto (-31), 3) := by decide +kernel
theorem dX8_knownWalls_38 : decode cX8_knownWalls 38 = .ok (.iload_n 1, 1) := by decide +kernel
theorem dX8_knownWalls_39 : decode cX8_knownWalls 39 = .ok (.ireturn, 1) := by decide +kernel
theorem dX8_count_0 : decode cX8_count 0 = .ok (.aload_n 0, 1) := by decide +kernel
theorem dX8_count_1 : decode cX8_count 1 = .ok (.iconst 0, 1) := by decide +kernel
theorem dX8_count_2 : decode cX8_count 2 = .ok (.putfield 35, 3) := by decide +kernel
theorem dX8_count_5 : decode cX8_count 5 = .ok (.iload_n 1, 1) := by decide +kernel
theorem dX8_count_6 : decode cX8_count 6 = .ok (.iconst 3, 1) := by decide +kernel
theorem dX8_count_7 : decode cX8_count 7 = .ok (.bipush 7, 2) := by decide +kernel
theorem dX8_count_9 : decode cX8_count 9 = .ok (.invokestatic 90, 3) := by decide +kernel
theorem dX8_count_12 : decode cX8_count 12 = .ok (.ifCond .eq 11, 3) := by decide +kernel
theorem dX8_count_15 : decode cX8_count 15 = .ok (.aload_n 0, 1) := by decide +kernel
theorem dX8_count_16 : decode cX8_count 16 = .ok (.iload_n 1, 1) := by decide +kernel
theorem dX8_count_17 : decode cX8_count 17 = .ok (.iconst 3, 1) := by decide +kernel
theorem dX8_count_18 : decode cX8_count 18 = .ok (.isub, 1) := by decide +kernel
theorem dX8_count_19 : decode cX8_count 19 = .ok (.invokevirtual 187, 3) := by decide +kernel
theorem dX8_count_22 : decode cX8_count 22 = .ok (.ireturn, 1) := by decide +kernel
theorem dX8_count_23 : decode cX8_count 23 = .ok (.iload_n 1, 1) := by decide +kernel
theorem dX8_count_24 : decode cX8_count 24 = .ok (.bipush 13, 2) := by decide +kernel
theorem dX8_count_26 : decode cX8_count 26 = .ok (.bipush 16, 2) := by decide +kernel
theorem dX8_count_28 : decode cX8_count 28 = .ok (.invokestatic 90, 3) := by decide +kernel
theorem dX8_count_31 : decode cX8_count 31 = .ok (.ifCond .eq 15, 3) := by decide +kernel
theorem dX8_count_34 : decode cX8_count 34 = .ok (.aload_n 0, 1) := by decide +kernel
theorem dX8_count_35 : decode cX8_count 35 = .ok (.getfield 7, 3) := by decide +kernel
theorem dX8_count_38 : decode cX8_count 38 = .ok (.iconst 4, 1) := by decide +kernel
theorem dX8_count_39 : decode cX8_count 39 = .ok (.iload_n 1, 1) := by decide +kernel
theorem dX8_count_40 : decode cX8_count 40 = .ok (.iadd, 1) := by decide +kernel
theorem dX8_count_41 : decode cX8_count 41 = .ok (.bipush 13, 2) := by decide +kernel
theorem dX8_count_43 : decode cX8_count 43 = .ok (.isub, 1) := by decide +kernel
theorem dX8_count_44 : decode cX8_count 44 = .ok (.iaload, 1) := by decide +kernel
theorem dX8_count_45 : decode cX8_count 45 = .ok (.ireturn, 1) := by decide +kernel
theorem dX8_count_46 : decode cX8_count 46 = .ok (.iload_n 1, 1) := by decide +kernel
theorem dX8_count_47 : decode cX8_count 47 = .ok (.tableswitch 128 0 12 #[65, 72, 77, 128, 128, 128, 128, 128, 84, 91, 98, 118, 123], 65) := by decide +kernel
theorem dX8_count_112 : decode cX8_count 112 = .ok (.aload_n 0, 1) := by decide +kernel
theorem dX8_count_113 : decode cX8_count 113 = .ok (.getfield 7, 3) := by decide +kernel
theorem dX8_count_116 : decode cX8_count 116 = .ok (.iconst 0, 1) := by decide +kernel
theorem dX8_count_117 : decode cX8_count 117 = .ok (.iaload, 1) := by decide +kernel
theorem dX8_count_118 : decode cX8_count 118 = .ok (.ireturn, 1) := by decide +kernel
theorem dX8_count_119 : decode cX8_count 119 = .ok (.aload_n 0, 1) := by decide +kernel
theorem dX8_count_120 : decode cX8_count 120 = .ok (.invokevirtual 253, 3) := by decide +kernel
theorem dX8_count_123 : decode cX8_count 123 = .ok (.ireturn, 1) := by decide +kernel
theorem dX8_count_124 : decode cX8_count 124 = .ok (.aload_n 0, 1) := by decide +kernel
theorem dX8_count_125 : decode cX8_count 125 = .ok (.getfield 7, 3) := by decide +kernel
theorem dX8_count_128 : decode cX8_count 128 = .ok (.iconst 1, 1) := by decide +kernel
theorem dX8_count_129 : decode cX8_count 129 = .ok (.iaload, 1) := by decide +kernel
theorem dX8_count_130 : decode cX8_count 130 = .ok (.ireturn, 1) := by decide +kernel
theorem dX8_count_131 : decode cX8_count 131 = .ok (.aload_n 0, 1) := by decide +kernel
theorem dX8_count_132 : decode cX8_count 132 = .ok (.getfield 7, 3) := by decide +kernel
theorem dX8_count_135 : decode cX8_count 135 = .ok (.iconst 2, 1) := by decide +kernel
theorem dX8_count_136 : decode cX8_count 136 = .ok (.iaload, 1) := by decide +kernel
theorem dX8_count_137 : decode cX8_count 137 = .ok (.ireturn, 1) := by decide +kernel
theorem dX8_count_138 : decode cX8_count 138 = .ok (.aload_n 0, 1) := by decide +kernel
theorem dX8_count_139 : decode cX8_count 139 = .ok (.getfield 7, 3) := by decide +kernel
theorem dX8_count_142 : decode cX8_count 142 = .ok (.iconst 3, 1) := by decide +kernel
theorem dX8_count_143 : decode cX8_count 143 = .ok (.iaload, 1) := by decide +kernel
theorem dX8_count_144 : decode cX8_count 144 = .ok (.ireturn, 1) := by decide +kernel
theorem dX8_count_145 : decode cX8_count 145 = .ok (.aload_n 0, 1) := by decide +kernel
theorem dX8_count_146 : decode cX8_count 146 = .ok (.getfield 7, 3) := by decide +kernel
theorem dX8_count_149 : decode cX8_count 149 = .ok (.iconst 0, 1) := by decide +kernel
theorem dX8_count_150 : decode cX8_count 150 = .ok (.invokestatic 196, 3) := by decide +kernel
theorem dX8_count_153 : decode cX8_count 153 = .ok (.iaload, 1) := by decide +kernel
theorem dX8_count_154 : decode cX8_count 154 = .ok (.aload_n 0, 1) := by decide +kernel
theorem dX8_count_155 : decode cX8_count 155 = .ok (.getfield 7, 3) := by decide +kernel
theorem dX8_count_158 : decode cX8_count 158 = .ok (.iconst 1, 1) := by decide +kernel
theorem dX8_count_159 : decode cX8_count 159 = .ok (.invokestatic 196, 3) := by decide +kernel
theorem dX8_count_162 : decode cX8_count 162 = .ok (.iaload, 1) := by decide +kernel
theorem dX8_count_163 : decode cX8_count 163 = .ok (.iadd, 1) := by decide +kernel
theorem dX8_count_164 : decode cX8_count 164 = .ok (.ireturn, 1) := by decide +kernel
theorem dX8_count_165 : decode cX8_count 165 = .ok (.aload_n 0, 1) := by decide +kernel
theorem dX8_count_166 : decode cX8_count 166 = .ok (.getfield 39, 3) := by decide +kernel
theorem dX8_count_169 : decode cX8_count 169 = .ok (.ireturn, 1) := by decide +kernel
theorem dX8_count_170 : decode cX8_count 170 = .ok (.aload_n 0, 1) := by decide +kernel
theorem dX8_count_171 : decode cX8_count 171 = .ok (.getfield 199, 3) := by decide +kernel
theorem dX8_count_174 : decode cX8_count 174 = .ok (.ireturn, 1) := by decide +kernel
theorem dX8_count_175 : decode cX8_count 175 = .ok (.ldc 94, 2) := by decide +kernel
theorem dX8_count_177 : decode cX8_count 177 = .ok (.ireturn, 1) := by decide +kernel
theorem dX8_commissionsFor_0 : decode cX8_commissionsFor 0 = .ok (.iconst 0, 1) := by decide +kernel
theorem dX8_commissionsFor_1 : decode cX8_commissionsFor 1 = .ok (.istore_n 2, 1) := by decide +kernel
theorem dX8_commissionsFor_2 : decode cX8_commissionsFor 2 = .ok (.iconst 0, 1) := by decide +kernel
theorem dX8_commissionsFor_3 : decode cX8_commissionsFor 3 = .ok (.istore_n 3, 1) := by decide +kernel
theorem dX8_commissionsFor_4 : decode cX8_commissionsFor 4 = .ok (.iload_n 3, 1) := by decide +kernel
theorem dX8_commissionsFor_5 : decode cX8_commissionsFor 5 = .ok (.aload_n 0, 1) := by decide +kernel
theorem dX8_commissionsFor_6 : decode cX8_commissionsFor 6 = .ok (.getfield 7, 3) := by decide +kernel
theorem dX8_commissionsFor_9 : decode cX8_commissionsFor 9 = .ok (.iconst 1, 1) := by decide +kernel
theorem dX8_commissionsFor_10 : decode cX8_commissionsFor 10 = .ok (.iaload, 1) := by decide +kernel
theorem dX8_commissionsFor_11 : decode cX8_commissionsFor 11 = .ok (.if_icmp .ge 27, 3) := by decide +kernel
theorem dX8_commissionsFor_14 : decode cX8_commissionsFor 14 = .ok (.iload_n 2, 1) := by decide +kernel
theorem dX8_commissionsFor_15 : decode cX8_commissionsFor 15 = .ok (.aload_n 0, 1) := by decide +kernel
theorem dX8_commissionsFor_16 : decode cX8_commissionsFor 16 = .ok (.iload_n 3, 1) := by decide +kernel
theorem dX8_commissionsFor_17 : decode cX8_commissionsFor 17 = .ok (.iconst 1, 1) := by decide +kernel
theorem dX8_commissionsFor_18 : decode cX8_commissionsFor 18 = .ok (.invokevirtual 127, 3) := by decide +kernel
theorem dX8_commissionsFor_21 : decode cX8_commissionsFor 21 = .ok (.iload_n 1, 1) := by decide +kernel
theorem dX8_commissionsFor_22 : decode cX8_commissionsFor 22 = .ok (.if_icmp .ne 7, 3) := by decide +kernel
theorem dX8_commissionsFor_25 : decode cX8_commissionsFor 25 = .ok (.iconst 1, 1) := by decide +kernel
theorem dX8_commissionsFor_26 : decode cX8_commissionsFor 26 = .ok (.goto 4, 3) := by decide +kernel
theorem dX8_commissionsFor_29 : decode cX8_commissionsFor 29 = .ok (.iconst 0, 1) := by decide +kernel
theorem dX8_commissionsFor_30 : decode cX8_commissionsFor 30 = .ok (.iadd, 1) := by decide +kernel
theorem dX8_commissionsFor_31 : decode cX8_commissionsFor 31 = .ok (.istore_n 2, 1) := by decide +kernel
theorem dX8_commissionsFor_32 : decode cX8_commissionsFor 32 = .ok (.iinc 3 1, 3) := by decide +kernel
theorem dX8_commissionsFor_35 : decode cX8_commissionsFor 35 = .ok (.goto (-31), 3) := by decide +kernel
theorem dX8_commissionsFor_38 : decode cX8_commissionsFor 38 = .ok (.iload_n 2, 1) := by decide +kernel
theorem dX8_commissionsFor_39 : decode cX8_commissionsFor 39 = .ok (.ireturn, 1) := by decide +kernel
theorem dX8_wall_0 : decode cX8_wall 0 = .ok (.aload_n 0, 1) := by decide +kernel
theorem dX8_wall_1 : decode cX8_wall 1 = .ok (.iconst 0, 1) := by decide +kernel
theorem dX8_wall_2 : decode cX8_wall 2 = .ok (.putfield 35, 3) := by decide +kernel
theorem dX8_wall_5 : decode cX8_wall 5 = .ok (.aload_n 0, 1) := by decide +kernel
theorem dX8_wall_6 : decode cX8_wall 6 = .ok (.iload_n 1, 1) := by decide +kernel
theorem dX8_wall_7 : decode cX8_wall 7 = .ok (.invokevirtual 114, 3) := by decide +kernel
theorem dX8_wall_10 : decode cX8_wall 10 = .ok (.ifCond .eq 12, 3) := by decide +kernel
theorem dX8_wall_13 : decode cX8_wall 13 = .ok (.iload_n 2, 1) := by decide +kernel
theorem dX8_wall_14 : decode cX8_wall 14 = .ok (.iconst 0, 1) := by decide +kernel
theorem dX8_wall_15 : decode cX8_wall 15 = .ok (.iconst 3, 1) := by decide +kernel
theorem dX8_wall_16 : decode cX8_wall 16 = .ok (.invokestatic 90, 3) := by decide +kernel
theorem dX8_wall_19 : decode cX8_wall 19 = .ok (.ifCond .ne 6, 3) := by decide +kernel
theorem dX8_wall_22 : decode cX8_wall 22 = .ok (.ldc 94, 2) := by decide +kernel
theorem dX8_wall_24 : decode cX8_wall 24 = .ok (.ireturn, 1) := by decide +kernel
theorem dX8_wall_25 : decode cX8_wall 25 = .ok (.iload_n 2, 1) := by decide +kernel
theorem dX8_wall_26 : decode cX8_wall 26 = .ok (.iconst 2, 1) := by decide +kernel
theorem dX8_wall_27 : decode cX8_wall 27 = .ok (.if_icmp .ge 21, 3) := by decide +kernel
theorem dX8_wall_30 : decode cX8_wall 30 = .ok (.aload_n 0, 1) := by decide +kernel
theorem dX8_wall_31 : decode cX8_wall 31 = .ok (.getfield 7, 3) := by decide +kernel
theorem dX8_wall_34 : decode cX8_wall 34 = .ok (.bipush 20, 2) := by decide +kernel
theorem dX8_wall_36 : decode cX8_wall 36 = .ok (.iconst 3, 1) := by decide +kernel
theorem dX8_wall_37 : decode cX8_wall 37 = .ok (.iload_n 1, 1) := by decide +kernel
theorem dX8_wall_38 : decode cX8_wall 38 = .ok (.imul, 1) := by decide +kernel
theorem dX8_wall_39 : decode cX8_wall 39 = .ok (.iadd, 1) := by decide +kernel
theorem dX8_wall_40 : decode cX8_wall 40 = .ok (.iconst 1, 1) := by decide +kernel
theorem dX8_wall_41 : decode cX8_wall 41 = .ok (.iadd, 1) := by decide +kernel
theorem dX8_wall_42 : decode cX8_wall 42 = .ok (.iload_n 2, 1) := by decide +kernel
theorem dX8_wall_43 : decode cX8_wall 43 = .ok (.iadd, 1) := by decide +kernel
theorem dX8_wall_44 : decode cX8_wall 44 = .ok (.iaload, 1) := by decide +kernel
theorem dX8_wall_45 : decode cX8_wall 45 = .ok (.goto 21, 3) := by decide +kernel
theorem dX8_wall_48 : decode cX8_wall 48 = .ok (.iload_n 2, 1) := by decide +kernel
theorem dX8_wall_49 : decode cX8_wall 49 = .ok (.iconst 2, 1) := by decide +kernel
theorem dX8_wall_50 : decode cX8_wall 50 = .ok (.if_icmp .ne 11, 3) := by decide +kernel
theorem dX8_wall_53 : decode cX8_wall 53 = .ok (.aload_n 0, 1) := by decide +kernel
theorem dX8_wall_54 : decode cX8_wall 54 = .ok (.iload_n 1, 1) := by decide +kernel
theorem dX8_wall_55 : decode cX8_wall 55 = .ok (.invokevirtual 117, 3) := by decide +kernel
theorem dX8_wall_58 : decode cX8_wall 58 = .ok (.goto 8, 3) := by decide +kernel
theorem dX8_wall_61 : decode cX8_wall 61 = .ok (.aload_n 0, 1) := by decide +kernel
theorem dX8_wall_62 : decode cX8_wall 62 = .ok (.iload_n 1, 1) := by decide +kernel
theorem dX8_wall_63 : decode cX8_wall 63 = .ok (.invokevirtual 256, 3) := by decide +kernel
theorem dX8_wall_66 : decode cX8_wall 66 = .ok (.ireturn, 1) := by decide +kernel
theorem dX8_commission_0 : decode cX8_commission 0 = .ok (.aload_n 0, 1) := by decide +kernel
theorem dX8_commission_1 : decode cX8_commission 1 = .ok (.iconst 0, 1) := by decide +kernel
theorem dX8_commission_2 : decode cX8_commission 2 = .ok (.putfield 35, 3) := by decide +kernel
theorem dX8_commission_5 : decode cX8_commission 5 = .ok (.aload_n 0, 1) := by decide +kernel
theorem dX8_commission_6 : decode cX8_commission 6 = .ok (.iload_n 1, 1) := by decide +kernel
theorem dX8_commission_7 : decode cX8_commission 7 = .ok (.invokevirtual 162, 3) := by decide +kernel
theorem dX8_commission_10 : decode cX8_commission 10 = .ok (.ifCond .eq 13, 3) := by decide +kernel
theorem dX8_commission_13 : decode cX8_commission 13 = .ok (.iload_n 2, 1) := by decide +kernel
theorem dX8_commission_14 : decode cX8_commission 14 = .ok (.iconst 0, 1) := by decide +kernel
theorem dX8_commission_15 : decode cX8_commission 15 = .ok (.bipush 8, 2) := by decide +kernel
theorem dX8_commission_17 : decode cX8_commission 17 = .ok (.invokestatic 90, 3) := by decide +kernel
theorem dX8_commission_20 : decode cX8_commission 20 = .ok (.ifCond .ne 6, 3) := by decide +kernel
theorem dX8_commission_23 : decode cX8_commission 23 = .ok (.ldc 94, 2) := by decide +kernel
theorem dX8_commission_25 : decode cX8_commission 25 = .ok (.ireturn, 1) := by decide +kernel
theorem dX8_commission_26 : decode cX8_commission 26 = .ok (.iload_n 2, 1) := by decide +kernel
theorem dX8_commission_27 : decode cX8_commission 27 = .ok (.tableswitch 57 5 8 #[29, 35, 41, 49], 29) := by decide +kernel
theorem dX8_commission_56 : decode cX8_commission 56 = .ok (.aload_n 0, 1) := by decide +kernel
theorem dX8_commission_57 : decode cX8_commission 57 = .ok (.iload_n 1, 1) := by decide +kernel
theorem dX8_commission_58 : decode cX8_commission 58 = .ok (.invokevirtual 130, 3) := by decide +kernel
theorem dX8_commission_61 : decode cX8_commission 61 = .ok (.ireturn, 1) := by decide +kernel
theorem dX8_commission_62 : decode cX8_commission 62 = .ok (.aload_n 0, 1) := by decide +kernel
theorem dX8_commission_63 : decode cX8_commission 63 = .ok (.iload_n 1, 1) := by decide +kernel
theorem dX8_commission_64 : decode cX8_commission 64 = .ok (.invokevirtual 148, 3) := by decide +kernel
theorem dX8_commission_67 : decode cX8_commission 67 = .ok (.ireturn, 1) := by decide +kernel
theorem dX8_commission_68 : decode cX8_commission 68 = .ok (.aload_n 0, 1) := by decide +kernel
theorem dX8_commission_69 : decode cX8_commission 69 = .ok (.iload_n 1, 1) := by decide +kernel
theorem dX8_commission_70 : decode cX8_commission 70 = .ok (.bipush 6, 2) := by decide +kernel
theorem dX8_commission_72 : decode cX8_commission 72 = .ok (.invokevirtual 127, 3) := by decide +kernel
theorem dX8_commission_75 : decode cX8_commission 75 = .ok (.ireturn, 1) := by decide +kernel
theorem dX8_commission_76 : decode cX8_commission 76 = .ok (.aload_n 0, 1) := by decide +kernel
theorem dX8_commission_77 : decode cX8_commission 77 = .ok (.iload_n 1, 1) := by decide +kernel
theorem dX8_commission_78 : decode cX8_commission 78 = .ok (.bipush 7, 2) := by decide +kernel
theorem dX8_commission_80 : decode cX8_commission 80 = .ok (.invokevirtual 127, 3) := by decide +kernel
theorem dX8_commission_83 : decode cX8_commission 83 = .ok (.ireturn, 1) := by decide +kernel
theorem dX8_commission_84 : decode cX8_commission 84 = .ok (.aload_n 0, 1) := by decide +kernel
theorem dX8_commission_85 : decode cX8_commission 85 = .ok (.iload_n 1, 1) := by decide +kernel
theorem dX8_commission_86 : decode cX8_commission 86 = .ok (.iload_n 2, 1) := by decide +kernel
theorem dX8_commission_87 : decode cX8_commission 87 = .ok (.invokevirtual 127, 3) := by decide +kernel
theorem dX8_commission_90 : decode cX8_commission 90 = .ok (.ireturn, 1) := by decide +kernel
theorem dX8_correction_0 : decode cX8_correction 0 = .ok (.aload_n 0, 1) := by decide +kernel
theorem dX8_correction_1 : decode cX8_correction 1 = .ok (.iconst 0, 1) := by decide +kernel
theorem dX8_correction_2 : decode cX8_correction 2 = .ok (.putfield 35, 3) := by decide +kernel
theorem dX8_correction_5 : decode cX8_correction 5 = .ok (.iload_n 1, 1) := by decide +kernel
theorem dX8_correction_6 : decode cX8_correction 6 = .ok (.iconst 0, 1) := by decide +kernel
theorem dX8_correction_7 : decode cX8_correction 7 = .ok (.bipush 11, 2) := by decide +kernel
theorem dX8_correction_9 : decode cX8_correction 9 = .ok (.invokestatic 90, 3) := by decide +kernel
theorem dX8_correction_12 : decode cX8_correction 12 = .ok (.ifCond .eq 15, 3) := by decide +kernel
theorem dX8_correction_15 : decode cX8_correction 15 = .ok (.aload_n 0, 1) := by decide +kernel
theorem dX8_correction_16 : decode cX8_correction 16 = .ok (.getfield 7, 3) := by decide +kernel
theorem dX8_correction_19 : decode cX8_correction 19 = .ok (.bipush 8, 2) := by decide +kernel
theorem dX8_correction_21 : decode cX8_correction 21 = .ok (.iload_n 1, 1) := by decide +kernel
theorem dX8_correction_22 : decode cX8_correction 22 = .ok (.iadd, 1) := by decide +kernel
theorem dX8_correction_23 : decode cX8_correction 23 = .ok (.iaload, 1) := by decide +kernel
theorem dX8_correction_24 : decode cX8_correction 24 = .ok (.goto 5, 3) := by decide +kernel
theorem dX8_correction_27 : decode cX8_correction 27 = .ok (.ldc 94, 2) := by decide +kernel
theorem dX8_correction_29 : decode cX8_correction 29 = .ok (.ireturn, 1) := by decide +kernel
theorem dX8_sine_0 : decode cX8_sine 0 = .ok (.aload_n 0, 1) := by decide +kernel
theorem dX8_sine_1 : decode cX8_sine 1 = .ok (.iconst 0, 1) := by decide +kernel
theorem dX8_sine_2 : decode cX8_sine 2 = .ok (.putfield 35, 3) := by decide +kernel
theorem dX8_sine_5 : decode cX8_sine 5 = .ok (.iload_n 1, 1) := by decide +kernel
theorem dX8_sine_6 : decode cX8_sine 6 = .ok (.sipush (-720), 3) := by decide +kernel
theorem dX8_sine_9 : decode cX8_sine 9 = .ok (.sipush 720, 3) := by decide +kernel
theorem dX8_sine_12 : decode cX8_sine 12 = .ok (.invokestatic 90, 3) := by decide +kernel
theorem dX8_sine_15 : decode cX8_sine 15 = .ok (.ifCond .eq 11, 3) := by decide +kernel
theorem dX8_sine_18 : decode cX8_sine 18 = .ok (.iload_n 1, 1) := by decide +kernel
theorem dX8_sine_19 : decode cX8_sine 19 = .ok (.invokestatic 50, 3) := by decide +kernel
theorem dX8_sine_22 : decode cX8_sine 22 = .ok (.l2i, 1) := by decide +kernel
theorem dX8_sine_23 : decode cX8_sine 23 = .ok (.goto 5, 3) := by decide +kernel
theorem dX8_sine_26 : decode cX8_sine 26 = .ok (.ldc 94, 2) := by decide +kernel
theorem dX8_sine_28 : decode cX8_sine 28 = .ok (.ireturn, 1) := by decide +kernel
theorem dX8_offset_0 : decode cX8_offset 0 = .ok (.aload_n 0, 1) := by decide +kernel
theorem dX8_offset_1 : decode cX8_offset 1 = .ok (.iconst 0, 1) := by decide +kernel
theorem dX8_offset_2 : decode cX8_offset 2 = .ok (.putfield 35, 3) := by decide +kernel
theorem dX8_offset_5 : decode cX8_offset 5 = .ok (.aload_n 0, 1) := by decide +kernel
theorem dX8_offset_6 : decode cX8_offset 6 = .ok (.iload_n 1, 1) := by decide +kernel
theorem dX8_offset_7 : decode cX8_offset 7 = .ok (.invokevirtual 162, 3) := by decide +kernel
theorem dX8_offset_10 : decode cX8_offset 10 = .ok (.ifCond .eq 16, 3) := by decide +kernel
theorem dX8_offset_13 : decode cX8_offset 13 = .ok (.iload_n 2, 1) := by decide +kernel
theorem dX8_offset_14 : decode cX8_offset 14 = .ok (.sipush (-360), 3) := by decide +kernel
theorem dX8_offset_17 : decode cX8_offset 17 = .ok (.sipush 360, 3) := by decide +kernel
theorem dX8_offset_20 : decode cX8_offset 20 = .ok (.invokestatic 90, 3) := by decide +kernel
theorem dX8_offset_23 : decode cX8_offset 23 = .ok (.ifCond .ne 6, 3) := by decide +kernel
theorem dX8_offset_26 : decode cX8_offset 26 = .ok (.ldc 94, 2) := by decide +kernel
theorem dX8_offset_28 : decode cX8_offset 28 = .ok (.ireturn, 1) := by decide +kernel
theorem dX8_offset_29 : decode cX8_offset 29 = .ok (.aload_n 0, 1) := by decide +kernel
theorem dX8_offset_30 : decode cX8_offset 30 = .ok (.iload_n 1, 1) := by decide +kernel
theorem dX8_offset_31 : decode cX8_offset 31 = .ok (.invokevirtual 139, 3) := by decide +kernel
theorem dX8_offset_34 : decode cX8_offset 34 = .ok (.ifCond .ne 6, 3) := by decide +kernel
theorem dX8_offset_37 : decode cX8_offset 37 = .ok (.ldc 165, 2) := by decide +kernel
theorem dX8_offset_39 : decode cX8_offset 39 = .ok (.ireturn, 1) := by decide +kernel
theorem dX8_offset_40 : decode cX8_offset 40 = .ok (.aload_n 0, 1) := by decide +kernel
theorem dX8_offset_41 : decode cX8_offset 41 = .ok (.iload_n 2, 1) := by decide +kernel
theorem dX8_offset_42 : decode cX8_offset 42 = .ok (.invokevirtual 73, 3) := by decide +kernel
theorem dX8_offset_45 : decode cX8_offset 45 = .ok (.ifCond .eq 11, 3) := by decide +kernel
theorem dX8_offset_48 : decode cX8_offset 48 = .ok (.aload_n 0, 1) := by decide +kernel
theorem dX8_offset_49 : decode cX8_offset 49 = .ok (.iload_n 2, 1) := by decide +kernel
theorem dX8_offset_50 : decode cX8_offset 50 = .ok (.invokevirtual 77, 3) := by decide +kernel
theorem dX8_offset_53 : decode cX8_offset 53 = .ok (.goto 5, 3) := by decide +kernel
theorem dX8_offset_56 : decode cX8_offset 56 = .ok (.ldc 83, 2) := by decide +kernel
theorem dX8_offset_58 : decode cX8_offset 58 = .ok (.ireturn, 1) := by decide +kernel
theorem dX8_lines_0 : decode cX8_lines 0 = .ok (.aload_n 0, 1) := by decide +kernel
theorem dX8_lines_1 : decode cX8_lines 1 = .ok (.iconst 0, 1) := by decide +kernel
theorem dX8_lines_2 : decode cX8_lines 2 = .ok (.putfield 35, 3) := by decide +kernel
theorem dX8_lines_5 : decode cX8_lines 5 = .ok (.aload_n 0, 1) := by decide +kernel
theorem dX8_lines_6 : decode cX8_lines 6 = .ok (.iload_n 1, 1) := by decide +kernel
theorem dX8_lines_7 : decode cX8_lines 7 = .ok (.invokevirtual 162, 3) := by decide +kernel
theorem dX8_lines_10 : decode cX8_lines 10 = .ok (.ifCond .eq 12, 3) := by decide +kernel
theorem dX8_lines_13 : decode cX8_lines 13 = .ok (.iload_n 2, 1) := by decide +kernel
theorem dX8_lines_14 : decode cX8_lines 14 = .ok (.iconst 0, 1) := by decide +kernel
theorem dX8_lines_15 : decode cX8_lines 15 = .ok (.iconst 2, 1) := by decide +kernel
theorem dX8_lines_16 : decode cX8_lines 16 = .ok (.invokestatic 90, 3) := by decide +kernel
theorem dX8_lines_19 : decode cX8_lines 19 = .ok (.ifCond .ne 6, 3) := by decide +kernel
theorem dX8_lines_22 : decode cX8_lines 22 = .ok (.ldc 94, 2) := by decide +kernel
theorem dX8_lines_24 : decode cX8_lines 24 = .ok (.ireturn, 1) := by decide +kernel
theorem dX8_lines_25 : decode cX8_lines 25 = .ok (.aload_n 0, 1) := by decide +kernel
theorem dX8_lines_26 : decode cX8_lines 26 = .ok (.iload_n 1, 1) := by decide +kernel
theorem dX8_lines_27 : decode cX8_lines 27 = .ok (.invokevirtual 139, 3) := by decide +kernel
theorem dX8_lines_30 : decode cX8_lines 30 = .ok (.ifCond .ne 6, 3) := by decide +kernel
theorem dX8_lines_33 : decode cX8_lines 33 = .ok (.ldc 165, 2) := by decide +kernel
theorem dX8_lines_35 : decode cX8_lines 35 = .ok (.ireturn, 1) := by decide +kernel
theorem dX8_lines_36 : decode cX8_lines 36 = .ok (.ldc 83, 2) := by decide +kernel
theorem dX8_lines_38 : decode cX8_lines 38 = .ok (.istore_n 3, 1) := by decide +kernel
theorem dX8_lines_39 : decode cX8_lines 39 = .ok (.ldc 83, 2) := by decide +kernel
theorem dX8_lines_41 : decode cX8_lines 41 = .ok (.istore 4, 2) := by decide +kernel
theorem dX8_lines_43 : decode cX8_lines 43 = .ok (.sipush (-360), 3) := by decide +kernel
theorem dX8_lines_46 : decode cX8_lines 46 = .ok (.istore 5, 2) := by decide +kernel
theorem dX8_lines_48 : decode cX8_lines 48 = .ok (.iload 5, 2) := by decide +kernel
theorem dX8_lines_50 : decode cX8_lines 50 = .ok (.sipush 360, 3) := by decide +kernel
theorem dX8_lines_53 : decode cX8_lines 53 = .ok (.if_icmp .gt 49, 3) := by decide +kernel
theorem dX8_lines_56 : decode cX8_lines 56 = .ok (.aload_n 0, 1) := by decide +kernel
theorem dX8_lines_57 : decode cX8_lines 57 = .ok (.iload 5, 2) := by decide +kernel
theorem dX8_lines_59 : decode cX8_lines 59 = .ok (.invokevirtual 73, 3) := by decide +kernel
theorem dX8_lines_62 : decode cX8_lines 62 = .ok (.ifCond .eq 14, 3) := by decide +kernel
theorem dX8_lines_65 : decode cX8_lines 65 = .ok (.iload_n 3, 1) := by decide +kernel
theorem dX8_lines_66 : decode cX8_lines 66 = .ok (.ldc 83, 2) := by decide +kernel
theorem dX8_lines_68 : decode cX8_lines 68 = .ok (.if_icmp .ne 8, 3) := by decide +kernel
theorem dX8_lines_71 : decode cX8_lines 71 = .ok (.iload 5, 2) := by decide +kernel
theorem dX8_lines_73 : decode cX8_lines 73 = .ok (.goto 4, 3) := by decide +kernel
theorem dX8_lines_76 : decode cX8_lines 76 = .ok (.iload_n 3, 1) := by decide +kernel
theorem dX8_lines_77 : decode cX8_lines 77 = .ok (.istore_n 3, 1) := by decide +kernel
theorem dX8_lines_78 : decode cX8_lines 78 = .ok (.aload_n 0, 1) := by decide +kernel
theorem dX8_lines_79 : decode cX8_lines 79 = .ok (.iload 5, 2) := by decide +kernel
theorem dX8_lines_81 : decode cX8_lines 81 = .ok (.invokevirtual 73, 3) := by decide +kernel
theorem dX8_lines_84 : decode cX8_lines 84 = .ok (.ifCond .eq 8, 3) := by decide +kernel
theorem dX8_lines_87 : decode cX8_lines 87 = .ok (.iload 5, 2) := by decide +kernel
theorem dX8_lines_89 : decode cX8_lines 89 = .ok (.goto 5, 3) := by decide +kernel
theorem dX8_lines_92 : decode cX8_lines 92 = .ok (.iload 4, 2) := by decide +kernel
theorem dX8_lines_94 : decode cX8_lines 94 = .ok (.istore 4, 2) := by decide +kernel
theorem dX8_lines_96 : decode cX8_lines 96 = .ok (.iinc 5 60, 3) := by decide +kernel
theorem dX8_lines_99 : decode cX8_lines 99 = .ok (.goto (-51), 3) := by decide +kernel
theorem dX8_lines_102 : decode cX8_lines 102 = .ok (.iload_n 2, 1) := by decide +kernel
theorem dX8_lines_103 : decode cX8_lines 103 = .ok (.ifCond .ne 10, 3) := by decide +kernel
theorem dX8_lines_106 : decode cX8_lines 106 = .ok (.aload_n 0, 1) := by decide +kernel
theorem dX8_lines_107 : decode cX8_lines 107 = .ok (.invokevirtual 142, 3) := by decide +kernel
theorem dX8_lines_110 : decode cX8_lines 110 = .ok (.goto 14, 3) := by decide +kernel
theorem dX8_lines_113 : decode cX8_lines 113 = .ok (.iload_n 2, 1) := by decide +kernel
theorem dX8_lines_114 : decode cX8_lines 114 = .ok (.iconst 1, 1) := by decide +kernel
theorem dX8_lines_115 : decode cX8_lines 115 = .ok (.if_icmp .ne 7, 3) := by decide +kernel
theorem dX8_lines_118 : decode cX8_lines 118 = .ok (.iload_n 3, 1) := by decide +kernel
theorem dX8_lines_119 : decode cX8_lines 119 = .ok (.goto 5, 3) := by decide +kernel
theorem dX8_lines_122 : decode cX8_lines 122 = .ok (.iload 4, 2) := by decide +kernel
theorem dX8_lines_124 : decode cX8_lines 124 = .ok (.ireturn, 1) := by decide +kernel
theorem dX8_read_0 : decode cX8_read 0 = .ok (.aload_n 0, 1) := by decide +kernel
theorem dX8_read_1 : decode cX8_read 1 = .ok (.iconst 0, 1) := by decide +kernel
theorem dX8_read_2 : decode cX8_read 2 = .ok (.putfield 35, 3) := by decide +kernel
theorem dX8_read_5 : decode cX8_read 5 = .ok (.aload_n 0, 1) := by decide +kernel
theorem dX8_read_6 : decode cX8_read 6 = .ok (.iload_n 1, 1) := by decide +kernel
theorem dX8_read_7 : decode cX8_read 7 = .ok (.invokevirtual 162, 3) := by decide +kernel
theorem dX8_read_10 : decode cX8_read 10 = .ok (.ifCond .eq 34, 3) := by decide +kernel
theorem dX8_read_13 : decode cX8_read 13 = .ok (.iload_n 2, 1) := by decide +kernel
theorem dX8_read_14 : decode cX8_read 14 = .ok (.sipush (-3000), 3) := by decide +kernel
theorem dX8_read_17 : decode cX8_read 17 = .ok (.sipush 3000, 3) := by decide +kernel
theorem dX8_read_20 : decode cX8_read 20 = .ok (.invokestatic 90, 3) := by decide +kernel
theorem dX8_read_23 : decode cX8_read 23 = .ok (.ifCond .eq 21, 3) := by decide +kernel
theorem dX8_read_26 : decode cX8_read 26 = .ok (.iload_n 3, 1) := by decide +kernel
theorem dX8_read_27 : decode cX8_read 27 = .ok (.invokestatic 193, 3) := by decide +kernel
theorem dX8_read_30 : decode cX8_read 30 = .ok (.ifCond .eq 14, 3) := by decide +kernel
theorem dX8_read_33 : decode cX8_read 33 = .ok (.iload 4, 2) := by decide +kernel
theorem dX8_read_35 : decode cX8_read 35 = .ok (.iconst (-1), 1) := by decide +kernel
theorem dX8_read_36 : decode cX8_read 36 = .ok (.bipush 11, 2) := by decide +kernel
theorem dX8_read_38 : decode cX8_read 38 = .ok (.invokestatic 90, 3) := by decide +kernel
theorem dX8_read_41 : decode cX8_read 41 = .ok (.ifCond .ne 6, 3) := by decide +kernel
theorem dX8_read_44 : decode cX8_read 44 = .ok (.ldc 94, 2) := by decide +kernel
theorem dX8_read_46 : decode cX8_read 46 = .ok (.ireturn, 1) := by decide +kernel
theorem dX8_read_47 : decode cX8_read 47 = .ok (.aload_n 0, 1) := by decide +kernel
theorem dX8_read_48 : decode cX8_read 48 = .ok (.iload_n 1, 1) := by decide +kernel
theorem dX8_read_49 : decode cX8_read 49 = .ok (.invokevirtual 139, 3) := by decide +kernel
theorem dX8_read_52 : decode cX8_read 52 = .ok (.ifCond .ne 6, 3) := by decide +kernel
theorem dX8_read_55 : decode cX8_read 55 = .ok (.ldc 165, 2) := by decide +kernel
theorem dX8_read_57 : decode cX8_read 57 = .ok (.ireturn, 1) := by decide +kernel
theorem dX8_read_58 : decode cX8_read 58 = .ok (.iload_n 3, 1) := by decide +kernel
theorem dX8_read_59 : decode cX8_read 59 = .ok (.ifCond .ne 11, 3) := by decide +kernel
theorem dX8_read_62 : decode cX8_read 62 = .ok (.aload_n 0, 1) := by decide +kernel
theorem dX8_read_63 : decode cX8_read 63 = .ok (.iload_n 2, 1) := by decide +kernel
theorem dX8_read_64 : decode cX8_read 64 = .ok (.invokevirtual 87, 3) := by decide +kernel
theorem dX8_read_67 : decode cX8_read 67 = .ok (.goto 8, 3) := by decide +kernel
theorem dX8_read_70 : decode cX8_read 70 = .ok (.aload_n 0, 1) := by decide +kernel
theorem dX8_read_71 : decode cX8_read 71 = .ok (.iload_n 2, 1) := by decide +kernel
theorem dX8_read_72 : decode cX8_read 72 = .ok (.invokevirtual 259, 3) := by decide +kernel
theorem dX8_read_75 : decode cX8_read 75 = .ok (.istore 5, 2) := by decide +kernel
theorem dX8_read_77 : decode cX8_read 77 = .ok (.iload 5, 2) := by decide +kernel
theorem dX8_read_79 : decode cX8_read 79 = .ok (.ldc 83, 2) := by decide +kernel
theorem dX8_read_81 : decode cX8_read 81 = .ok (.if_icmp .eq 9, 3) := by decide +kernel
theorem dX8_read_84 : decode cX8_read 84 = .ok (.iload 4, 2) := by decide +kernel
theorem dX8_read_86 : decode cX8_read 86 = .ok (.iconst (-1), 1) := by decide +kernel
theorem dX8_read_87 : decode cX8_read 87 = .ok (.if_icmp .ne 8, 3) := by decide +kernel
theorem dX8_read_90 : decode cX8_read 90 = .ok (.iload 5, 2) := by decide +kernel
theorem dX8_read_92 : decode cX8_read 92 = .ok (.goto 23, 3) := by decide +kernel
theorem dX8_read_95 : decode cX8_read 95 = .ok (.iload 5, 2) := by decide +kernel
theorem dX8_read_97 : decode cX8_read 97 = .ok (.aload_n 0, 1) := by decide +kernel
theorem dX8_read_98 : decode cX8_read 98 = .ok (.getfield 7, 3) := by decide +kernel
theorem dX8_read_101 : decode cX8_read 101 = .ok (.bipush 8, 2) := by decide +kernel
theorem dX8_read_103 : decode cX8_read 103 = .ok (.iload 4, 2) := by decide +kernel
theorem dX8_read_105 : decode cX8_read 105 = .ok (.iadd, 1) := by decide +kernel
theorem dX8_read_106 : decode cX8_read 106 = .ok (.iaload, 1) := by decide +kernel
theorem dX8_read_107 : decode cX8_read 107 = .ok (.iadd, 1) := by decide +kernel
theorem dX8_read_108 : decode cX8_read 108 = .ok (.aload_n 0, 1) := by decide +kernel
theorem dX8_read_109 : decode cX8_read 109 = .ok (.iload_n 1, 1) := by decide +kernel
theorem dX8_read_110 : decode cX8_read 110 = .ok (.iconst 3, 1) := by decide +kernel
theorem dX8_read_111 : decode cX8_read 111 = .ok (.invokevirtual 127, 3) := by decide +kernel
theorem dX8_read_114 : decode cX8_read 114 = .ok (.iadd, 1) := by decide +kernel
theorem dX8_read_115 : decode cX8_read 115 = .ok (.ireturn, 1) := by decide +kernel
theorem dX8_apart_0 : decode cX8_apart 0 = .ok (.aload_n 0, 1) := by decide +kernel
theorem dX8_apart_1 : decode cX8_apart 1 = .ok (.iconst 0, 1) := by decide +kernel
theorem dX8_apart_2 : decode cX8_apart 2 = .ok (.putfield 35, 3) := by decide +kernel
theorem dX8_apart_5 : decode cX8_apart 5 = .ok (.aload_n 0, 1) := by decide +kernel
theorem dX8_apart_6 : decode cX8_apart 6 = .ok (.iload_n 1, 1) := by decide +kernel
theorem dX8_apart_7 : decode cX8_apart 7 = .ok (.invokevirtual 162, 3) := by decide +kernel
theorem dX8_apart_10 : decode cX8_apart 10 = .ok (.ifCond .eq 10, 3) := by decide +kernel
theorem dX8_apart_13 : decode cX8_apart 13 = .ok (.iload_n 2, 1) := by decide +kernel
theorem dX8_apart_14 : decode cX8_apart 14 = .ok (.invokestatic 193, 3) := by decide +kernel
theorem dX8_apart_17 : decode cX8_apart 17 = .ok (.ifCond .ne 6, 3) := by decide +kernel
theorem dX8_apart_20 : decode cX8_apart 20 = .ok (.ldc 94, 2) := by decide +kernel
theorem dX8_apart_22 : decode cX8_apart 22 = .ok (.ireturn, 1) := by decide +kernel
theorem dX8_apart_23 : decode cX8_apart 23 = .ok (.aload_n 0, 1) := by decide +kernel
theorem dX8_apart_24 : decode cX8_apart 24 = .ok (.iload_n 1, 1) := by decide +kernel
theorem dX8_apart_25 : decode cX8_apart 25 = .ok (.invokevirtual 139, 3) := by decide +kernel
theorem dX8_apart_28 : decode cX8_apart 28 = .ok (.ifCond .eq 11, 3) := by decide +kernel
theorem dX8_apart_31 : decode cX8_apart 31 = .ok (.aload_n 0, 1) := by decide +kernel
theorem dX8_apart_32 : decode cX8_apart 32 = .ok (.iload_n 2, 1) := by decide +kernel
theorem dX8_apart_33 : decode cX8_apart 33 = .ok (.invokevirtual 145, 3) := by decide +kernel
theorem dX8_apart_36 : decode cX8_apart 36 = .ok (.goto 5, 3) := by decide +kernel
theorem dX8_apart_39 : decode cX8_apart 39 = .ok (.ldc 165, 2) := by decide +kernel
theorem dX8_apart_41 : decode cX8_apart 41 = .ok (.ireturn, 1) := by decide +kernel
theorem dX8_reason_0 : decode cX8_reason 0 = .ok (.aload_n 0, 1) := by decide +kernel
theorem dX8_reason_1 : decode cX8_reason 1 = .ok (.iconst 0, 1) := by decide +kernel
theorem dX8_reason_2 : decode cX8_reason 2 = .ok (.putfield 35, 3) := by decide +kernel
theorem dX8_reason_5 : decode cX8_reason 5 = .ok (.aload_n 0, 1) := by decide +kernel
theorem dX8_reason_6 : decode cX8_reason 6 = .ok (.iload_n 1, 1) := by decide +kernel
theorem dX8_reason_7 : decode cX8_reason 7 = .ok (.invokevirtual 162, 3) := by decide +kernel
theorem dX8_reason_10 : decode cX8_reason 10 = .ok (.ifCond .eq 11, 3) := by decide +kernel
theorem dX8_reason_13 : decode cX8_reason 13 = .ok (.aload_n 0, 1) := by decide +kernel
theorem dX8_reason_14 : decode cX8_reason 14 = .ok (.iload_n 1, 1) := by decide +kernel
theorem dX8_reason_15 : decode cX8_reason 15 = .ok (.invokevirtual 166, 3) := by decide +kernel
theorem dX8_reason_18 : decode cX8_reason 18 = .ok (.goto 5, 3) := by decide +kernel
theorem dX8_reason_21 : decode cX8_reason 21 = .ok (.ldc 94, 2) := by decide +kernel
theorem dX8_reason_23 : decode cX8_reason 23 = .ok (.ireturn, 1) := by decide +kernel
theorem dX8_bestLatitude_0 : decode cX8_bestLatitude 0 = .ok (.aload_n 0, 1) := by decide +kernel
theorem dX8_bestLatitude_1 : decode cX8_bestLatitude 1 = .ok (.iconst 0, 1) := by decide +kernel
theorem dX8_bestLatitude_2 : decode cX8_bestLatitude 2 = .ok (.putfield 35, 3) := by decide +kernel
theorem dX8_bestLatitude_5 : decode cX8_bestLatitude 5 = .ok (.iload_n 1, 1) := by decide +kernel
theorem dX8_bestLatitude_6 : decode cX8_bestLatitude 6 = .ok (.bipush 100, 2) := by decide +kernel
theorem dX8_bestLatitude_8 : decode cX8_bestLatitude 8 = .ok (.if_icmp .eq 17, 3) := by decide +kernel
theorem dX8_bestLatitude_11 : decode cX8_bestLatitude 11 = .ok (.iload_n 1, 1) := by decide +kernel
theorem dX8_bestLatitude_12 : decode cX8_bestLatitude 12 = .ok (.bipush (-60), 2) := by decide +kernel
theorem dX8_bestLatitude_14 : decode cX8_bestLatitude 14 = .ok (.bipush 60, 2) := by decide +kernel
theorem dX8_bestLatitude_16 : decode cX8_bestLatitude 16 = .ok (.invokestatic 90, 3) := by decide +kernel
theorem dX8_bestLatitude_19 : decode cX8_bestLatitude 19 = .ok (.ifCond .ne 6, 3) := by decide +kernel
theorem dX8_bestLatitude_22 : decode cX8_bestLatitude 22 = .ok (.ldc 94, 2) := by decide +kernel
theorem dX8_bestLatitude_24 : decode cX8_bestLatitude 24 = .ok (.ireturn, 1) := by decide +kernel
theorem dX8_bestLatitude_25 : decode cX8_bestLatitude 25 = .ok (.ldc 83, 2) := by decide +kernel
theorem dX8_bestLatitude_27 : decode cX8_bestLatitude 27 = .ok (.istore_n 2, 1) := by decide +kernel
theorem dX8_bestLatitude_28 : decode cX8_bestLatitude 28 = .ok (.iconst 0, 1) := by decide +kernel
theorem dX8_bestLatitude_29 : decode cX8_bestLatitude 29 = .ok (.istore_n 3, 1) := by decide +kernel
theorem dX8_bestLatitude_30 : decode cX8_bestLatitude 30 = .ok (.bipush 10, 2) := by decide +kernel
theorem dX8_bestLatitude_32 : decode cX8_bestLatitude 32 = .ok (.istore 4, 2) := by decide +kernel
theorem dX8_bestLatitude_34 : decode cX8_bestLatitude 34 = .ok (.iload 4, 2) := by decide +kernel
theorem dX8_bestLatitude_36 : decode cX8_bestLatitude 36 = .ok (.bipush 70, 2) := by decide +kernel
theorem dX8_bestLatitude_38 : decode cX8_bestLatitude 38 = .ok (.if_icmp .gt 76, 3) := by decide +kernel
theorem dX8_bestLatitude_41 : decode cX8_bestLatitude 41 = .ok (.aload_n 0, 1) := by decide +kernel
theorem dX8_bestLatitude_42 : decode cX8_bestLatitude 42 = .ok (.iload 4, 2) := by decide +kernel
theorem dX8_bestLatitude_44 : decode cX8_bestLatitude 44 = .ok (.iload_n 1, 1) := by decide +kernel
theorem dX8_bestLatitude_45 : decode cX8_bestLatitude 45 = .ok (.bipush 100, 2) := by decide +kernel
theorem dX8_bestLatitude_47 : decode cX8_bestLatitude 47 = .ok (.if_icmp .eq 7, 3) := by decide +kernel
theorem dX8_bestLatitude_50 : decode cX8_bestLatitude 50 = .ok (.iconst 1, 1) := by decide +kernel
theorem dX8_bestLatitude_51 : decode cX8_bestLatitude 51 = .ok (.goto 4, 3) := by decide +kernel
theorem dX8_bestLatitude_54 : decode cX8_bestLatitude 54 = .ok (.iconst 0, 1) := by decide +kernel
theorem dX8_bestLatitude_55 : decode cX8_bestLatitude 55 = .ok (.iload_n 1, 1) := by decide +kernel
theorem dX8_bestLatitude_56 : decode cX8_bestLatitude 56 = .ok (.bipush 100, 2) := by decide +kernel
theorem dX8_bestLatitude_58 : decode cX8_bestLatitude 58 = .ok (.if_icmp .ne 7, 3) := by decide +kernel
theorem dX8_bestLatitude_61 : decode cX8_bestLatitude 61 = .ok (.iconst 0, 1) := by decide +kernel
theorem dX8_bestLatitude_62 : decode cX8_bestLatitude 62 = .ok (.goto 4, 3) := by decide +kernel
theorem dX8_bestLatitude_65 : decode cX8_bestLatitude 65 = .ok (.iload_n 1, 1) := by decide +kernel
theorem dX8_bestLatitude_66 : decode cX8_bestLatitude 66 = .ok (.invokevirtual 133, 3) := by decide +kernel
theorem dX8_bestLatitude_69 : decode cX8_bestLatitude 69 = .ok (.aload_n 0, 1) := by decide +kernel
theorem dX8_bestLatitude_70 : decode cX8_bestLatitude 70 = .ok (.iconst 0, 1) := by decide +kernel
theorem dX8_bestLatitude_71 : decode cX8_bestLatitude 71 = .ok (.invokevirtual 145, 3) := by decide +kernel
theorem dX8_bestLatitude_74 : decode cX8_bestLatitude 74 = .ok (.istore 5, 2) := by decide +kernel
theorem dX8_bestLatitude_76 : decode cX8_bestLatitude 76 = .ok (.iload_n 2, 1) := by decide +kernel
theorem dX8_bestLatitude_77 : decode cX8_bestLatitude 77 = .ok (.ldc 83, 2) := by decide +kernel
theorem dX8_bestLatitude_79 : decode cX8_bestLatitude 79 = .ok (.if_icmp .eq 9, 3) := by decide +kernel
theorem dX8_bestLatitude_82 : decode cX8_bestLatitude 82 = .ok (.iload 5, 2) := by decide +kernel
theorem dX8_bestLatitude_84 : decode cX8_bestLatitude 84 = .ok (.iload_n 3, 1) := by decide +kernel
theorem dX8_bestLatitude_85 : decode cX8_bestLatitude 85 = .ok (.if_icmp .ge 8, 3) := by decide +kernel
theorem dX8_bestLatitude_88 : decode cX8_bestLatitude 88 = .ok (.iload 4, 2) := by decide +kernel
theorem dX8_bestLatitude_90 : decode cX8_bestLatitude 90 = .ok (.goto 4, 3) := by decide +kernel
theorem dX8_bestLatitude_93 : decode cX8_bestLatitude 93 = .ok (.iload_n 2, 1) := by decide +kernel
theorem dX8_bestLatitude_94 : decode cX8_bestLatitude 94 = .ok (.istore_n 2, 1) := by decide +kernel
theorem dX8_bestLatitude_95 : decode cX8_bestLatitude 95 = .ok (.iload_n 2, 1) := by decide +kernel
theorem dX8_bestLatitude_96 : decode cX8_bestLatitude 96 = .ok (.iload 4, 2) := by decide +kernel
theorem dX8_bestLatitude_98 : decode cX8_bestLatitude 98 = .ok (.if_icmp .ne 8, 3) := by decide +kernel
theorem dX8_bestLatitude_101 : decode cX8_bestLatitude 101 = .ok (.iload 5, 2) := by decide +kernel
theorem dX8_bestLatitude_103 : decode cX8_bestLatitude 103 = .ok (.goto 4, 3) := by decide +kernel
theorem dX8_bestLatitude_106 : decode cX8_bestLatitude 106 = .ok (.iload_n 3, 1) := by decide +kernel
theorem dX8_bestLatitude_107 : decode cX8_bestLatitude 107 = .ok (.istore_n 3, 1) := by decide +kernel
theorem dX8_bestLatitude_108 : decode cX8_bestLatitude 108 = .ok (.iinc 4 1, 3) := by decide +kernel
theorem dX8_bestLatitude_111 : decode cX8_bestLatitude 111 = .ok (.goto (-77), 3) := by decide +kernel
theorem dX8_bestLatitude_114 : decode cX8_bestLatitude 114 = .ok (.iload_n 2, 1) := by decide +kernel
theorem dX8_bestLatitude_115 : decode cX8_bestLatitude 115 = .ok (.ireturn, 1) := by decide +kernel
theorem dX8_melts_0 : decode cX8_melts 0 = .ok (.aload_n 0, 1) := by decide +kernel
theorem dX8_melts_1 : decode cX8_melts 1 = .ok (.iconst 0, 1) := by decide +kernel
theorem dX8_melts_2 : decode cX8_melts 2 = .ok (.putfield 35, 3) := by decide +kernel
theorem dX8_melts_5 : decode cX8_melts 5 = .ok (.aload_n 0, 1) := by decide +kernel
theorem dX8_melts_6 : decode cX8_melts 6 = .ok (.invokevirtual 175, 3) := by decide +kernel
theorem dX8_melts_9 : decode cX8_melts 9 = .ok (.iconst 0, 1) := by decide +kernel
theorem dX8_melts_10 : decode cX8_melts 10 = .ok (.istore_n 1, 1) := by decide +kernel
theorem dX8_melts_11 : decode cX8_melts 11 = .ok (.aload_n 0, 1) := by decide +kernel
theorem dX8_melts_12 : decode cX8_melts 12 = .ok (.invokevirtual 178, 3) := by decide +kernel
theorem dX8_melts_15 : decode cX8_melts 15 = .ok (.ifCond .le 9, 3) := by decide +kernel
theorem dX8_melts_18 : decode cX8_melts 18 = .ok (.iinc 1 1, 3) := by decide +kernel
theorem dX8_melts_21 : decode cX8_melts 21 = .ok (.goto (-10), 3) := by decide +kernel
theorem dX8_melts_24 : decode cX8_melts 24 = .ok (.iconst 0, 1) := by decide +kernel
theorem dX8_melts_25 : decode cX8_melts 25 = .ok (.istore_n 2, 1) := by decide +kernel
theorem dX8_melts_26 : decode cX8_melts 26 = .ok (.iconst 0, 1) := by decide +kernel
theorem dX8_melts_27 : decode cX8_melts 27 = .ok (.istore_n 3, 1) := by decide +kernel
theorem dX8_melts_28 : decode cX8_melts 28 = .ok (.iload_n 3, 1) := by decide +kernel
theorem dX8_melts_29 : decode cX8_melts 29 = .ok (.aload_n 0, 1) := by decide +kernel
theorem dX8_melts_30 : decode cX8_melts 30 = .ok (.getfield 7, 3) := by decide +kernel
theorem dX8_melts_33 : decode cX8_melts 33 = .ok (.iconst 1, 1) := by decide +kernel
theorem dX8_melts_34 : decode cX8_melts 34 = .ok (.iaload, 1) := by decide +kernel
theorem dX8_melts_35 : decode cX8_melts 35 = .ok (.if_icmp .ge 29, 3) := by decide +kernel
theorem dX8_melts_38 : decode cX8_melts 38 = .ok (.iload_n 2, 1) := by decide +kernel
theorem dX8_melts_39 : decode cX8_melts 39 = .ok (.ifCond .ne 13, 3) := by decide +kernel
theorem dX8_melts_42 : decode cX8_melts 42 = .ok (.aload_n 0, 1) := by decide +kernel
theorem dX8_melts_43 : decode cX8_melts 43 = .ok (.getfield 32, 3) := by decide +kernel
theorem dX8_melts_46 : decode cX8_melts 46 = .ok (.iload_n 3, 1) := by decide +kernel
theorem dX8_melts_47 : decode cX8_melts 47 = .ok (.iaload, 1) := by decide +kernel
theorem dX8_melts_48 : decode cX8_melts 48 = .ok (.iconst 1, 1) := by decide +kernel
theorem dX8_melts_49 : decode cX8_melts 49 = .ok (.if_icmp .ne 7, 3) := by decide +kernel
theorem dX8_melts_52 : decode cX8_melts 52 = .ok (.iconst 1, 1) := by decide +kernel
theorem dX8_melts_53 : decode cX8_melts 53 = .ok (.goto 4, 3) := by decide +kernel
theorem dX8_melts_56 : decode cX8_melts 56 = .ok (.iconst 0, 1) := by decide +kernel
theorem dX8_melts_57 : decode cX8_melts 57 = .ok (.istore_n 2, 1) := by decide +kernel
theorem dX8_melts_58 : decode cX8_melts 58 = .ok (.iinc 3 1, 3) := by decide +kernel
theorem dX8_melts_61 : decode cX8_melts 61 = .ok (.goto (-33), 3) := by decide +kernel
theorem dX8_melts_64 : decode cX8_melts 64 = .ok (.iload_n 2, 1) := by decide +kernel
theorem dX8_melts_65 : decode cX8_melts 65 = .ok (.ifCond .eq 8, 3) := by decide +kernel
theorem dX8_melts_68 : decode cX8_melts 68 = .ok (.ldc 83, 2) := by decide +kernel
theorem dX8_melts_70 : decode cX8_melts 70 = .ok (.goto 4, 3) := by decide +kernel
theorem dX8_melts_73 : decode cX8_melts 73 = .ok (.iload_n 1, 1) := by decide +kernel
theorem dX8_melts_74 : decode cX8_melts 74 = .ok (.ireturn, 1) := by decide +kernel
