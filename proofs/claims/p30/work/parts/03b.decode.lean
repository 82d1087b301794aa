theorem dX0_init_0 : decode cX0_init 0 = .ok (.aload_n 0, 1) := by decide +kernel
theorem dX0_init_1 : decode cX0_init 1 = .ok (.invokespecial 3, 3) := by decide +kernel
theorem dX0_init_4 : decode cX0_init 4 = .ok (.return_, 1) := by decide +kernel
theorem dX0_copyFrom_0 : decode cX0_copyFrom 0 = .ok (.aload_n 0, 1) := by decide +kernel
theorem dX0_copyFrom_1 : decode cX0_copyFrom 1 = .ok (.aload_n 1, 1) := by decide +kernel
theorem dX0_copyFrom_2 : decode cX0_copyFrom 2 = .ok (.getfield 9, 3) := by decide +kernel
theorem dX0_copyFrom_5 : decode cX0_copyFrom 5 = .ok (.putfield 9, 3) := by decide +kernel
theorem dX0_copyFrom_8 : decode cX0_copyFrom 8 = .ok (.aload_n 0, 1) := by decide +kernel
theorem dX0_copyFrom_9 : decode cX0_copyFrom 9 = .ok (.aload_n 1, 1) := by decide +kernel
theorem dX0_copyFrom_10 : decode cX0_copyFrom 10 = .ok (.getfield 15, 3) := by decide +kernel
theorem dX0_copyFrom_13 : decode cX0_copyFrom 13 = .ok (.putfield 15, 3) := by decide +kernel
theorem dX0_copyFrom_16 : decode cX0_copyFrom 16 = .ok (.aload_n 0, 1) := by decide +kernel
theorem dX0_copyFrom_17 : decode cX0_copyFrom 17 = .ok (.aload_n 1, 1) := by decide +kernel
theorem dX0_copyFrom_18 : decode cX0_copyFrom 18 = .ok (.getfield 18, 3) := by decide +kernel
theorem dX0_copyFrom_21 : decode cX0_copyFrom 21 = .ok (.putfield 18, 3) := by decide +kernel
theorem dX0_copyFrom_24 : decode cX0_copyFrom 24 = .ok (.aload_n 0, 1) := by decide +kernel
theorem dX0_copyFrom_25 : decode cX0_copyFrom 25 = .ok (.aload_n 1, 1) := by decide +kernel
theorem dX0_copyFrom_26 : decode cX0_copyFrom 26 = .ok (.getfield 21, 3) := by decide +kernel
theorem dX0_copyFrom_29 : decode cX0_copyFrom 29 = .ok (.putfield 21, 3) := by decide +kernel
theorem dX0_copyFrom_32 : decode cX0_copyFrom 32 = .ok (.aload_n 0, 1) := by decide +kernel
theorem dX0_copyFrom_33 : decode cX0_copyFrom 33 = .ok (.aload_n 1, 1) := by decide +kernel
theorem dX0_copyFrom_34 : decode cX0_copyFrom 34 = .ok (.getfield 24, 3) := by decide +kernel
theorem dX0_copyFrom_37 : decode cX0_copyFrom 37 = .ok (.putfield 24, 3) := by decide +kernel
theorem dX0_copyFrom_40 : decode cX0_copyFrom 40 = .ok (.aload_n 0, 1) := by decide +kernel
theorem dX0_copyFrom_41 : decode cX0_copyFrom 41 = .ok (.aload_n 1, 1) := by decide +kernel
theorem dX0_copyFrom_42 : decode cX0_copyFrom 42 = .ok (.getfield 27, 3) := by decide +kernel
theorem dX0_copyFrom_45 : decode cX0_copyFrom 45 = .ok (.putfield 27, 3) := by decide +kernel
theorem dX0_copyFrom_48 : decode cX0_copyFrom 48 = .ok (.aload_n 0, 1) := by decide +kernel
theorem dX0_copyFrom_49 : decode cX0_copyFrom 49 = .ok (.aload_n 1, 1) := by decide +kernel
theorem dX0_copyFrom_50 : decode cX0_copyFrom 50 = .ok (.getfield 30, 3) := by decide +kernel
theorem dX0_copyFrom_53 : decode cX0_copyFrom 53 = .ok (.putfield 30, 3) := by decide +kernel
theorem dX0_copyFrom_56 : decode cX0_copyFrom 56 = .ok (.aload_n 0, 1) := by decide +kernel
theorem dX0_copyFrom_57 : decode cX0_copyFrom 57 = .ok (.aload_n 1, 1) := by decide +kernel
theorem dX0_copyFrom_58 : decode cX0_copyFrom 58 = .ok (.getfield 33, 3) := by decide +kernel
theorem dX0_copyFrom_61 : decode cX0_copyFrom 61 = .ok (.putfield 33, 3) := by decide +kernel
theorem dX0_copyFrom_64 : decode cX0_copyFrom 64 = .ok (.return_, 1) := by decide +kernel
theorem dX0_weight_0 : decode cX0_weight 0 = .ok (.aload_n 0, 1) := by decide +kernel
theorem dX0_weight_1 : decode cX0_weight 1 = .ok (.getfield 18, 3) := by decide +kernel
theorem dX0_weight_4 : decode cX0_weight 4 = .ok (.aload_n 0, 1) := by decide +kernel
theorem dX0_weight_5 : decode cX0_weight 5 = .ok (.getfield 18, 3) := by decide +kernel
theorem dX0_weight_8 : decode cX0_weight 8 = .ok (.imul, 1) := by decide +kernel
theorem dX0_weight_9 : decode cX0_weight 9 = .ok (.i2l, 1) := by decide +kernel
theorem dX0_weight_10 : decode cX0_weight 10 = .ok (.ldc2_w 36, 3) := by decide +kernel
theorem dX0_weight_13 : decode cX0_weight 13 = .ok (.invokestatic 38, 3) := by decide +kernel
theorem dX0_weight_16 : decode cX0_weight 16 = .ok (.l2i, 1) := by decide +kernel
theorem dX0_weight_17 : decode cX0_weight 17 = .ok (.ireturn, 1) := by decide +kernel
theorem dX0_isByWallNow_0 : decode cX0_isByWallNow 0 = .ok (.aload_n 0, 1) := by decide +kernel
theorem dX0_isByWallNow_1 : decode cX0_isByWallNow 1 = .ok (.getfield 24, 3) := by decide +kernel
theorem dX0_isByWallNow_4 : decode cX0_isByWallNow 4 = .ok (.ifCond .eq 11, 3) := by decide +kernel
theorem dX0_isByWallNow_7 : decode cX0_isByWallNow 7 = .ok (.aload_n 0, 1) := by decide +kernel
theorem dX0_isByWallNow_8 : decode cX0_isByWallNow 8 = .ok (.getfield 24, 3) := by decide +kernel
theorem dX0_isByWallNow_11 : decode cX0_isByWallNow 11 = .ok (.iconst 4, 1) := by decide +kernel
theorem dX0_isByWallNow_12 : decode cX0_isByWallNow 12 = .ok (.if_icmp .ne 7, 3) := by decide +kernel
theorem dX0_isByWallNow_15 : decode cX0_isByWallNow 15 = .ok (.iconst 1, 1) := by decide +kernel
theorem dX0_isByWallNow_16 : decode cX0_isByWallNow 16 = .ok (.goto 4, 3) := by decide +kernel
theorem dX0_isByWallNow_19 : decode cX0_isByWallNow 19 = .ok (.iconst 0, 1) := by decide +kernel
theorem dX0_isByWallNow_20 : decode cX0_isByWallNow 20 = .ok (.ireturn, 1) := by decide +kernel
theorem dX1_init_0 : decode cX1_init 0 = .ok (.aload_n 0, 1) := by decide +kernel
theorem dX1_init_1 : decode cX1_init 1 = .ok (.invokespecial 3, 3) := by decide +kernel
theorem dX1_init_4 : decode cX1_init 4 = .ok (.aload_n 0, 1) := by decide +kernel
theorem dX1_init_5 : decode cX1_init 5 = .ok (.sipush 721, 3) := by decide +kernel
theorem dX1_init_8 : decode cX1_init 8 = .ok (.newarray .int, 2) := by decide +kernel
theorem dX1_init_10 : decode cX1_init 10 = .ok (.putfield 9, 3) := by decide +kernel
theorem dX1_init_13 : decode cX1_init 13 = .ok (.return_, 1) := by decide +kernel
theorem dX1_lay_0 : decode cX1_lay 0 = .ok (.iconst 4, 1) := by decide +kernel
theorem dX1_lay_1 : decode cX1_lay 1 = .ok (.iload_n 2, 1) := by decide +kernel
theorem dX1_lay_2 : decode cX1_lay 2 = .ok (.imul, 1) := by decide +kernel
theorem dX1_lay_3 : decode cX1_lay 3 = .ok (.invokestatic 15, 3) := by decide +kernel
theorem dX1_lay_6 : decode cX1_lay 6 = .ok (.i2l, 1) := by decide +kernel
theorem dX1_lay_7 : decode cX1_lay 7 = .ok (.lstore 4, 2) := by decide +kernel
theorem dX1_lay_9 : decode cX1_lay 9 = .ok (.lload 4, 2) := by decide +kernel
theorem dX1_lay_11 : decode cX1_lay 11 = .ok (.lstore 6, 2) := by decide +kernel
theorem dX1_lay_13 : decode cX1_lay 13 = .ok (.ldc2_w 19, 3) := by decide +kernel
theorem dX1_lay_16 : decode cX1_lay 16 = .ok (.lstore 8, 2) := by decide +kernel
theorem dX1_lay_18 : decode cX1_lay 18 = .ok (.lconst 0, 1) := by decide +kernel
theorem dX1_lay_19 : decode cX1_lay 19 = .ok (.lstore 10, 2) := by decide +kernel
theorem dX1_lay_21 : decode cX1_lay 21 = .ok (.iload_n 1, 1) := by decide +kernel
theorem dX1_lay_22 : decode cX1_lay 22 = .ok (.ifCond .eq 49, 3) := by decide +kernel
theorem dX1_lay_25 : decode cX1_lay 25 = .ok (.ldc2_w 19, 3) := by decide +kernel
theorem dX1_lay_28 : decode cX1_lay 28 = .ok (.sipush 360, 3) := by decide +kernel
theorem dX1_lay_31 : decode cX1_lay 31 = .ok (.iconst 4, 1) := by decide +kernel
theorem dX1_lay_32 : decode cX1_lay 32 = .ok (.iload_n 2, 1) := by decide +kernel
theorem dX1_lay_33 : decode cX1_lay 33 = .ok (.imul, 1) := by decide +kernel
theorem dX1_lay_34 : decode cX1_lay 34 = .ok (.iadd, 1) := by decide +kernel
theorem dX1_lay_35 : decode cX1_lay 35 = .ok (.invokestatic 15, 3) := by decide +kernel
theorem dX1_lay_38 : decode cX1_lay 38 = .ok (.i2l, 1) := by decide +kernel
theorem dX1_lay_39 : decode cX1_lay 39 = .ok (.lmul, 1) := by decide +kernel
theorem dX1_lay_40 : decode cX1_lay 40 = .ok (.lstore 6, 2) := by decide +kernel
theorem dX1_lay_42 : decode cX1_lay 42 = .ok (.ldc2_w 19, 3) := by decide +kernel
theorem dX1_lay_45 : decode cX1_lay 45 = .ok (.sipush 360, 3) := by decide +kernel
theorem dX1_lay_48 : decode cX1_lay 48 = .ok (.iconst 4, 1) := by decide +kernel
theorem dX1_lay_49 : decode cX1_lay 49 = .ok (.iload_n 3, 1) := by decide +kernel
theorem dX1_lay_50 : decode cX1_lay 50 = .ok (.imul, 1) := by decide +kernel
theorem dX1_lay_51 : decode cX1_lay 51 = .ok (.iadd, 1) := by decide +kernel
theorem dX1_lay_52 : decode cX1_lay 52 = .ok (.invokestatic 15, 3) := by decide +kernel
theorem dX1_lay_55 : decode cX1_lay 55 = .ok (.i2l, 1) := by decide +kernel
theorem dX1_lay_56 : decode cX1_lay 56 = .ok (.lmul, 1) := by decide +kernel
theorem dX1_lay_57 : decode cX1_lay 57 = .ok (.lstore 8, 2) := by decide +kernel
theorem dX1_lay_59 : decode cX1_lay 59 = .ok (.iconst 4, 1) := by decide +kernel
theorem dX1_lay_60 : decode cX1_lay 60 = .ok (.iload_n 3, 1) := by decide +kernel
theorem dX1_lay_61 : decode cX1_lay 61 = .ok (.imul, 1) := by decide +kernel
theorem dX1_lay_62 : decode cX1_lay 62 = .ok (.invokestatic 15, 3) := by decide +kernel
theorem dX1_lay_65 : decode cX1_lay 65 = .ok (.i2l, 1) := by decide +kernel
theorem dX1_lay_66 : decode cX1_lay 66 = .ok (.lload 4, 2) := by decide +kernel
theorem dX1_lay_68 : decode cX1_lay 68 = .ok (.lmul, 1) := by decide +kernel
theorem dX1_lay_69 : decode cX1_lay 69 = .ok (.lstore 10, 2) := by decide +kernel
theorem dX1_lay_71 : decode cX1_lay 71 = .ok (.sipush (-360), 3) := by decide +kernel
theorem dX1_lay_74 : decode cX1_lay 74 = .ok (.istore 12, 2) := by decide +kernel
theorem dX1_lay_76 : decode cX1_lay 76 = .ok (.iload 12, 2) := by decide +kernel
theorem dX1_lay_78 : decode cX1_lay 78 = .ok (.sipush 360, 3) := by decide +kernel
theorem dX1_lay_81 : decode cX1_lay 81 = .ok (.if_icmp .gt 59, 3) := by decide +kernel
theorem dX1_lay_84 : decode cX1_lay 84 = .ok (.iload 12, 2) := by decide +kernel
theorem dX1_lay_86 : decode cX1_lay 86 = .ok (.invokestatic 15, 3) := by decide +kernel
theorem dX1_lay_89 : decode cX1_lay 89 = .ok (.i2l, 1) := by decide +kernel
theorem dX1_lay_90 : decode cX1_lay 90 = .ok (.lstore 13, 2) := by decide +kernel
theorem dX1_lay_92 : decode cX1_lay 92 = .ok (.sipush 360, 3) := by decide +kernel
theorem dX1_lay_95 : decode cX1_lay 95 = .ok (.iload 12, 2) := by decide +kernel
theorem dX1_lay_97 : decode cX1_lay 97 = .ok (.iadd, 1) := by decide +kernel
theorem dX1_lay_98 : decode cX1_lay 98 = .ok (.invokestatic 15, 3) := by decide +kernel
theorem dX1_lay_101 : decode cX1_lay 101 = .ok (.i2l, 1) := by decide +kernel
theorem dX1_lay_102 : decode cX1_lay 102 = .ok (.lstore 15, 2) := by decide +kernel
theorem dX1_lay_104 : decode cX1_lay 104 = .ok (.aload_n 0, 1) := by decide +kernel
theorem dX1_lay_105 : decode cX1_lay 105 = .ok (.getfield 9, 3) := by decide +kernel
theorem dX1_lay_108 : decode cX1_lay 108 = .ok (.iload 12, 2) := by decide +kernel
theorem dX1_lay_110 : decode cX1_lay 110 = .ok (.sipush 360, 3) := by decide +kernel
theorem dX1_lay_113 : decode cX1_lay 113 = .ok (.iadd, 1) := by decide +kernel
theorem dX1_lay_114 : decode cX1_lay 114 = .ok (.lload 6, 2) := by decide +kernel
theorem dX1_lay_116 : decode cX1_lay 116 = .ok (.lload 13, 2) := by decide +kernel
theorem dX1_lay_118 : decode cX1_lay 118 = .ok (.lmul, 1) := by decide +kernel
theorem dX1_lay_119 : decode cX1_lay 119 = .ok (.lload 8, 2) := by decide +kernel
theorem dX1_lay_121 : decode cX1_lay 121 = .ok (.lload 15, 2) := by decide +kernel
theorem dX1_lay_123 : decode cX1_lay 123 = .ok (.lmul, 1) := by decide +kernel
theorem dX1_lay_124 : decode cX1_lay 124 = .ok (.lload 10, 2) := by decide +kernel
theorem dX1_lay_126 : decode cX1_lay 126 = .ok (.lload 13, 2) := by decide +kernel
theorem dX1_lay_128 : decode cX1_lay 128 = .ok (.lmul, 1) := by decide +kernel
theorem dX1_lay_129 : decode cX1_lay 129 = .ok (.ladd, 1) := by decide +kernel
theorem dX1_lay_130 : decode cX1_lay 130 = .ok (.invokestatic 21, 3) := by decide +kernel
theorem dX1_lay_133 : decode cX1_lay 133 = .ok (.iastore, 1) := by decide +kernel
theorem dX1_lay_134 : decode cX1_lay 134 = .ok (.iinc 12 1, 3) := by decide +kernel
theorem dX1_lay_137 : decode cX1_lay 137 = .ok (.goto (-61), 3) := by decide +kernel
theorem dX1_lay_140 : decode cX1_lay 140 = .ok (.return_, 1) := by decide +kernel
theorem dX1_offsetOfShadow_0 : decode cX1_offsetOfShadow 0 = .ok (.lload_n 2, 1) := by decide +kernel
theorem dX1_offsetOfShadow_1 : decode cX1_offsetOfShadow 1 = .ok (.lconst 0, 1) := by decide +kernel
theorem dX1_offsetOfShadow_2 : decode cX1_offsetOfShadow 2 = .ok (.lcmp, 1) := by decide +kernel
theorem dX1_offsetOfShadow_3 : decode cX1_offsetOfShadow 3 = .ok (.ifCond .gt 6, 3) := by decide +kernel
theorem dX1_offsetOfShadow_6 : decode cX1_offsetOfShadow 6 = .ok (.ldc 25, 2) := by decide +kernel
theorem dX1_offsetOfShadow_8 : decode cX1_offsetOfShadow 8 = .ok (.ireturn, 1) := by decide +kernel
theorem dX1_offsetOfShadow_9 : decode cX1_offsetOfShadow 9 = .ok (.ldc2_w 26, 3) := by decide +kernel
theorem dX1_offsetOfShadow_12 : decode cX1_offsetOfShadow 12 = .ok (.lload_n 0, 1) := by decide +kernel
theorem dX1_offsetOfShadow_13 : decode cX1_offsetOfShadow 13 = .ok (.lmul, 1) := by decide +kernel
theorem dX1_offsetOfShadow_14 : decode cX1_offsetOfShadow 14 = .ok (.lload_n 2, 1) := by decide +kernel
theorem dX1_offsetOfShadow_15 : decode cX1_offsetOfShadow 15 = .ok (.invokestatic 28, 3) := by decide +kernel
theorem dX1_offsetOfShadow_18 : decode cX1_offsetOfShadow 18 = .ok (.lstore 4, 2) := by decide +kernel
theorem dX1_offsetOfShadow_20 : decode cX1_offsetOfShadow 20 = .ok (.lload 4, 2) := by decide +kernel
theorem dX1_offsetOfShadow_22 : decode cX1_offsetOfShadow 22 = .ok (.ldc2_w 32, 3) := by decide +kernel
theorem dX1_offsetOfShadow_25 : decode cX1_offsetOfShadow 25 = .ok (.lcmp, 1) := by decide +kernel
theorem dX1_offsetOfShadow_26 : decode cX1_offsetOfShadow 26 = .ok (.ifCond .lt 12, 3) := by decide +kernel
theorem dX1_offsetOfShadow_29 : decode cX1_offsetOfShadow 29 = .ok (.lload 4, 2) := by decide +kernel
theorem dX1_offsetOfShadow_31 : decode cX1_offsetOfShadow 31 = .ok (.ldc2_w 34, 3) := by decide +kernel
theorem dX1_offsetOfShadow_34 : decode cX1_offsetOfShadow 34 = .ok (.lcmp, 1) := by decide +kernel
theorem dX1_offsetOfShadow_35 : decode cX1_offsetOfShadow 35 = .ok (.ifCond .le 8, 3) := by decide +kernel
theorem dX1_offsetOfShadow_38 : decode cX1_offsetOfShadow 38 = .ok (.ldc 25, 2) := by decide +kernel
theorem dX1_offsetOfShadow_40 : decode cX1_offsetOfShadow 40 = .ok (.goto 6, 3) := by decide +kernel
theorem dX1_offsetOfShadow_43 : decode cX1_offsetOfShadow 43 = .ok (.lload 4, 2) := by decide +kernel
theorem dX1_offsetOfShadow_45 : decode cX1_offsetOfShadow 45 = .ok (.l2i, 1) := by decide +kernel
theorem dX1_offsetOfShadow_46 : decode cX1_offsetOfShadow 46 = .ok (.ireturn, 1) := by decide +kernel
theorem dX1_offsetAt_0 : decode cX1_offsetAt 0 = .ok (.iload_n 1, 1) := by decide +kernel
theorem dX1_offsetAt_1 : decode cX1_offsetAt 1 = .ok (.sipush (-360), 3) := by decide +kernel
theorem dX1_offsetAt_4 : decode cX1_offsetAt 4 = .ok (.sipush 360, 3) := by decide +kernel
theorem dX1_offsetAt_7 : decode cX1_offsetAt 7 = .ok (.invokestatic 36, 3) := by decide +kernel
theorem dX1_offsetAt_10 : decode cX1_offsetAt 10 = .ok (.ifCond .ne 6, 3) := by decide +kernel
theorem dX1_offsetAt_13 : decode cX1_offsetAt 13 = .ok (.ldc 25, 2) := by decide +kernel
theorem dX1_offsetAt_15 : decode cX1_offsetAt 15 = .ok (.ireturn, 1) := by decide +kernel
theorem dX1_offsetAt_16 : decode cX1_offsetAt 16 = .ok (.aload_n 0, 1) := by decide +kernel
theorem dX1_offsetAt_17 : decode cX1_offsetAt 17 = .ok (.getfield 9, 3) := by decide +kernel
theorem dX1_offsetAt_20 : decode cX1_offsetAt 20 = .ok (.iload_n 1, 1) := by decide +kernel
theorem dX1_offsetAt_21 : decode cX1_offsetAt 21 = .ok (.sipush 360, 3) := by decide +kernel
theorem dX1_offsetAt_24 : decode cX1_offsetAt 24 = .ok (.iadd, 1) := by decide +kernel
theorem dX1_offsetAt_25 : decode cX1_offsetAt 25 = .ok (.iaload, 1) := by decide +kernel
theorem dX1_offsetAt_26 : decode cX1_offsetAt 26 = .ok (.ireturn, 1) := by decide +kernel
theorem dX1_countLines_0 : decode cX1_countLines 0 = .ok (.iconst 0, 1) := by decide +kernel
theorem dX1_countLines_1 : decode cX1_countLines 1 = .ok (.istore_n 1, 1) := by decide +kernel
theorem dX1_countLines_2 : decode cX1_countLines 2 = .ok (.sipush (-360), 3) := by decide +kernel
theorem dX1_countLines_5 : decode cX1_countLines 5 = .ok (.istore_n 2, 1) := by decide +kernel
theorem dX1_countLines_6 : decode cX1_countLines 6 = .ok (.iload_n 2, 1) := by decide +kernel
theorem dX1_countLines_7 : decode cX1_countLines 7 = .ok (.sipush 360, 3) := by decide +kernel
theorem dX1_countLines_10 : decode cX1_countLines 10 = .ok (.if_icmp .gt 22, 3) := by decide +kernel
theorem dX1_countLines_13 : decode cX1_countLines 13 = .ok (.aload_n 0, 1) := by decide +kernel
theorem dX1_countLines_14 : decode cX1_countLines 14 = .ok (.iload_n 2, 1) := by decide +kernel
theorem dX1_countLines_15 : decode cX1_countLines 15 = .ok (.invokevirtual 40, 3) := by decide +kernel
theorem dX1_countLines_18 : decode cX1_countLines 18 = .ok (.ldc 25, 2) := by decide +kernel
theorem dX1_countLines_20 : decode cX1_countLines 20 = .ok (.if_icmp .eq 6, 3) := by decide +kernel
theorem dX1_countLines_23 : decode cX1_countLines 23 = .ok (.iinc 1 1, 3) := by decide +kernel
theorem dX1_countLines_26 : decode cX1_countLines 26 = .ok (.iinc 2 60, 3) := by decide +kernel
theorem dX1_countLines_29 : decode cX1_countLines 29 = .ok (.goto (-23), 3) := by decide +kernel
theorem dX1_countLines_32 : decode cX1_countLines 32 = .ok (.iload_n 1, 1) := by decide +kernel
theorem dX1_countLines_33 : decode cX1_countLines 33 = .ok (.ireturn, 1) := by decide +kernel
theorem dX1_firstLine_0 : decode cX1_firstLine 0 = .ok (.sipush (-360), 3) := by decide +kernel
theorem dX1_firstLine_3 : decode cX1_firstLine 3 = .ok (.istore_n 1, 1) := by decide +kernel
theorem dX1_firstLine_4 : decode cX1_firstLine 4 = .ok (.iload_n 1, 1) := by decide +kernel
theorem dX1_firstLine_5 : decode cX1_firstLine 5 = .ok (.sipush 360, 3) := by decide +kernel
theorem dX1_firstLine_8 : decode cX1_firstLine 8 = .ok (.if_icmp .gt 21, 3) := by decide +kernel
theorem dX1_firstLine_11 : decode cX1_firstLine 11 = .ok (.aload_n 0, 1) := by decide +kernel
theorem dX1_firstLine_12 : decode cX1_firstLine 12 = .ok (.iload_n 1, 1) := by decide +kernel
theorem dX1_firstLine_13 : decode cX1_firstLine 13 = .ok (.invokevirtual 40, 3) := by decide +kernel
theorem dX1_firstLine_16 : decode cX1_firstLine 16 = .ok (.ldc 25, 2) := by decide +kernel
theorem dX1_firstLine_18 : decode cX1_firstLine 18 = .ok (.if_icmp .eq 5, 3) := by decide +kernel
theorem dX1_firstLine_21 : decode cX1_firstLine 21 = .ok (.iload_n 1, 1) := by decide +kernel
theorem dX1_firstLine_22 : decode cX1_firstLine 22 = .ok (.ireturn, 1) := by decide +kernel
theorem dX1_firstLine_23 : decode cX1_firstLine 23 = .ok (.iinc 1 60, 3) := by decide +kernel
theorem dX1_firstLine_26 : decode cX1_firstLine 26 = .ok (.goto (-22), 3) := by decide +kernel
theorem dX1_firstLine_29 : decode cX1_firstLine 29 = .ok (.ldc 25, 2) := by decide +kernel
theorem dX1_firstLine_31 : decode cX1_firstLine 31 = .ok (.ireturn, 1) := by decide +kernel
theorem dX1_lastLine_0 : decode cX1_lastLine 0 = .ok (.sipush 360, 3) := by decide +kernel
theorem dX1_lastLine_3 : decode cX1_lastLine 3 = .ok (.istore_n 1, 1) := by decide +kernel
theorem dX1_lastLine_4 : decode cX1_lastLine 4 = .ok (.iload_n 1, 1) := by decide +kernel
theorem dX1_lastLine_5 : decode cX1_lastLine 5 = .ok (.sipush (-360), 3) := by decide +kernel
theorem dX1_lastLine_8 : decode cX1_lastLine 8 = .ok (.if_icmp .lt 21, 3) := by decide +kernel
theorem dX1_lastLine_11 : decode cX1_lastLine 11 = .ok (.aload_n 0, 1) := by decide +kernel
theorem dX1_lastLine_12 : decode cX1_lastLine 12 = .ok (.iload_n 1, 1) := by decide +kernel
theorem dX1_lastLine_13 : decode cX1_lastLine 13 = .ok (.invokevirtual 40, 3) := by decide +kernel
theorem dX1_lastLine_16 : decode cX1_lastLine 16 = .ok (.ldc 25, 2) := by decide +kernel
theorem dX1_lastLine_18 : decode cX1_lastLine 18 = .ok (.if_icmp .eq 5, 3) := by decide +kernel
theorem dX1_lastLine_21 : decode cX1_lastLine 21 = .ok (.iload_n 1, 1) := by decide +kernel
theorem dX1_lastLine_22 : decode cX1_lastLine 22 = .ok (.ireturn, 1) := by decide +kernel
theorem dX1_lastLine_23 : decode cX1_lastLine 23 = .ok (.iinc 1 (-60), 3) := by decide +kernel
theorem dX1_lastLine_26 : decode cX1_lastLine 26 = .ok (.goto (-22), 3) := by decide +kernel
theorem dX1_lastLine_29 : decode cX1_lastLine 29 = .ok (.ldc 25, 2) := by decide +kernel
theorem dX1_lastLine_31 : decode cX1_lastLine 31 = .ok (.ireturn, 1) := by decide +kernel
theorem dX1_readingByLines_0 : decode cX1_readingByLines 0 = .ok (.sipush (-360), 3) := by decide +kernel
theorem dX1_readingByLines_3 : decode cX1_readingByLines 3 = .ok (.istore_n 2, 1) := by decide +kernel
theorem dX1_readingByLines_4 : decode cX1_readingByLines 4 = .ok (.iload_n 2, 1) := by decide +kernel
theorem dX1_readingByLines_5 : decode cX1_readingByLines 5 = .ok (.sipush 360, 3) := by decide +kernel
theorem dX1_readingByLines_8 : decode cX1_readingByLines 8 = .ok (.if_icmp .ge 81, 3) := by decide +kernel
theorem dX1_readingByLines_11 : decode cX1_readingByLines 11 = .ok (.aload_n 0, 1) := by decide +kernel
theorem dX1_readingByLines_12 : decode cX1_readingByLines 12 = .ok (.iload_n 2, 1) := by decide +kernel
theorem dX1_readingByLines_13 : decode cX1_readingByLines 13 = .ok (.invokevirtual 40, 3) := by decide +kernel
theorem dX1_readingByLines_16 : decode cX1_readingByLines 16 = .ok (.istore_n 3, 1) := by decide +kernel
theorem dX1_readingByLines_17 : decode cX1_readingByLines 17 = .ok (.aload_n 0, 1) := by decide +kernel
theorem dX1_readingByLines_18 : decode cX1_readingByLines 18 = .ok (.iload_n 2, 1) := by decide +kernel
theorem dX1_readingByLines_19 : decode cX1_readingByLines 19 = .ok (.bipush 60, 2) := by decide +kernel
theorem dX1_readingByLines_21 : decode cX1_readingByLines 21 = .ok (.iadd, 1) := by decide +kernel
theorem dX1_readingByLines_22 : decode cX1_readingByLines 22 = .ok (.invokevirtual 40, 3) := by decide +kernel
theorem dX1_readingByLines_25 : decode cX1_readingByLines 25 = .ok (.istore 4, 2) := by decide +kernel
theorem dX1_readingByLines_27 : decode cX1_readingByLines 27 = .ok (.iload_n 3, 1) := by decide +kernel
theorem dX1_readingByLines_28 : decode cX1_readingByLines 28 = .ok (.ldc 25, 2) := by decide +kernel
theorem dX1_readingByLines_30 : decode cX1_readingByLines 30 = .ok (.if_icmp .eq 53, 3) := by decide +kernel
theorem dX1_readingByLines_33 : decode cX1_readingByLines 33 = .ok (.iload 4, 2) := by decide +kernel
theorem dX1_readingByLines_35 : decode cX1_readingByLines 35 = .ok (.ldc 25, 2) := by decide +kernel
theorem dX1_readingByLines_37 : decode cX1_readingByLines 37 = .ok (.if_icmp .eq 46, 3) := by decide +kernel
theorem dX1_readingByLines_40 : decode cX1_readingByLines 40 = .ok (.iload_n 3, 1) := by decide +kernel
theorem dX1_readingByLines_41 : decode cX1_readingByLines 41 = .ok (.iload_n 1, 1) := by decide +kernel
theorem dX1_readingByLines_42 : decode cX1_readingByLines 42 = .ok (.if_icmp .gt 41, 3) := by decide +kernel
theorem dX1_readingByLines_45 : decode cX1_readingByLines 45 = .ok (.iload 4, 2) := by decide +kernel
theorem dX1_readingByLines_47 : decode cX1_readingByLines 47 = .ok (.iload_n 1, 1) := by decide +kernel
theorem dX1_readingByLines_48 : decode cX1_readingByLines 48 = .ok (.if_icmp .ge 6, 3) := by decide +kernel
theorem dX1_readingByLines_51 : decode cX1_readingByLines 51 = .ok (.goto 32, 3) := by decide +kernel
theorem dX1_readingByLines_54 : decode cX1_readingByLines 54 = .ok (.iload_n 3, 1) := by decide +kernel
theorem dX1_readingByLines_55 : decode cX1_readingByLines 55 = .ok (.iload 4, 2) := by decide +kernel
theorem dX1_readingByLines_57 : decode cX1_readingByLines 57 = .ok (.if_icmp .ne 7, 3) := by decide +kernel
theorem dX1_readingByLines_60 : decode cX1_readingByLines 60 = .ok (.iload_n 2, 1) := by decide +kernel
theorem dX1_readingByLines_61 : decode cX1_readingByLines 61 = .ok (.goto 21, 3) := by decide +kernel
theorem dX1_readingByLines_64 : decode cX1_readingByLines 64 = .ok (.iload_n 2, 1) := by decide +kernel
theorem dX1_readingByLines_65 : decode cX1_readingByLines 65 = .ok (.bipush 60, 2) := by decide +kernel
theorem dX1_readingByLines_67 : decode cX1_readingByLines 67 = .ok (.iload_n 1, 1) := by decide +kernel
theorem dX1_readingByLines_68 : decode cX1_readingByLines 68 = .ok (.iload_n 3, 1) := by decide +kernel
theorem dX1_readingByLines_69 : decode cX1_readingByLines 69 = .ok (.isub, 1) := by decide +kernel
theorem dX1_readingByLines_70 : decode cX1_readingByLines 70 = .ok (.imul, 1) := by decide +kernel
theorem dX1_readingByLines_71 : decode cX1_readingByLines 71 = .ok (.i2l, 1) := by decide +kernel
theorem dX1_readingByLines_72 : decode cX1_readingByLines 72 = .ok (.iload 4, 2) := by decide +kernel
theorem dX1_readingByLines_74 : decode cX1_readingByLines 74 = .ok (.iload_n 3, 1) := by decide +kernel
theorem dX1_readingByLines_75 : decode cX1_readingByLines 75 = .ok (.isub, 1) := by decide +kernel
theorem dX1_readingByLines_76 : decode cX1_readingByLines 76 = .ok (.i2l, 1) := by decide +kernel
theorem dX1_readingByLines_77 : decode cX1_readingByLines 77 = .ok (.invokestatic 28, 3) := by decide +kernel
theorem dX1_readingByLines_80 : decode cX1_readingByLines 80 = .ok (.l2i, 1) := by decide +kernel
theorem dX1_readingByLines_81 : decode cX1_readingByLines 81 = .ok (.iadd, 1) := by decide +kernel
theorem dX1_readingByLines_82 : decode cX1_readingByLines 82 = .ok (.ireturn, 1) := by decide +kernel
theorem dX1_readingByLines_83 : decode cX1_readingByLines 83 = .ok (.iinc 2 60, 3) := by decide +kernel
theorem dX1_readingByLines_86 : decode cX1_readingByLines 86 = .ok (.goto (-82), 3) := by decide +kernel
theorem dX1_readingByLines_89 : decode cX1_readingByLines 89 = .ok (.ldc 25, 2) := by decide +kernel
theorem dX1_readingByLines_91 : decode cX1_readingByLines 91 = .ok (.ireturn, 1) := by decide +kernel
theorem dX1_readingByShadow_0 : decode cX1_readingByShadow 0 = .ok (.ldc 25, 2) := by decide +kernel
theorem dX1_readingByShadow_2 : decode cX1_readingByShadow 2 = .ok (.istore_n 2, 1) := by decide +kernel
theorem dX1_readingByShadow_3 : decode cX1_readingByShadow 3 = .ok (.iconst 0, 1) := by decide +kernel
theorem dX1_readingByShadow_4 : decode cX1_readingByShadow 4 = .ok (.istore_n 3, 1) := by decide +kernel
theorem dX1_readingByShadow_5 : decode cX1_readingByShadow 5 = .ok (.sipush (-360), 3) := by decide +kernel
theorem dX1_readingByShadow_8 : decode cX1_readingByShadow 8 = .ok (.istore 4, 2) := by decide +kernel
theorem dX1_readingByShadow_10 : decode cX1_readingByShadow 10 = .ok (.iload 4, 2) := by decide +kernel
theorem dX1_readingByShadow_12 : decode cX1_readingByShadow 12 = .ok (.sipush 360, 3) := by decide +kernel
theorem dX1_readingByShadow_15 : decode cX1_readingByShadow 15 = .ok (.if_icmp .gt 54, 3) := by decide +kernel
theorem dX1_readingByShadow_18 : decode cX1_readingByShadow 18 = .ok (.aload_n 0, 1) := by decide +kernel
theorem dX1_readingByShadow_19 : decode cX1_readingByShadow 19 = .ok (.iload 4, 2) := by decide +kernel
theorem dX1_readingByShadow_21 : decode cX1_readingByShadow 21 = .ok (.invokevirtual 40, 3) := by decide +kernel
theorem dX1_readingByShadow_24 : decode cX1_readingByShadow 24 = .ok (.istore 5, 2) := by decide +kernel
theorem dX1_readingByShadow_26 : decode cX1_readingByShadow 26 = .ok (.iload 5, 2) := by decide +kernel
theorem dX1_readingByShadow_28 : decode cX1_readingByShadow 28 = .ok (.ldc 25, 2) := by decide +kernel
theorem dX1_readingByShadow_30 : decode cX1_readingByShadow 30 = .ok (.if_icmp .ne 6, 3) := by decide +kernel
theorem dX1_readingByShadow_33 : decode cX1_readingByShadow 33 = .ok (.goto 30, 3) := by decide +kernel
theorem dX1_readingByShadow_36 : decode cX1_readingByShadow 36 = .ok (.iload 5, 2) := by decide +kernel
theorem dX1_readingByShadow_38 : decode cX1_readingByShadow 38 = .ok (.iload_n 1, 1) := by decide +kernel
theorem dX1_readingByShadow_39 : decode cX1_readingByShadow 39 = .ok (.isub, 1) := by decide +kernel
theorem dX1_readingByShadow_40 : decode cX1_readingByShadow 40 = .ok (.invokestatic 43, 3) := by decide +kernel
theorem dX1_readingByShadow_43 : decode cX1_readingByShadow 43 = .ok (.istore 6, 2) := by decide +kernel
theorem dX1_readingByShadow_45 : decode cX1_readingByShadow 45 = .ok (.iload_n 2, 1) := by decide +kernel
theorem dX1_readingByShadow_46 : decode cX1_readingByShadow 46 = .ok (.ldc 25, 2) := by decide +kernel
theorem dX1_readingByShadow_48 : decode cX1_readingByShadow 48 = .ok (.if_icmp .eq 9, 3) := by decide +kernel
theorem dX1_readingByShadow_51 : decode cX1_readingByShadow 51 = .ok (.iload 6, 2) := by decide +kernel
theorem dX1_readingByShadow_53 : decode cX1_readingByShadow 53 = .ok (.iload_n 3, 1) := by decide +kernel
theorem dX1_readingByShadow_54 : decode cX1_readingByShadow 54 = .ok (.if_icmp .ge 9, 3) := by decide +kernel
theorem dX1_readingByShadow_57 : decode cX1_readingByShadow 57 = .ok (.iload 6, 2) := by decide +kernel
theorem dX1_readingByShadow_59 : decode cX1_readingByShadow 59 = .ok (.istore_n 3, 1) := by decide +kernel
theorem dX1_readingByShadow_60 : decode cX1_readingByShadow 60 = .ok (.iload 4, 2) := by decide +kernel
theorem dX1_readingByShadow_62 : decode cX1_readingByShadow 62 = .ok (.istore_n 2, 1) := by decide +kernel
theorem dX1_readingByShadow_63 : decode cX1_readingByShadow 63 = .ok (.iinc 4 1, 3) := by decide +kernel
theorem dX1_readingByShadow_66 : decode cX1_readingByShadow 66 = .ok (.goto (-56), 3) := by decide +kernel
theorem dX1_readingByShadow_69 : decode cX1_readingByShadow 69 = .ok (.iload_n 2, 1) := by decide +kernel
theorem dX1_readingByShadow_70 : decode cX1_readingByShadow 70 = .ok (.ireturn, 1) := by decide +kernel
theorem dX1_compareReadings_0 : decode cX1_compareReadings 0 = .ok (.aload_n 0, 1) := by decide +kernel
theorem dX1_compareReadings_1 : decode cX1_compareReadings 1 = .ok (.iconst 0, 1) := by decide +kernel
theorem dX1_compareReadings_2 : decode cX1_compareReadings 2 = .ok (.putfield 48, 3) := by decide +kernel
theorem dX1_compareReadings_5 : decode cX1_compareReadings 5 = .ok (.aload_n 0, 1) := by decide +kernel
theorem dX1_compareReadings_6 : decode cX1_compareReadings 6 = .ok (.ldc 25, 2) := by decide +kernel
theorem dX1_compareReadings_8 : decode cX1_compareReadings 8 = .ok (.putfield 52, 3) := by decide +kernel
theorem dX1_compareReadings_11 : decode cX1_compareReadings 11 = .ok (.sipush (-360), 3) := by decide +kernel
theorem dX1_compareReadings_14 : decode cX1_compareReadings 14 = .ok (.istore_n 1, 1) := by decide +kernel
theorem dX1_compareReadings_15 : decode cX1_compareReadings 15 = .ok (.iload_n 1, 1) := by decide +kernel
theorem dX1_compareReadings_16 : decode cX1_compareReadings 16 = .ok (.sipush 360, 3) := by decide +kernel
theorem dX1_compareReadings_19 : decode cX1_compareReadings 19 = .ok (.if_icmp .gt 78, 3) := by decide +kernel
theorem dX1_compareReadings_22 : decode cX1_compareReadings 22 = .ok (.aload_n 0, 1) := by decide +kernel
theorem dX1_compareReadings_23 : decode cX1_compareReadings 23 = .ok (.iload_n 1, 1) := by decide +kernel
theorem dX1_compareReadings_24 : decode cX1_compareReadings 24 = .ok (.invokevirtual 40, 3) := by decide +kernel
theorem dX1_compareReadings_27 : decode cX1_compareReadings 27 = .ok (.istore_n 2, 1) := by decide +kernel
theorem dX1_compareReadings_28 : decode cX1_compareReadings 28 = .ok (.iload_n 2, 1) := by decide +kernel
theorem dX1_compareReadings_29 : decode cX1_compareReadings 29 = .ok (.ldc 25, 2) := by decide +kernel
theorem dX1_compareReadings_31 : decode cX1_compareReadings 31 = .ok (.if_icmp .ne 8, 3) := by decide +kernel
theorem dX1_compareReadings_34 : decode cX1_compareReadings 34 = .ok (.ldc 25, 2) := by decide +kernel
theorem dX1_compareReadings_36 : decode cX1_compareReadings 36 = .ok (.goto 8, 3) := by decide +kernel
theorem dX1_compareReadings_39 : decode cX1_compareReadings 39 = .ok (.aload_n 0, 1) := by decide +kernel
theorem dX1_compareReadings_40 : decode cX1_compareReadings 40 = .ok (.iload_n 2, 1) := by decide +kernel
theorem dX1_compareReadings_41 : decode cX1_compareReadings 41 = .ok (.invokevirtual 55, 3) := by decide +kernel
theorem dX1_compareReadings_44 : decode cX1_compareReadings 44 = .ok (.istore_n 3, 1) := by decide +kernel
theorem dX1_compareReadings_45 : decode cX1_compareReadings 45 = .ok (.iload_n 3, 1) := by decide +kernel
theorem dX1_compareReadings_46 : decode cX1_compareReadings 46 = .ok (.ldc 25, 2) := by decide +kernel
theorem dX1_compareReadings_48 : decode cX1_compareReadings 48 = .ok (.if_icmp .ne 6, 3) := by decide +kernel
theorem dX1_compareReadings_51 : decode cX1_compareReadings 51 = .ok (.goto 40, 3) := by decide +kernel
theorem dX1_compareReadings_54 : decode cX1_compareReadings 54 = .ok (.iload_n 1, 1) := by decide +kernel
theorem dX1_compareReadings_55 : decode cX1_compareReadings 55 = .ok (.iload_n 3, 1) := by decide +kernel
theorem dX1_compareReadings_56 : decode cX1_compareReadings 56 = .ok (.isub, 1) := by decide +kernel
theorem dX1_compareReadings_57 : decode cX1_compareReadings 57 = .ok (.invokestatic 43, 3) := by decide +kernel
theorem dX1_compareReadings_60 : decode cX1_compareReadings 60 = .ok (.istore 4, 2) := by decide +kernel
theorem dX1_compareReadings_62 : decode cX1_compareReadings 62 = .ok (.aload_n 0, 1) := by decide +kernel
theorem dX1_compareReadings_63 : decode cX1_compareReadings 63 = .ok (.getfield 52, 3) := by decide +kernel
theorem dX1_compareReadings_66 : decode cX1_compareReadings 66 = .ok (.ldc 25, 2) := by decide +kernel
theorem dX1_compareReadings_68 : decode cX1_compareReadings 68 = .ok (.if_icmp .eq 12, 3) := by decide +kernel
theorem dX1_compareReadings_71 : decode cX1_compareReadings 71 = .ok (.iload 4, 2) := by decide +kernel
theorem dX1_compareReadings_73 : decode cX1_compareReadings 73 = .ok (.aload_n 0, 1) := by decide +kernel
theorem dX1_compareReadings_74 : decode cX1_compareReadings 74 = .ok (.getfield 48, 3) := by decide +kernel
theorem dX1_compareReadings_77 : decode cX1_compareReadings 77 = .ok (.if_icmp .le 14, 3) := by decide +kernel
theorem dX1_compareReadings_80 : decode cX1_compareReadings 80 = .ok (.aload_n 0, 1) := by decide +kernel
theorem dX1_compareReadings_81 : decode cX1_compareReadings 81 = .ok (.iload 4, 2) := by decide +kernel
theorem dX1_compareReadings_83 : decode cX1_compareReadings 83 = .ok (.putfield 48, 3) := by decide +kernel
theorem dX1_compareReadings_86 : decode cX1_compareReadings 86 = .ok (.aload_n 0, 1) := by decide +kernel
theorem dX1_compareReadings_87 : decode cX1_compareReadings 87 = .ok (.iload_n 1, 1) := by decide +kernel
theorem dX1_compareReadings_88 : decode cX1_compareReadings 88 = .ok (.putfield 52, 3) := by decide +kernel
theorem dX1_compareReadings_91 : decode cX1_compareReadings 91 = .ok (.iinc 1 1, 3) := by decide +kernel
theorem dX1_compareReadings_94 : decode cX1_compareReadings 94 = .ok (.goto (-79), 3) := by decide +kernel
theorem dX1_compareReadings_97 : decode cX1_compareReadings 97 = .ok (.return_, 1) := by decide +kernel
theorem dX2_init_0 : decode cX2_init 0 = .ok (.aload_n 0, 1) := by decide +kernel
theorem dX2_init_1 : decode cX2_init 1 = .ok (.invokespecial 3, 3) := by decide +kernel
theorem dX2_init_4 : decode cX2_init 4 = .ok (.aload_n 0, 1) := by decide +kernel
theorem dX2_init_5 : decode cX2_init 5 = .ok (.bipush 6, 2) := by decide +kernel
theorem dX2_init_7 : decode cX2_init 7 = .ok (.anewarray 9, 3) := by decide +kernel
theorem dX2_init_10 : decode cX2_init 10 = .ok (.putfield 11, 3) := by decide +kernel
theorem dX2_init_13 : decode cX2_init 13 = .ok (.iconst 0, 1) := by decide +kernel
theorem dX2_init_14 : decode cX2_init 14 = .ok (.istore_n 1, 1) := by decide +kernel
theorem dX2_init_15 : decode cX2_init 15 = .ok (.iload_n 1, 1) := by decide +kernel
theorem dX2_init_16 : decode cX2_init 16 = .ok (.iconst 5, 1) := by decide +kernel
theorem dX2_init_17 : decode cX2_init 17 = .ok (.if_icmp .gt 22, 3) := by decide +kernel
theorem dX2_init_20 : decode cX2_init 20 = .ok (.aload_n 0, 1) := by decide +kernel
theorem dX2_init_21 : decode cX2_init 21 = .ok (.getfield 11, 3) := by decide +kernel
theorem dX2_init_24 : decode cX2_init 24 = .ok (.iload_n 1, 1) := by decide +kernel
theorem dX2_init_25 : decode cX2_init 25 = .ok (.new 9, 3) := by decide +kernel
theorem dX2_init_28 : decode cX2_init 28 = .ok (.dup, 1) := by decide +kernel
theorem dX2_init_29 : decode cX2_init 29 = .ok (.invokespecial 17, 3) := by decide +kernel
theorem dX2_init_32 : decode cX2_init 32 = .ok (.aastore, 1) := by decide +kernel
theorem dX2_init_33 : decode cX2_init 33 = .ok (.iinc 1 1, 3) := by decide +kernel
theorem dX2_init_36 : decode cX2_init 36 = .ok (.goto (-21), 3) := by decide +kernel
theorem dX2_init_39 : decode cX2_init 39 = .ok (.return_, 1) := by decide +kernel
theorem dX2_mark_0 : decode cX2_mark 0 = .ok (.aload_n 0, 1) := by decide +kernel
theorem dX2_mark_1 : decode cX2_mark 1 = .ok (.getfield 11, 3) := by decide +kernel
theorem dX2_mark_4 : decode cX2_mark 4 = .ok (.aload_n 0, 1) := by decide +kernel
theorem dX2_mark_5 : decode cX2_mark 5 = .ok (.getfield 18, 3) := by decide +kernel
theorem dX2_mark_8 : decode cX2_mark 8 = .ok (.aaload, 1) := by decide +kernel
theorem dX2_mark_9 : decode cX2_mark 9 = .ok (.aload_n 1, 1) := by decide +kernel
theorem dX2_mark_10 : decode cX2_mark 10 = .ok (.invokevirtual 22, 3) := by decide +kernel
theorem dX2_mark_13 : decode cX2_mark 13 = .ok (.return_, 1) := by decide +kernel
theorem dX2_keepMarked_0 : decode cX2_keepMarked 0 = .ok (.aload_n 0, 1) := by decide +kernel
theorem dX2_keepMarked_1 : decode cX2_keepMarked 1 = .ok (.aload_n 0, 1) := by decide +kernel
theorem dX2_keepMarked_2 : decode cX2_keepMarked 2 = .ok (.getfield 18, 3) := by decide +kernel
theorem dX2_keepMarked_5 : decode cX2_keepMarked 5 = .ok (.iconst 1, 1) := by decide +kernel
theorem dX2_keepMarked_6 : decode cX2_keepMarked 6 = .ok (.iadd, 1) := by decide +kernel
theorem dX2_keepMarked_7 : decode cX2_keepMarked 7 = .ok (.bipush 6, 2) := by decide +kernel
theorem dX2_keepMarked_9 : decode cX2_keepMarked 9 = .ok (.irem, 1) := by decide +kernel
theorem dX2_keepMarked_10 : decode cX2_keepMarked 10 = .ok (.putfield 18, 3) := by decide +kernel
theorem dX2_keepMarked_13 : decode cX2_keepMarked 13 = .ok (.aload_n 0, 1) := by decide +kernel
theorem dX2_keepMarked_14 : decode cX2_keepMarked 14 = .ok (.aload_n 0, 1) := by decide +kernel
theorem dX2_keepMarked_15 : decode cX2_keepMarked 15 = .ok (.getfield 26, 3) := by decide +kernel
theorem dX2_keepMarked_18 : decode cX2_keepMarked 18 = .ok (.iconst 1, 1) := by decide +kernel
theorem dX2_keepMarked_19 : decode cX2_keepMarked 19 = .ok (.iadd, 1) := by decide +kernel
theorem dX2_keepMarked_20 : decode cX2_keepMarked 20 = .ok (.iconst 5, 1) := by decide +kernel
theorem dX2_keepMarked_21 : decode cX2_keepMarked 21 = .ok (.invokestatic 29, 3) := by decide +kernel
theorem dX2_keepMarked_24 : decode cX2_keepMarked 24 = .ok (.putfield 26, 3) := by decide +kernel
theorem dX2_keepMarked_27 : decode cX2_keepMarked 27 = .ok (.return_, 1) := by decide +kernel
theorem dX2_returnToMarked_0 : decode cX2_returnToMarked 0 = .ok (.aload_n 1, 1) := by decide +kernel
theorem dX2_returnToMarked_1 : decode cX2_returnToMarked 1 = .ok (.aload_n 0, 1) := by decide +kernel
theorem dX2_returnToMarked_2 : decode cX2_returnToMarked 2 = .ok (.getfield 11, 3) := by decide +kernel
theorem dX2_returnToMarked_5 : decode cX2_returnToMarked 5 = .ok (.aload_n 0, 1) := by decide +kernel
theorem dX2_returnToMarked_6 : decode cX2_returnToMarked 6 = .ok (.getfield 18, 3) := by decide +kernel
theorem dX2_returnToMarked_9 : decode cX2_returnToMarked 9 = .ok (.aaload, 1) := by decide +kernel
theorem dX2_returnToMarked_10 : decode cX2_returnToMarked 10 = .ok (.invokevirtual 22, 3) := by decide +kernel
theorem dX2_returnToMarked_13 : decode cX2_returnToMarked 13 = .ok (.return_, 1) := by decide +kernel
theorem dX2_stepBack_0 : decode cX2_stepBack 0 = .ok (.aload_n 0, 1) := by decide +kernel
theorem dX2_stepBack_1 : decode cX2_stepBack 1 = .ok (.getfield 26, 3) := by decide +kernel
theorem dX2_stepBack_4 : decode cX2_stepBack 4 = .ok (.ifCond .le 31, 3) := by decide +kernel
theorem dX2_stepBack_7 : decode cX2_stepBack 7 = .ok (.aload_n 0, 1) := by decide +kernel
theorem dX2_stepBack_8 : decode cX2_stepBack 8 = .ok (.aload_n 0, 1) := by decide +kernel
theorem dX2_stepBack_9 : decode cX2_stepBack 9 = .ok (.getfield 18, 3) := by decide +kernel
theorem dX2_stepBack_12 : decode cX2_stepBack 12 = .ok (.iconst 5, 1) := by decide +kernel
theorem dX2_stepBack_13 : decode cX2_stepBack 13 = .ok (.iadd, 1) := by decide +kernel
theorem dX2_stepBack_14 : decode cX2_stepBack 14 = .ok (.bipush 6, 2) := by decide +kernel
theorem dX2_stepBack_16 : decode cX2_stepBack 16 = .ok (.irem, 1) := by decide +kernel
theorem dX2_stepBack_17 : decode cX2_stepBack 17 = .ok (.putfield 18, 3) := by decide +kernel
theorem dX2_stepBack_20 : decode cX2_stepBack 20 = .ok (.aload_n 0, 1) := by decide +kernel
theorem dX2_stepBack_21 : decode cX2_stepBack 21 = .ok (.dup, 1) := by decide +kernel
theorem dX2_stepBack_22 : decode cX2_stepBack 22 = .ok (.getfield 26, 3) := by decide +kernel
theorem dX2_stepBack_25 : decode cX2_stepBack 25 = .ok (.iconst 1, 1) := by decide +kernel
theorem dX2_stepBack_26 : decode cX2_stepBack 26 = .ok (.isub, 1) := by decide +kernel
theorem dX2_stepBack_27 : decode cX2_stepBack 27 = .ok (.putfield 26, 3) := by decide +kernel
theorem dX2_stepBack_30 : decode cX2_stepBack 30 = .ok (.aload_n 0, 1) := by decide +kernel
theorem dX2_stepBack_31 : decode cX2_stepBack 31 = .ok (.aload_n 1, 1) := by decide +kernel
theorem dX2_stepBack_32 : decode cX2_stepBack 32 = .ok (.invokevirtual 35, 3) := by decide +kernel
theorem dX2_stepBack_35 : decode cX2_stepBack 35 = .ok (.return_, 1) := by decide +kernel
theorem dX3_init_0 : decode cX3_init 0 = .ok (.aload_n 0, 1) := by decide +kernel
theorem dX3_init_1 : decode cX3_init 1 = .ok (.invokespecial 3, 3) := by decide +kernel
theorem dX3_init_4 : decode cX3_init 4 = .ok (.aload_n 0, 1) := by decide +kernel
theorem dX3_init_5 : decode cX3_init 5 = .ok (.sipush 140, 3) := by decide +kernel
theorem dX3_init_8 : decode cX3_init 8 = .ok (.newarray .char, 2) := by decide +kernel
theorem dX3_init_10 : decode cX3_init 10 = .ok (.putfield 9, 3) := by decide +kernel
theorem dX3_init_13 : decode cX3_init 13 = .ok (.aload_n 0, 1) := by decide +kernel
theorem dX3_init_14 : decode cX3_init 14 = .ok (.iconst 3, 1) := by decide +kernel
theorem dX3_init_15 : decode cX3_init 15 = .ok (.newarray .int, 2) := by decide +kernel
theorem dX3_init_17 : decode cX3_init 17 = .ok (.putfield 15, 3) := by decide +kernel
theorem dX3_init_20 : decode cX3_init 20 = .ok (.return_, 1) := by decide +kernel
theorem dX5_init_0 : decode cX5_init 0 = .ok (.aload_n 0, 1) := by decide +kernel
theorem dX5_init_1 : decode cX5_init 1 = .ok (.invokespecial 3, 3) := by decide +kernel
theorem dX5_init_4 : decode cX5_init 4 = .ok (.aload_n 0, 1) := by decide +kernel
theorem dX5_init_5 : decode cX5_init 5 = .ok (.new 9, 3) := by decide +kernel
theorem dX5_init_8 : decode cX5_init 8 = .ok (.dup, 1) := by decide +kernel
theorem dX5_init_9 : decode cX5_init 9 = .ok (.invokespecial 11, 3) := by decide +kernel
theorem dX5_init_12 : decode cX5_init 12 = .ok (.putfield 12, 3) := by decide +kernel
theorem dX5_init_15 : decode cX5_init 15 = .ok (.aload_n 0, 1) := by decide +kernel
theorem dX5_init_16 : decode cX5_init 16 = .ok (.iconst 2, 1) := by decide +kernel
theorem dX5_init_17 : decode cX5_init 17 = .ok (.anewarray 9, 3) := by decide +kernel
theorem dX5_init_20 : decode cX5_init 20 = .ok (.putfield 18, 3) := by decide +kernel
theorem dX5_init_23 : decode cX5_init 23 = .ok (.aload_n 0, 1) := by decide +kernel
theorem dX5_init_24 : decode cX5_init 24 = .ok (.iconst 2, 1) := by decide +kernel
theorem dX5_init_25 : decode cX5_init 25 = .ok (.newarray .boolean, 2) := by decide +kernel
theorem dX5_init_27 : decode cX5_init 27 = .ok (.putfield 22, 3) := by decide +kernel
theorem dX5_init_30 : decode cX5_init 30 = .ok (.iconst 0, 1) := by decide +kernel
theorem dX5_init_31 : decode cX5_init 31 = .ok (.istore_n 1, 1) := by decide +kernel
theorem dX5_init_32 : decode cX5_init 32 = .ok (.iload_n 1, 1) := by decide +kernel
theorem dX5_init_33 : decode cX5_init 33 = .ok (.iconst 2, 1) := by decide +kernel
theorem dX5_init_34 : decode cX5_init 34 = .ok (.if_icmp .ge 22, 3) := by decide +kernel
theorem dX5_init_37 : decode cX5_init 37 = .ok (.aload_n 0, 1) := by decide +kernel
theorem dX5_init_38 : decode cX5_init 38 = .ok (.getfield 18, 3) := by decide +kernel
theorem dX5_init_41 : decode cX5_init 41 = .ok (.iload_n 1, 1) := by decide +kernel
theorem dX5_init_42 : decode cX5_init 42 = .ok (.new 9, 3) := by decide +kernel
theorem dX5_init_45 : decode cX5_init 45 = .ok (.dup, 1) := by decide +kernel
theorem dX5_init_46 : decode cX5_init 46 = .ok (.invokespecial 11, 3) := by decide +kernel
theorem dX5_init_49 : decode cX5_init 49 = .ok (.aastore, 1) := by decide +kernel
theorem dX5_init_50 : decode cX5_init 50 = .ok (.iinc 1 1, 3) := by decide +kernel
theorem dX5_init_53 : decode cX5_init 53 = .ok (.goto (-21), 3) := by decide +kernel
theorem dX5_init_56 : decode cX5_init 56 = .ok (.return_, 1) := by decide +kernel
theorem dX5_copyFrom_0 : decode cX5_copyFrom 0 = .ok (.aload_n 0, 1) := by decide +kernel
theorem dX5_copyFrom_1 : decode cX5_copyFrom 1 = .ok (.getfield 12, 3) := by decide +kernel
theorem dX5_copyFrom_4 : decode cX5_copyFrom 4 = .ok (.aload_n 1, 1) := by decide +kernel
theorem dX5_copyFrom_5 : decode cX5_copyFrom 5 = .ok (.getfield 12, 3) := by decide +kernel
theorem dX5_copyFrom_8 : decode cX5_copyFrom 8 = .ok (.invokevirtual 26, 3) := by decide +kernel
theorem dX5_copyFrom_11 : decode cX5_copyFrom 11 = .ok (.iconst 0, 1) := by decide +kernel
theorem dX5_copyFrom_12 : decode cX5_copyFrom 12 = .ok (.istore_n 2, 1) := by decide +kernel
theorem dX5_copyFrom_13 : decode cX5_copyFrom 13 = .ok (.iload_n 2, 1) := by decide +kernel
theorem dX5_copyFrom_14 : decode cX5_copyFrom 14 = .ok (.iconst 2, 1) := by decide +kernel
theorem dX5_copyFrom_15 : decode cX5_copyFrom 15 = .ok (.if_icmp .ge 36, 3) := by decide +kernel
theorem dX5_copyFrom_18 : decode cX5_copyFrom 18 = .ok (.aload_n 0, 1) := by decide +kernel
theorem dX5_copyFrom_19 : decode cX5_copyFrom 19 = .ok (.getfield 18, 3) := by decide +kernel
theorem dX5_copyFrom_22 : decode cX5_copyFrom 22 = .ok (.iload_n 2, 1) := by decide +kernel
theorem dX5_copyFrom_23 : decode cX5_copyFrom 23 = .ok (.aaload, 1) := by decide +kernel
theorem dX5_copyFrom_24 : decode cX5_copyFrom 24 = .ok (.aload_n 1, 1) := by decide +kernel
theorem dX5_copyFrom_25 : decode cX5_copyFrom 25 = .ok (.getfield 18, 3) := by decide +kernel
theorem dX5_copyFrom_28 : decode cX5_copyFrom 28 = .ok (.iload_n 2, 1) := by decide +kernel
theorem dX5_copyFrom_29 : decode cX5_copyFrom 29 = .ok (.aaload, 1) := by decide +kernel
theorem dX5_copyFrom_30 : decode cX5_copyFrom 30 = .ok (.invokevirtual 26, 3) := by decide +kernel
theorem dX5_copyFrom_33 : decode cX5_copyFrom 33 = .ok (.aload_n 0, 1) := by decide +kernel
theorem dX5_copyFrom_34 : decode cX5_copyFrom 34 = .ok (.getfield 22, 3) := by decide +kernel
theorem dX5_copyFrom_37 : decode cX5_copyFrom 37 = .ok (.iload_n 2, 1) := by decide +kernel
theorem dX5_copyFrom_38 : decode cX5_copyFrom 38 = .ok (.aload_n 1, 1) := by decide +kernel
theorem dX5_copyFrom_39 : decode cX5_copyFrom 39 = .ok (.getfield 22, 3) := by decide +kernel
theorem dX5_copyFrom_42 : decode cX5_copyFrom 42 = .ok (.iload_n 2, 1) := by decide +kernel
theorem dX5_copyFrom_43 : decode cX5_copyFrom 43 = .ok (.baload, 1) := by decide +kernel
theorem dX5_copyFrom_44 : decode cX5_copyFrom 44 = .ok (.bastore, 1) := by decide +kernel
theorem dX5_copyFrom_45 : decode cX5_copyFrom 45 = .ok (.iinc 2 1, 3) := by decide +kernel
theorem dX5_copyFrom_48 : decode cX5_copyFrom 48 = .ok (.goto (-35), 3) := by decide +kernel
theorem dX5_copyFrom_51 : decode cX5_copyFrom 51 = .ok (.return_, 1) := by decide +kernel
theorem dX5_keepSnapshot_0 : decode cX5_keepSnapshot 0 = .ok (.iload_n 1, 1) := by decide +kernel
theorem dX5_keepSnapshot_1 : decode cX5_keepSnapshot 1 = .ok (.iconst 0, 1) := by decide +kernel
theorem dX5_keepSnapshot_2 : decode cX5_keepSnapshot 2 = .ok (.iconst 1, 1) := by decide +kernel
theorem dX5_keepSnapshot_3 : decode cX5_keepSnapshot 3 = .ok (.invokestatic 30, 3) := by decide +kernel
theorem dX5_keepSnapshot_6 : decode cX5_keepSnapshot 6 = .ok (.ifCond .ne 6, 3) := by decide +kernel
theorem dX5_keepSnapshot_9 : decode cX5_keepSnapshot 9 = .ok (.ldc 34, 2) := by decide +kernel
theorem dX5_keepSnapshot_11 : decode cX5_keepSnapshot 11 = .ok (.ireturn, 1) := by decide +kernel
theorem dX5_keepSnapshot_12 : decode cX5_keepSnapshot 12 = .ok (.aload_n 0, 1) := by decide +kernel
theorem dX5_keepSnapshot_13 : decode cX5_keepSnapshot 13 = .ok (.getfield 18, 3) := by decide +kernel
theorem dX5_keepSnapshot_16 : decode cX5_keepSnapshot 16 = .ok (.iload_n 1, 1) := by decide +kernel
theorem dX5_keepSnapshot_17 : decode cX5_keepSnapshot 17 = .ok (.aaload, 1) := by decide +kernel
theorem dX5_keepSnapshot_18 : decode cX5_keepSnapshot 18 = .ok (.aload_n 0, 1) := by decide +kernel
theorem dX5_keepSnapshot_19 : decode cX5_keepSnapshot 19 = .ok (.getfield 12, 3) := by decide +kernel
theorem dX5_keepSnapshot_22 : decode cX5_keepSnapshot 22 = .ok (.invokevirtual 26, 3) := by decide +kernel
theorem dX5_keepSnapshot_25 : decode cX5_keepSnapshot 25 = .ok (.aload_n 0, 1) := by decide +kernel
theorem dX5_keepSnapshot_26 : decode cX5_keepSnapshot 26 = .ok (.getfield 22, 3) := by decide +kernel
theorem dX5_keepSnapshot_29 : decode cX5_keepSnapshot 29 = .ok (.iload_n 1, 1) := by decide +kernel
theorem dX5_keepSnapshot_30 : decode cX5_keepSnapshot 30 = .ok (.iconst 1, 1) := by decide +kernel
theorem dX5_keepSnapshot_31 : decode cX5_keepSnapshot 31 = .ok (.bastore, 1) := by decide +kernel
theorem dX5_keepSnapshot_32 : decode cX5_keepSnapshot 32 = .ok (.aload_n 0, 1) := by decide +kernel
theorem dX5_keepSnapshot_33 : decode cX5_keepSnapshot 33 = .ok (.getfield 12, 3) := by decide +kernel
theorem dX5_keepSnapshot_36 : decode cX5_keepSnapshot 36 = .ok (.getfield 35, 3) := by decide +kernel
theorem dX5_keepSnapshot_39 : decode cX5_keepSnapshot 39 = .ok (.ireturn, 1) := by decide +kernel
theorem dX5_snapshots_0 : decode cX5_snapshots 0 = .ok (.iconst 0, 1) := by decide +kernel
theorem dX5_snapshots_1 : decode cX5_snapshots 1 = .ok (.istore_n 1, 1) := by decide +kernel
theorem dX5_snapshots_2 : decode cX5_snapshots 2 = .ok (.iconst 0, 1) := by decide +kernel
theorem dX5_snapshots_3 : decode cX5_snapshots 3 = .ok (.istore_n 2, 1) := by decide +kernel
theorem dX5_snapshots_4 : decode cX5_snapshots 4 = .ok (.iload_n 2, 1) := by decide +kernel
theorem dX5_snapshots_5 : decode cX5_snapshots 5 = .ok (.iconst 2, 1) := by decide +kernel
theorem dX5_snapshots_6 : decode cX5_snapshots 6 = .ok (.if_icmp .ge 21, 3) := by decide +kernel
theorem dX5_snapshots_9 : decode cX5_snapshots 9 = .ok (.aload_n 0, 1) := by decide +kernel
theorem dX5_snapshots_10 : decode cX5_snapshots 10 = .ok (.getfield 22, 3) := by decide +kernel
theorem dX5_snapshots_13 : decode cX5_snapshots 13 = .ok (.iload_n 2, 1) := by decide +kernel
theorem dX5_snapshots_14 : decode cX5_snapshots 14 = .ok (.baload, 1) := by decide +kernel
theorem dX5_snapshots_15 : decode cX5_snapshots 15 = .ok (.ifCond .eq 6, 3) := by decide +kernel
theorem dX5_snapshots_18 : decode cX5_snapshots 18 = .ok (.iinc 1 1, 3) := by decide +kernel
theorem dX5_snapshots_21 : decode cX5_snapshots 21 = .ok (.iinc 2 1, 3) := by decide +kernel
theorem dX5_snapshots_24 : decode cX5_snapshots 24 = .ok (.goto (-20), 3) := by decide +kernel
theorem dX5_snapshots_27 : decode cX5_snapshots 27 = .ok (.iload_n 1, 1) := by decide +kernel
theorem dX5_snapshots_28 : decode cX5_snapshots 28 = .ok (.ireturn, 1) := by decide +kernel
theorem dX6_init_0 : decode cX6_init 0 = .ok (.aload_n 0, 1) := by decide +kernel
theorem dX6_init_1 : decode cX6_init 1 = .ok (.invokespecial 3, 3) := by decide +kernel
theorem dX6_init_4 : decode cX6_init 4 = .ok (.aload_n 0, 1) := by decide +kernel
theorem dX6_init_5 : decode cX6_init 5 = .ok (.ldc 9, 2) := by decide +kernel
theorem dX6_init_7 : decode cX6_init 7 = .ok (.putfield 10, 3) := by decide +kernel
theorem dX6_init_10 : decode cX6_init 10 = .ok (.aload_n 0, 1) := by decide +kernel
theorem dX6_init_11 : decode cX6_init 11 = .ok (.ldc 9, 2) := by decide +kernel
theorem dX6_init_13 : decode cX6_init 13 = .ok (.putfield 16, 3) := by decide +kernel
theorem dX6_init_16 : decode cX6_init 16 = .ok (.return_, 1) := by decide +kernel
theorem dX6_copyFrom_0 : decode cX6_copyFrom 0 = .ok (.aload_n 0, 1) := by decide +kernel
theorem dX6_copyFrom_1 : decode cX6_copyFrom 1 = .ok (.aload_n 1, 1) := by decide +kernel
theorem dX6_copyFrom_2 : decode cX6_copyFrom 2 = .ok (.getfield 10, 3) := by decide +kernel
theorem dX6_copyFrom_5 : decode cX6_copyFrom 5 = .ok (.putfield 10, 3) := by decide +kernel
theorem dX6_copyFrom_8 : decode cX6_copyFrom 8 = .ok (.aload_n 0, 1) := by decide +kernel
theorem dX6_copyFrom_9 : decode cX6_copyFrom 9 = .ok (.aload_n 1, 1) := by decide +kernel
theorem dX6_copyFrom_10 : decode cX6_copyFrom 10 = .ok (.getfield 16, 3) := by decide +kernel
theorem dX6_copyFrom_13 : decode cX6_copyFrom 13 = .ok (.putfield 16, 3) := by decide +kernel
theorem dX6_copyFrom_16 : decode cX6_copyFrom 16 = .ok (.return_, 1) := by decide +kernel
theorem dX6_isKnown_0 : decode cX6_isKnown 0 = .ok (.aload_n 0, 1) := by decide +kernel
theorem dX6_isKnown_1 : decode cX6_isKnown 1 = .ok (.getfield 10, 3) := by decide +kernel
theorem dX6_isKnown_4 : decode cX6_isKnown 4 = .ok (.ldc 9, 2) := by decide +kernel
theorem dX6_isKnown_6 : decode cX6_isKnown 6 = .ok (.if_icmp .eq 32, 3) := by decide +kernel
theorem dX6_isKnown_9 : decode cX6_isKnown 9 = .ok (.aload_n 0, 1) := by decide +kernel
theorem dX6_isKnown_10 : decode cX6_isKnown 10 = .ok (.getfield 16, 3) := by decide +kernel
theorem dX6_isKnown_13 : decode cX6_isKnown 13 = .ok (.ldc 9, 2) := by decide +kernel
theorem dX6_isKnown_15 : decode cX6_isKnown 15 = .ok (.if_icmp .eq 23, 3) := by decide +kernel
theorem dX6_isKnown_18 : decode cX6_isKnown 18 = .ok (.aload_n 0, 1) := by decide +kernel
theorem dX6_isKnown_19 : decode cX6_isKnown 19 = .ok (.getfield 10, 3) := by decide +kernel
theorem dX6_isKnown_22 : decode cX6_isKnown 22 = .ok (.aload_n 0, 1) := by decide +kernel
theorem dX6_isKnown_23 : decode cX6_isKnown 23 = .ok (.getfield 16, 3) := by decide +kernel
theorem dX6_isKnown_26 : decode cX6_isKnown 26 = .ok (.isub, 1) := by decide +kernel
theorem dX6_isKnown_27 : decode cX6_isKnown 27 = .ok (.invokestatic 19, 3) := by decide +kernel
theorem dX6_isKnown_30 : decode cX6_isKnown 30 = .ok (.iload_n 1, 1) := by decide +kernel
theorem dX6_isKnown_31 : decode cX6_isKnown 31 = .ok (.if_icmp .gt 7, 3) := by decide +kernel
theorem dX6_isKnown_34 : decode cX6_isKnown 34 = .ok (.iconst 1, 1) := by decide +kernel
theorem dX6_isKnown_35 : decode cX6_isKnown 35 = .ok (.goto 4, 3) := by decide +kernel
theorem dX6_isKnown_38 : decode cX6_isKnown 38 = .ok (.iconst 0, 1) := by decide +kernel
theorem dX6_isKnown_39 : decode cX6_isKnown 39 = .ok (.ireturn, 1) := by decide +kernel
theorem dJ6_bitCount_0f7a4_0 : decode cJ6_bitCount_0f7a4 0 = .ok (.iload_n 0, 1) := by decide +kernel
theorem dJ6_bitCount_0f7a4_1 : decode cJ6_bitCount_0f7a4 1 = .ok (.iload_n 0, 1) := by decide +kernel
theorem dJ6_bitCount_0f7a4_2 : decode cJ6_bitCount_0f7a4 2 = .ok (.iconst 1, 1) := by decide +kernel
theorem dJ6_bitCount_0f7a4_3 : decode cJ6_bitCount_0f7a4 3 = .ok (.iushr, 1) := by decide +kernel
theorem dJ6_bitCount_0f7a4_4 : decode cJ6_bitCount_0f7a4 4 = .ok (.ldc_w 265, 3) := by decide +kernel
theorem dJ6_bitCount_0f7a4_7 : decode cJ6_bitCount_0f7a4 7 = .ok (.iand, 1) := by decide +kernel
theorem dJ6_bitCount_0f7a4_8 : decode cJ6_bitCount_0f7a4 8 = .ok (.isub, 1) := by decide +kernel
theorem dJ6_bitCount_0f7a4_9 : decode cJ6_bitCount_0f7a4 9 = .ok (.istore_n 0, 1) := by decide +kernel
theorem dJ6_bitCount_0f7a4_10 : decode cJ6_bitCount_0f7a4 10 = .ok (.iload_n 0, 1) := by decide +kernel
theorem dJ6_bitCount_0f7a4_11 : decode cJ6_bitCount_0f7a4 11 = .ok (.ldc_w 266, 3) := by decide +kernel
theorem dJ6_bitCount_0f7a4_14 : decode cJ6_bitCount_0f7a4 14 = .ok (.iand, 1) := by decide +kernel
theorem dJ6_bitCount_0f7a4_15 : decode cJ6_bitCount_0f7a4 15 = .ok (.iload_n 0, 1) := by decide +kernel
theorem dJ6_bitCount_0f7a4_16 : decode cJ6_bitCount_0f7a4 16 = .ok (.iconst 2, 1) := by decide +kernel
theorem dJ6_bitCount_0f7a4_17 : decode cJ6_bitCount_0f7a4 17 = .ok (.iushr, 1) := by decide +kernel
theorem dJ6_bitCount_0f7a4_18 : decode cJ6_bitCount_0f7a4 18 = .ok (.ldc_w 266, 3) := by decide +kernel
theorem dJ6_bitCount_0f7a4_21 : decode cJ6_bitCount_0f7a4 21 = .ok (.iand, 1) := by decide +kernel
theorem dJ6_bitCount_0f7a4_22 : decode cJ6_bitCount_0f7a4 22 = .ok (.iadd, 1) := by decide +kernel
theorem dJ6_bitCount_0f7a4_23 : decode cJ6_bitCount_0f7a4 23 = .ok (.istore_n 0, 1) := by decide +kernel
theorem dJ6_bitCount_0f7a4_24 : decode cJ6_bitCount_0f7a4 24 = .ok (.iload_n 0, 1) := by decide +kernel
theorem dJ6_bitCount_0f7a4_25 : decode cJ6_bitCount_0f7a4 25 = .ok (.iload_n 0, 1) := by decide +kernel
theorem dJ6_bitCount_0f7a4_26 : decode cJ6_bitCount_0f7a4 26 = .ok (.iconst 4, 1) := by decide +kernel
theorem dJ6_bitCount_0f7a4_27 : decode cJ6_bitCount_0f7a4 27 = .ok (.iushr, 1) := by decide +kernel
theorem dJ6_bitCount_0f7a4_28 : decode cJ6_bitCount_0f7a4 28 = .ok (.iadd, 1) := by decide +kernel
theorem dJ6_bitCount_0f7a4_29 : decode cJ6_bitCount_0f7a4 29 = .ok (.ldc_w 267, 3) := by decide +kernel
theorem dJ6_bitCount_0f7a4_32 : decode cJ6_bitCount_0f7a4 32 = .ok (.iand, 1) := by decide +kernel
theorem dJ6_bitCount_0f7a4_33 : decode cJ6_bitCount_0f7a4 33 = .ok (.istore_n 0, 1) := by decide +kernel
theorem dJ6_bitCount_0f7a4_34 : decode cJ6_bitCount_0f7a4 34 = .ok (.iload_n 0, 1) := by decide +kernel
theorem dJ6_bitCount_0f7a4_35 : decode cJ6_bitCount_0f7a4 35 = .ok (.iload_n 0, 1) := by decide +kernel
theorem dJ6_bitCount_0f7a4_36 : decode cJ6_bitCount_0f7a4 36 = .ok (.bipush 8, 2) := by decide +kernel
theorem dJ6_bitCount_0f7a4_38 : decode cJ6_bitCount_0f7a4 38 = .ok (.iushr, 1) := by decide +kernel
theorem dJ6_bitCount_0f7a4_39 : decode cJ6_bitCount_0f7a4 39 = .ok (.iadd, 1) := by decide +kernel
theorem dJ6_bitCount_0f7a4_40 : decode cJ6_bitCount_0f7a4 40 = .ok (.istore_n 0, 1) := by decide +kernel
theorem dJ6_bitCount_0f7a4_41 : decode cJ6_bitCount_0f7a4 41 = .ok (.iload_n 0, 1) := by decide +kernel
theorem dJ6_bitCount_0f7a4_42 : decode cJ6_bitCount_0f7a4 42 = .ok (.iload_n 0, 1) := by decide +kernel
theorem dJ6_bitCount_0f7a4_43 : decode cJ6_bitCount_0f7a4 43 = .ok (.bipush 16, 2) := by decide +kernel
theorem dJ6_bitCount_0f7a4_45 : decode cJ6_bitCount_0f7a4 45 = .ok (.iushr, 1) := by decide +kernel
theorem dJ6_bitCount_0f7a4_46 : decode cJ6_bitCount_0f7a4 46 = .ok (.iadd, 1) := by decide +kernel
theorem dJ6_bitCount_0f7a4_47 : decode cJ6_bitCount_0f7a4 47 = .ok (.istore_n 0, 1) := by decide +kernel
theorem dJ6_bitCount_0f7a4_48 : decode cJ6_bitCount_0f7a4 48 = .ok (.iload_n 0, 1) := by decide +kernel
theorem dJ6_bitCount_0f7a4_49 : decode cJ6_bitCount_0f7a4 49 = .ok (.bipush 63, 2) := by decide +kernel
theorem dJ6_bitCount_0f7a4_51 : decode cJ6_bitCount_0f7a4 51 = .ok (.iand, 1) := by decide +kernel
theorem dJ6_bitCount_0f7a4_52 : decode cJ6_bitCount_0f7a4 52 = .ok (.ireturn, 1) := by decide +kernel
theorem dJ9_abs_0f7a4_0 : decode cJ9_abs_0f7a4 0 = .ok (.iload_n 0, 1) := by decide +kernel
theorem dJ9_abs_0f7a4_1 : decode cJ9_abs_0f7a4 1 = .ok (.ifCond .ge 8, 3) := by decide +kernel
theorem dJ9_abs_0f7a4_4 : decode cJ9_abs_0f7a4 4 = .ok (.iload_n 0, 1) := by decide +kernel
theorem dJ9_abs_0f7a4_5 : decode cJ9_abs_0f7a4 5 = .ok (.ineg, 1) := by decide +kernel
theorem dJ9_abs_0f7a4_6 : decode cJ9_abs_0f7a4 6 = .ok (.goto 4, 3) := by decide +kernel
theorem dJ9_abs_0f7a4_9 : decode cJ9_abs_0f7a4 9 = .ok (.iload_n 0, 1) := by decide +kernel
theorem dJ9_abs_0f7a4_10 : decode cJ9_abs_0f7a4 10 = .ok (.ireturn, 1) := by decide +kernel
theorem dJ9_min_7cf53_0 : decode cJ9_min_7cf53 0 = .ok (.iload_n 0, 1) := by decide +kernel
theorem dJ9_min_7cf53_1 : decode cJ9_min_7cf53 1 = .ok (.iload_n 1, 1) := by decide +kernel
theorem dJ9_min_7cf53_2 : decode cJ9_min_7cf53 2 = .ok (.if_icmp .gt 7, 3) := by decide +kernel
theorem dJ9_min_7cf53_5 : decode cJ9_min_7cf53 5 = .ok (.iload_n 0, 1) := by decide +kernel
theorem dJ9_min_7cf53_6 : decode cJ9_min_7cf53 6 = .ok (.goto 4, 3) := by decide +kernel
theorem dJ9_min_7cf53_9 : decode cJ9_min_7cf53 9 = .ok (.iload_n 1, 1) := by decide +kernel
theorem dJ9_min_7cf53_10 : decode cJ9_min_7cf53 10 = .ok (.ireturn, 1) := by decide +kernel
