theorem dL_cell_0 : decode cL_cell 0 = .ok (.iload_n 1, 1) := by decide +kernel
theorem dL_cell_1 : decode cL_cell 1 = .ok (.aload_n 0, 1) := by decide +kernel
theorem dL_cell_2 : decode cL_cell 2 = .ok (.arraylength, 1) := by decide +kernel
theorem dL_cell_3 : decode cL_cell 3 = .ok (.if_icmp .ge 9, 3) := by decide +kernel
theorem dL_cell_6 : decode cL_cell 6 = .ok (.aload_n 0, 1) := by decide +kernel
theorem dL_cell_7 : decode cL_cell 7 = .ok (.iload_n 1, 1) := by decide +kernel
theorem dL_cell_8 : decode cL_cell 8 = .ok (.iaload, 1) := by decide +kernel
theorem dL_cell_9 : decode cL_cell 9 = .ok (.goto 15, 3) := by decide +kernel
theorem dL_cell_12 : decode cL_cell 12 = .ok (.sipush 7919, 3) := by decide +kernel
theorem dL_cell_15 : decode cL_cell 15 = .ok (.iload_n 1, 1) := by decide +kernel
theorem dL_cell_16 : decode cL_cell 16 = .ok (.iconst 3, 1) := by decide +kernel
theorem dL_cell_17 : decode cL_cell 17 = .ok (.iadd, 1) := by decide +kernel
theorem dL_cell_18 : decode cL_cell 18 = .ok (.imul, 1) := by decide +kernel
theorem dL_cell_19 : decode cL_cell 19 = .ok (.iload_n 1, 1) := by decide +kernel
theorem dL_cell_20 : decode cL_cell 20 = .ok (.bipush 11, 2) := by decide +kernel
theorem dL_cell_22 : decode cL_cell 22 = .ok (.iadd, 1) := by decide +kernel
theorem dL_cell_23 : decode cL_cell 23 = .ok (.imul, 1) := by decide +kernel
theorem dL_cell_24 : decode cL_cell 24 = .ok (.ireturn, 1) := by decide +kernel
theorem dL_low_0 : decode cL_low 0 = .ok (.iload_n 0, 1) := by decide +kernel
theorem dL_low_1 : decode cL_low 1 = .ok (.ldc 7, 2) := by decide +kernel
theorem dL_low_3 : decode cL_low 3 = .ok (.iand, 1) := by decide +kernel
theorem dL_low_4 : decode cL_low 4 = .ok (.iload_n 1, 1) := by decide +kernel
theorem dL_low_5 : decode cL_low 5 = .ok (.irem, 1) := by decide +kernel
theorem dL_low_6 : decode cL_low 6 = .ok (.ireturn, 1) := by decide +kernel
theorem dL_digest_0 : decode cL_digest 0 = .ok (.ldc2_w 8, 3) := by decide +kernel
theorem dL_digest_3 : decode cL_digest 3 = .ok (.lstore_n 1, 1) := by decide +kernel
theorem dL_digest_4 : decode cL_digest 4 = .ok (.iconst 0, 1) := by decide +kernel
theorem dL_digest_5 : decode cL_digest 5 = .ok (.istore_n 3, 1) := by decide +kernel
theorem dL_digest_6 : decode cL_digest 6 = .ok (.iload_n 3, 1) := by decide +kernel
theorem dL_digest_7 : decode cL_digest 7 = .ok (.bipush 11, 2) := by decide +kernel
theorem dL_digest_9 : decode cL_digest 9 = .ok (.if_icmp .ge 22, 3) := by decide +kernel
theorem dL_digest_12 : decode cL_digest 12 = .ok (.ldc2_w 10, 3) := by decide +kernel
theorem dL_digest_15 : decode cL_digest 15 = .ok (.lload_n 1, 1) := by decide +kernel
theorem dL_digest_16 : decode cL_digest 16 = .ok (.lmul, 1) := by decide +kernel
theorem dL_digest_17 : decode cL_digest 17 = .ok (.aload_n 0, 1) := by decide +kernel
theorem dL_digest_18 : decode cL_digest 18 = .ok (.iload_n 3, 1) := by decide +kernel
theorem dL_digest_19 : decode cL_digest 19 = .ok (.invokevirtual 12, 3) := by decide +kernel
theorem dL_digest_22 : decode cL_digest 22 = .ok (.i2l, 1) := by decide +kernel
theorem dL_digest_23 : decode cL_digest 23 = .ok (.ladd, 1) := by decide +kernel
theorem dL_digest_24 : decode cL_digest 24 = .ok (.lstore_n 1, 1) := by decide +kernel
theorem dL_digest_25 : decode cL_digest 25 = .ok (.iinc 3 1, 3) := by decide +kernel
theorem dL_digest_28 : decode cL_digest 28 = .ok (.goto (-22), 3) := by decide +kernel
theorem dL_digest_31 : decode cL_digest 31 = .ok (.iconst 0, 1) := by decide +kernel
theorem dL_digest_32 : decode cL_digest 32 = .ok (.istore_n 3, 1) := by decide +kernel
theorem dL_digest_33 : decode cL_digest 33 = .ok (.iload_n 3, 1) := by decide +kernel
theorem dL_digest_34 : decode cL_digest 34 = .ok (.iconst 4, 1) := by decide +kernel
theorem dL_digest_35 : decode cL_digest 35 = .ok (.aload_n 0, 1) := by decide +kernel
theorem dL_digest_36 : decode cL_digest 36 = .ok (.iconst 0, 1) := by decide +kernel
theorem dL_digest_37 : decode cL_digest 37 = .ok (.invokevirtual 12, 3) := by decide +kernel
theorem dL_digest_40 : decode cL_digest 40 = .ok (.imul, 1) := by decide +kernel
theorem dL_digest_41 : decode cL_digest 41 = .ok (.if_icmp .ge 27, 3) := by decide +kernel
theorem dL_digest_44 : decode cL_digest 44 = .ok (.ldc2_w 10, 3) := by decide +kernel
theorem dL_digest_47 : decode cL_digest 47 = .ok (.lload_n 1, 1) := by decide +kernel
theorem dL_digest_48 : decode cL_digest 48 = .ok (.lmul, 1) := by decide +kernel
theorem dL_digest_49 : decode cL_digest 49 = .ok (.aload_n 0, 1) := by decide +kernel
theorem dL_digest_50 : decode cL_digest 50 = .ok (.iload_n 3, 1) := by decide +kernel
theorem dL_digest_51 : decode cL_digest 51 = .ok (.iconst 4, 1) := by decide +kernel
theorem dL_digest_52 : decode cL_digest 52 = .ok (.idiv, 1) := by decide +kernel
theorem dL_digest_53 : decode cL_digest 53 = .ok (.iload_n 3, 1) := by decide +kernel
theorem dL_digest_54 : decode cL_digest 54 = .ok (.iconst 4, 1) := by decide +kernel
theorem dL_digest_55 : decode cL_digest 55 = .ok (.irem, 1) := by decide +kernel
theorem dL_digest_56 : decode cL_digest 56 = .ok (.invokevirtual 18, 3) := by decide +kernel
theorem dL_digest_59 : decode cL_digest 59 = .ok (.i2l, 1) := by decide +kernel
theorem dL_digest_60 : decode cL_digest 60 = .ok (.ladd, 1) := by decide +kernel
theorem dL_digest_61 : decode cL_digest 61 = .ok (.lstore_n 1, 1) := by decide +kernel
theorem dL_digest_62 : decode cL_digest 62 = .ok (.iinc 3 1, 3) := by decide +kernel
theorem dL_digest_65 : decode cL_digest 65 = .ok (.goto (-32), 3) := by decide +kernel
theorem dL_digest_68 : decode cL_digest 68 = .ok (.iconst 0, 1) := by decide +kernel
theorem dL_digest_69 : decode cL_digest 69 = .ok (.istore_n 3, 1) := by decide +kernel
theorem dL_digest_70 : decode cL_digest 70 = .ok (.iload_n 3, 1) := by decide +kernel
theorem dL_digest_71 : decode cL_digest 71 = .ok (.bipush 9, 2) := by decide +kernel
theorem dL_digest_73 : decode cL_digest 73 = .ok (.aload_n 0, 1) := by decide +kernel
theorem dL_digest_74 : decode cL_digest 74 = .ok (.iconst 2, 1) := by decide +kernel
theorem dL_digest_75 : decode cL_digest 75 = .ok (.invokevirtual 12, 3) := by decide +kernel
theorem dL_digest_78 : decode cL_digest 78 = .ok (.imul, 1) := by decide +kernel
theorem dL_digest_79 : decode cL_digest 79 = .ok (.if_icmp .ge 29, 3) := by decide +kernel
theorem dL_digest_82 : decode cL_digest 82 = .ok (.ldc2_w 10, 3) := by decide +kernel
theorem dL_digest_85 : decode cL_digest 85 = .ok (.lload_n 1, 1) := by decide +kernel
theorem dL_digest_86 : decode cL_digest 86 = .ok (.lmul, 1) := by decide +kernel
theorem dL_digest_87 : decode cL_digest 87 = .ok (.aload_n 0, 1) := by decide +kernel
theorem dL_digest_88 : decode cL_digest 88 = .ok (.iload_n 3, 1) := by decide +kernel
theorem dL_digest_89 : decode cL_digest 89 = .ok (.bipush 9, 2) := by decide +kernel
theorem dL_digest_91 : decode cL_digest 91 = .ok (.idiv, 1) := by decide +kernel
theorem dL_digest_92 : decode cL_digest 92 = .ok (.iload_n 3, 1) := by decide +kernel
theorem dL_digest_93 : decode cL_digest 93 = .ok (.bipush 9, 2) := by decide +kernel
theorem dL_digest_95 : decode cL_digest 95 = .ok (.irem, 1) := by decide +kernel
theorem dL_digest_96 : decode cL_digest 96 = .ok (.invokevirtual 22, 3) := by decide +kernel
theorem dL_digest_99 : decode cL_digest 99 = .ok (.i2l, 1) := by decide +kernel
theorem dL_digest_100 : decode cL_digest 100 = .ok (.ladd, 1) := by decide +kernel
theorem dL_digest_101 : decode cL_digest 101 = .ok (.lstore_n 1, 1) := by decide +kernel
theorem dL_digest_102 : decode cL_digest 102 = .ok (.iinc 3 1, 3) := by decide +kernel
theorem dL_digest_105 : decode cL_digest 105 = .ok (.goto (-35), 3) := by decide +kernel
theorem dL_digest_108 : decode cL_digest 108 = .ok (.iconst 0, 1) := by decide +kernel
theorem dL_digest_109 : decode cL_digest 109 = .ok (.istore_n 3, 1) := by decide +kernel
theorem dL_digest_110 : decode cL_digest 110 = .ok (.iload_n 3, 1) := by decide +kernel
theorem dL_digest_111 : decode cL_digest 111 = .ok (.bipush 12, 2) := by decide +kernel
theorem dL_digest_113 : decode cL_digest 113 = .ok (.if_icmp .ge 22, 3) := by decide +kernel
theorem dL_digest_116 : decode cL_digest 116 = .ok (.ldc2_w 10, 3) := by decide +kernel
theorem dL_digest_119 : decode cL_digest 119 = .ok (.lload_n 1, 1) := by decide +kernel
theorem dL_digest_120 : decode cL_digest 120 = .ok (.lmul, 1) := by decide +kernel
theorem dL_digest_121 : decode cL_digest 121 = .ok (.aload_n 0, 1) := by decide +kernel
theorem dL_digest_122 : decode cL_digest 122 = .ok (.iload_n 3, 1) := by decide +kernel
theorem dL_digest_123 : decode cL_digest 123 = .ok (.invokevirtual 25, 3) := by decide +kernel
theorem dL_digest_126 : decode cL_digest 126 = .ok (.i2l, 1) := by decide +kernel
theorem dL_digest_127 : decode cL_digest 127 = .ok (.ladd, 1) := by decide +kernel
theorem dL_digest_128 : decode cL_digest 128 = .ok (.lstore_n 1, 1) := by decide +kernel
theorem dL_digest_129 : decode cL_digest 129 = .ok (.iinc 3 1, 3) := by decide +kernel
theorem dL_digest_132 : decode cL_digest 132 = .ok (.goto (-22), 3) := by decide +kernel
theorem dL_digest_135 : decode cL_digest 135 = .ok (.bipush 13, 2) := by decide +kernel
theorem dL_digest_137 : decode cL_digest 137 = .ok (.istore_n 3, 1) := by decide +kernel
theorem dL_digest_138 : decode cL_digest 138 = .ok (.iload_n 3, 1) := by decide +kernel
theorem dL_digest_139 : decode cL_digest 139 = .ok (.bipush 17, 2) := by decide +kernel
theorem dL_digest_141 : decode cL_digest 141 = .ok (.if_icmp .ge 22, 3) := by decide +kernel
theorem dL_digest_144 : decode cL_digest 144 = .ok (.ldc2_w 10, 3) := by decide +kernel
theorem dL_digest_147 : decode cL_digest 147 = .ok (.lload_n 1, 1) := by decide +kernel
theorem dL_digest_148 : decode cL_digest 148 = .ok (.lmul, 1) := by decide +kernel
theorem dL_digest_149 : decode cL_digest 149 = .ok (.aload_n 0, 1) := by decide +kernel
theorem dL_digest_150 : decode cL_digest 150 = .ok (.iload_n 3, 1) := by decide +kernel
theorem dL_digest_151 : decode cL_digest 151 = .ok (.invokevirtual 12, 3) := by decide +kernel
theorem dL_digest_154 : decode cL_digest 154 = .ok (.i2l, 1) := by decide +kernel
theorem dL_digest_155 : decode cL_digest 155 = .ok (.ladd, 1) := by decide +kernel
theorem dL_digest_156 : decode cL_digest 156 = .ok (.lstore_n 1, 1) := by decide +kernel
theorem dL_digest_157 : decode cL_digest 157 = .ok (.iinc 3 1, 3) := by decide +kernel
theorem dL_digest_160 : decode cL_digest 160 = .ok (.goto (-22), 3) := by decide +kernel
theorem dL_digest_163 : decode cL_digest 163 = .ok (.lload_n 1, 1) := by decide +kernel
theorem dL_digest_164 : decode cL_digest 164 = .ok (.lreturn, 1) := by decide +kernel
theorem dL_act_0 : decode cL_act 0 = .ok (.iload_n 1, 1) := by decide +kernel
theorem dL_act_1 : decode cL_act 1 = .ok (.iconst 4, 1) := by decide +kernel
theorem dL_act_2 : decode cL_act 2 = .ok (.ishr, 1) := by decide +kernel
theorem dL_act_3 : decode cL_act 3 = .ok (.aload_n 0, 1) := by decide +kernel
theorem dL_act_4 : decode cL_act 4 = .ok (.iconst 0, 1) := by decide +kernel
theorem dL_act_5 : decode cL_act 5 = .ok (.invokevirtual 12, 3) := by decide +kernel
theorem dL_act_8 : decode cL_act 8 = .ok (.iconst 1, 1) := by decide +kernel
theorem dL_act_9 : decode cL_act 9 = .ok (.iadd, 1) := by decide +kernel
theorem dL_act_10 : decode cL_act 10 = .ok (.invokestatic 28, 3) := by decide +kernel
theorem dL_act_13 : decode cL_act 13 = .ok (.istore_n 2, 1) := by decide +kernel
theorem dL_act_14 : decode cL_act 14 = .ok (.iload_n 1, 1) := by decide +kernel
theorem dL_act_15 : decode cL_act 15 = .ok (.iconst 4, 1) := by decide +kernel
theorem dL_act_16 : decode cL_act 16 = .ok (.ishr, 1) := by decide +kernel
theorem dL_act_17 : decode cL_act 17 = .ok (.aload_n 0, 1) := by decide +kernel
theorem dL_act_18 : decode cL_act 18 = .ok (.iconst 2, 1) := by decide +kernel
theorem dL_act_19 : decode cL_act 19 = .ok (.invokevirtual 12, 3) := by decide +kernel
theorem dL_act_22 : decode cL_act 22 = .ok (.iconst 1, 1) := by decide +kernel
theorem dL_act_23 : decode cL_act 23 = .ok (.iadd, 1) := by decide +kernel
theorem dL_act_24 : decode cL_act 24 = .ok (.invokestatic 28, 3) := by decide +kernel
theorem dL_act_27 : decode cL_act 27 = .ok (.istore_n 3, 1) := by decide +kernel
theorem dL_act_28 : decode cL_act 28 = .ok (.iload_n 1, 1) := by decide +kernel
theorem dL_act_29 : decode cL_act 29 = .ok (.bipush 15, 2) := by decide +kernel
theorem dL_act_31 : decode cL_act 31 = .ok (.iand, 1) := by decide +kernel
theorem dL_act_32 : decode cL_act 32 = .ok (.tableswitch 260 0 14 #[76, 101, 115, 129, 145, 150, 150, 177, 177, 221, 221, 227, 233, 238, 244], 76) := by decide +kernel
theorem dL_act_108 : decode cL_act 108 = .ok (.aload_n 0, 1) := by decide +kernel
theorem dL_act_109 : decode cL_act 109 = .ok (.iload_n 1, 1) := by decide +kernel
theorem dL_act_110 : decode cL_act 110 = .ok (.iconst 4, 1) := by decide +kernel
theorem dL_act_111 : decode cL_act 111 = .ok (.ishr, 1) := by decide +kernel
theorem dL_act_112 : decode cL_act 112 = .ok (.bipush 12, 2) := by decide +kernel
theorem dL_act_114 : decode cL_act 114 = .ok (.invokestatic 28, 3) := by decide +kernel
theorem dL_act_117 : decode cL_act 117 = .ok (.iload_n 1, 1) := by decide +kernel
theorem dL_act_118 : decode cL_act 118 = .ok (.bipush 8, 2) := by decide +kernel
theorem dL_act_120 : decode cL_act 120 = .ok (.ishr, 1) := by decide +kernel
theorem dL_act_121 : decode cL_act 121 = .ok (.bipush 41, 2) := by decide +kernel
theorem dL_act_123 : decode cL_act 123 = .ok (.invokestatic 28, 3) := by decide +kernel
theorem dL_act_126 : decode cL_act 126 = .ok (.bipush 20, 2) := by decide +kernel
theorem dL_act_128 : decode cL_act 128 = .ok (.isub, 1) := by decide +kernel
theorem dL_act_129 : decode cL_act 129 = .ok (.invokevirtual 33, 3) := by decide +kernel
theorem dL_act_132 : decode cL_act 132 = .ok (.ireturn, 1) := by decide +kernel
theorem dL_act_133 : decode cL_act 133 = .ok (.aload_n 0, 1) := by decide +kernel
theorem dL_act_134 : decode cL_act 134 = .ok (.iconst 0, 1) := by decide +kernel
theorem dL_act_135 : decode cL_act 135 = .ok (.iload_n 1, 1) := by decide +kernel
theorem dL_act_136 : decode cL_act 136 = .ok (.iconst 4, 1) := by decide +kernel
theorem dL_act_137 : decode cL_act 137 = .ok (.ishr, 1) := by decide +kernel
theorem dL_act_138 : decode cL_act 138 = .ok (.bipush 11, 2) := by decide +kernel
theorem dL_act_140 : decode cL_act 140 = .ok (.invokestatic 28, 3) := by decide +kernel
theorem dL_act_143 : decode cL_act 143 = .ok (.invokevirtual 36, 3) := by decide +kernel
theorem dL_act_146 : decode cL_act 146 = .ok (.ireturn, 1) := by decide +kernel
theorem dL_act_147 : decode cL_act 147 = .ok (.aload_n 0, 1) := by decide +kernel
theorem dL_act_148 : decode cL_act 148 = .ok (.iconst 2, 1) := by decide +kernel
theorem dL_act_149 : decode cL_act 149 = .ok (.iload_n 1, 1) := by decide +kernel
theorem dL_act_150 : decode cL_act 150 = .ok (.iconst 4, 1) := by decide +kernel
theorem dL_act_151 : decode cL_act 151 = .ok (.ishr, 1) := by decide +kernel
theorem dL_act_152 : decode cL_act 152 = .ok (.bipush 61, 2) := by decide +kernel
theorem dL_act_154 : decode cL_act 154 = .ok (.invokestatic 28, 3) := by decide +kernel
theorem dL_act_157 : decode cL_act 157 = .ok (.invokevirtual 36, 3) := by decide +kernel
theorem dL_act_160 : decode cL_act 160 = .ok (.ireturn, 1) := by decide +kernel
theorem dL_act_161 : decode cL_act 161 = .ok (.aload_n 0, 1) := by decide +kernel
theorem dL_act_162 : decode cL_act 162 = .ok (.iconst 3, 1) := by decide +kernel
theorem dL_act_163 : decode cL_act 163 = .ok (.iconst 1, 1) := by decide +kernel
theorem dL_act_164 : decode cL_act 164 = .ok (.iload_n 1, 1) := by decide +kernel
theorem dL_act_165 : decode cL_act 165 = .ok (.iconst 4, 1) := by decide +kernel
theorem dL_act_166 : decode cL_act 166 = .ok (.ishr, 1) := by decide +kernel
theorem dL_act_167 : decode cL_act 167 = .ok (.bipush 40, 2) := by decide +kernel
theorem dL_act_169 : decode cL_act 169 = .ok (.invokestatic 28, 3) := by decide +kernel
theorem dL_act_172 : decode cL_act 172 = .ok (.iadd, 1) := by decide +kernel
theorem dL_act_173 : decode cL_act 173 = .ok (.invokevirtual 36, 3) := by decide +kernel
theorem dL_act_176 : decode cL_act 176 = .ok (.ireturn, 1) := by decide +kernel
theorem dL_act_177 : decode cL_act 177 = .ok (.aload_n 0, 1) := by decide +kernel
theorem dL_act_178 : decode cL_act 178 = .ok (.invokevirtual 39, 3) := by decide +kernel
theorem dL_act_181 : decode cL_act 181 = .ok (.ireturn, 1) := by decide +kernel
theorem dL_act_182 : decode cL_act 182 = .ok (.aload_n 0, 1) := by decide +kernel
theorem dL_act_183 : decode cL_act 183 = .ok (.iload_n 2, 1) := by decide +kernel
theorem dL_act_184 : decode cL_act 184 = .ok (.iload_n 1, 1) := by decide +kernel
theorem dL_act_185 : decode cL_act 185 = .ok (.bipush 8, 2) := by decide +kernel
theorem dL_act_187 : decode cL_act 187 = .ok (.ishr, 1) := by decide +kernel
theorem dL_act_188 : decode cL_act 188 = .ok (.bipush 9, 2) := by decide +kernel
theorem dL_act_190 : decode cL_act 190 = .ok (.invokestatic 28, 3) := by decide +kernel
theorem dL_act_193 : decode cL_act 193 = .ok (.iconst 4, 1) := by decide +kernel
theorem dL_act_194 : decode cL_act 194 = .ok (.isub, 1) := by decide +kernel
theorem dL_act_195 : decode cL_act 195 = .ok (.bipush 10, 2) := by decide +kernel
theorem dL_act_197 : decode cL_act 197 = .ok (.iload_n 1, 1) := by decide +kernel
theorem dL_act_198 : decode cL_act 198 = .ok (.bipush 12, 2) := by decide +kernel
theorem dL_act_200 : decode cL_act 200 = .ok (.ishr, 1) := by decide +kernel
theorem dL_act_201 : decode cL_act 201 = .ok (.iconst 1, 1) := by decide +kernel
theorem dL_act_202 : decode cL_act 202 = .ok (.iand, 1) := by decide +kernel
theorem dL_act_203 : decode cL_act 203 = .ok (.imul, 1) := by decide +kernel
theorem dL_act_204 : decode cL_act 204 = .ok (.iadd, 1) := by decide +kernel
theorem dL_act_205 : decode cL_act 205 = .ok (.invokevirtual 43, 3) := by decide +kernel
theorem dL_act_208 : decode cL_act 208 = .ok (.ireturn, 1) := by decide +kernel
theorem dL_act_209 : decode cL_act 209 = .ok (.aload_n 0, 1) := by decide +kernel
theorem dL_act_210 : decode cL_act 210 = .ok (.bipush 10, 2) := by decide +kernel
theorem dL_act_212 : decode cL_act 212 = .ok (.iload_n 1, 1) := by decide +kernel
theorem dL_act_213 : decode cL_act 213 = .ok (.bipush 6, 2) := by decide +kernel
theorem dL_act_215 : decode cL_act 215 = .ok (.ishr, 1) := by decide +kernel
theorem dL_act_216 : decode cL_act 216 = .ok (.bipush 61, 2) := by decide +kernel
theorem dL_act_218 : decode cL_act 218 = .ok (.invokestatic 28, 3) := by decide +kernel
theorem dL_act_221 : decode cL_act 221 = .ok (.iadd, 1) := by decide +kernel
theorem dL_act_222 : decode cL_act 222 = .ok (.iload_n 2, 1) := by decide +kernel
theorem dL_act_223 : decode cL_act 223 = .ok (.iconst 1, 1) := by decide +kernel
theorem dL_act_224 : decode cL_act 224 = .ok (.isub, 1) := by decide +kernel
theorem dL_act_225 : decode cL_act 225 = .ok (.bipush 10, 2) := by decide +kernel
theorem dL_act_227 : decode cL_act 227 = .ok (.iload_n 1, 1) := by decide +kernel
theorem dL_act_228 : decode cL_act 228 = .ok (.bipush 12, 2) := by decide +kernel
theorem dL_act_230 : decode cL_act 230 = .ok (.ishr, 1) := by decide +kernel
theorem dL_act_231 : decode cL_act 231 = .ok (.bipush 45, 2) := by decide +kernel
theorem dL_act_233 : decode cL_act 233 = .ok (.invokestatic 28, 3) := by decide +kernel
theorem dL_act_236 : decode cL_act 236 = .ok (.iadd, 1) := by decide +kernel
theorem dL_act_237 : decode cL_act 237 = .ok (.iload_n 1, 1) := by decide +kernel
theorem dL_act_238 : decode cL_act 238 = .ok (.bipush 17, 2) := by decide +kernel
theorem dL_act_240 : decode cL_act 240 = .ok (.ishr, 1) := by decide +kernel
theorem dL_act_241 : decode cL_act 241 = .ok (.bipush 121, 2) := by decide +kernel
theorem dL_act_243 : decode cL_act 243 = .ok (.invokestatic 28, 3) := by decide +kernel
theorem dL_act_246 : decode cL_act 246 = .ok (.bipush 60, 2) := by decide +kernel
theorem dL_act_248 : decode cL_act 248 = .ok (.isub, 1) := by decide +kernel
theorem dL_act_249 : decode cL_act 249 = .ok (.invokevirtual 46, 3) := by decide +kernel
theorem dL_act_252 : decode cL_act 252 = .ok (.ireturn, 1) := by decide +kernel
theorem dL_act_253 : decode cL_act 253 = .ok (.aload_n 0, 1) := by decide +kernel
theorem dL_act_254 : decode cL_act 254 = .ok (.iload_n 3, 1) := by decide +kernel
theorem dL_act_255 : decode cL_act 255 = .ok (.invokevirtual 50, 3) := by decide +kernel
theorem dL_act_258 : decode cL_act 258 = .ok (.ireturn, 1) := by decide +kernel
theorem dL_act_259 : decode cL_act 259 = .ok (.aload_n 0, 1) := by decide +kernel
theorem dL_act_260 : decode cL_act 260 = .ok (.iload_n 3, 1) := by decide +kernel
theorem dL_act_261 : decode cL_act 261 = .ok (.invokevirtual 53, 3) := by decide +kernel
theorem dL_act_264 : decode cL_act 264 = .ok (.ireturn, 1) := by decide +kernel
theorem dL_act_265 : decode cL_act 265 = .ok (.aload_n 0, 1) := by decide +kernel
theorem dL_act_266 : decode cL_act 266 = .ok (.invokevirtual 56, 3) := by decide +kernel
theorem dL_act_269 : decode cL_act 269 = .ok (.ireturn, 1) := by decide +kernel
theorem dL_act_270 : decode cL_act 270 = .ok (.aload_n 0, 1) := by decide +kernel
theorem dL_act_271 : decode cL_act 271 = .ok (.iload_n 3, 1) := by decide +kernel
theorem dL_act_272 : decode cL_act 272 = .ok (.invokevirtual 59, 3) := by decide +kernel
theorem dL_act_275 : decode cL_act 275 = .ok (.ireturn, 1) := by decide +kernel
theorem dL_act_276 : decode cL_act 276 = .ok (.aload_n 0, 1) := by decide +kernel
theorem dL_act_277 : decode cL_act 277 = .ok (.iconst 1, 1) := by decide +kernel
theorem dL_act_278 : decode cL_act 278 = .ok (.iconst 1, 1) := by decide +kernel
theorem dL_act_279 : decode cL_act 279 = .ok (.iload_n 1, 1) := by decide +kernel
theorem dL_act_280 : decode cL_act 280 = .ok (.iconst 4, 1) := by decide +kernel
theorem dL_act_281 : decode cL_act 281 = .ok (.ishr, 1) := by decide +kernel
theorem dL_act_282 : decode cL_act 282 = .ok (.bipush 13, 2) := by decide +kernel
theorem dL_act_284 : decode cL_act 284 = .ok (.invokestatic 28, 3) := by decide +kernel
theorem dL_act_287 : decode cL_act 287 = .ok (.iadd, 1) := by decide +kernel
theorem dL_act_288 : decode cL_act 288 = .ok (.invokevirtual 36, 3) := by decide +kernel
theorem dL_act_291 : decode cL_act 291 = .ok (.ireturn, 1) := by decide +kernel
theorem dL_act_292 : decode cL_act 292 = .ok (.aload_n 0, 1) := by decide +kernel
theorem dL_act_293 : decode cL_act 293 = .ok (.iload_n 1, 1) := by decide +kernel
theorem dL_act_294 : decode cL_act 294 = .ok (.iconst 4, 1) := by decide +kernel
theorem dL_act_295 : decode cL_act 295 = .ok (.ishr, 1) := by decide +kernel
theorem dL_act_296 : decode cL_act 296 = .ok (.iconst 1, 1) := by decide +kernel
theorem dL_act_297 : decode cL_act 297 = .ok (.iand, 1) := by decide +kernel
theorem dL_act_298 : decode cL_act 298 = .ok (.invokevirtual 62, 3) := by decide +kernel
theorem dL_act_301 : decode cL_act 301 = .ok (.ireturn, 1) := by decide +kernel
theorem dL_isError_0 : decode cL_isError 0 = .ok (.iload_n 0, 1) := by decide +kernel
theorem dL_isError_1 : decode cL_isError 1 = .ok (.ldc 65, 2) := by decide +kernel
theorem dL_isError_3 : decode cL_isError 3 = .ok (.if_icmp .gt 13, 3) := by decide +kernel
theorem dL_isError_6 : decode cL_isError 6 = .ok (.iload_n 0, 1) := by decide +kernel
theorem dL_isError_7 : decode cL_isError 7 = .ok (.ldc 66, 2) := by decide +kernel
theorem dL_isError_9 : decode cL_isError 9 = .ok (.if_icmp .lt 7, 3) := by decide +kernel
theorem dL_isError_12 : decode cL_isError 12 = .ok (.iconst 1, 1) := by decide +kernel
theorem dL_isError_13 : decode cL_isError 13 = .ok (.goto 4, 3) := by decide +kernel
theorem dL_isError_16 : decode cL_isError 16 = .ok (.iconst 0, 1) := by decide +kernel
theorem dL_isError_17 : decode cL_isError 17 = .ok (.ireturn, 1) := by decide +kernel
theorem dL_addsUp_0 : decode cL_addsUp 0 = .ok (.iconst 0, 1) := by decide +kernel
theorem dL_addsUp_1 : decode cL_addsUp 1 = .ok (.istore_n 1, 1) := by decide +kernel
theorem dL_addsUp_2 : decode cL_addsUp 2 = .ok (.iconst 0, 1) := by decide +kernel
theorem dL_addsUp_3 : decode cL_addsUp 3 = .ok (.istore_n 2, 1) := by decide +kernel
theorem dL_addsUp_4 : decode cL_addsUp 4 = .ok (.iconst 3, 1) := by decide +kernel
theorem dL_addsUp_5 : decode cL_addsUp 5 = .ok (.istore_n 3, 1) := by decide +kernel
theorem dL_addsUp_6 : decode cL_addsUp 6 = .ok (.iload_n 3, 1) := by decide +kernel
theorem dL_addsUp_7 : decode cL_addsUp 7 = .ok (.bipush 8, 2) := by decide +kernel
theorem dL_addsUp_9 : decode cL_addsUp 9 = .ok (.if_icmp .ge 17, 3) := by decide +kernel
theorem dL_addsUp_12 : decode cL_addsUp 12 = .ok (.iload_n 1, 1) := by decide +kernel
theorem dL_addsUp_13 : decode cL_addsUp 13 = .ok (.aload_n 0, 1) := by decide +kernel
theorem dL_addsUp_14 : decode cL_addsUp 14 = .ok (.iload_n 3, 1) := by decide +kernel
theorem dL_addsUp_15 : decode cL_addsUp 15 = .ok (.invokevirtual 12, 3) := by decide +kernel
theorem dL_addsUp_18 : decode cL_addsUp 18 = .ok (.iadd, 1) := by decide +kernel
theorem dL_addsUp_19 : decode cL_addsUp 19 = .ok (.istore_n 1, 1) := by decide +kernel
theorem dL_addsUp_20 : decode cL_addsUp 20 = .ok (.iinc 3 1, 3) := by decide +kernel
theorem dL_addsUp_23 : decode cL_addsUp 23 = .ok (.goto (-17), 3) := by decide +kernel
theorem dL_addsUp_26 : decode cL_addsUp 26 = .ok (.iconst 0, 1) := by decide +kernel
theorem dL_addsUp_27 : decode cL_addsUp 27 = .ok (.istore_n 3, 1) := by decide +kernel
theorem dL_addsUp_28 : decode cL_addsUp 28 = .ok (.iload_n 3, 1) := by decide +kernel
theorem dL_addsUp_29 : decode cL_addsUp 29 = .ok (.aload_n 0, 1) := by decide +kernel
theorem dL_addsUp_30 : decode cL_addsUp 30 = .ok (.iconst 2, 1) := by decide +kernel
theorem dL_addsUp_31 : decode cL_addsUp 31 = .ok (.invokevirtual 12, 3) := by decide +kernel
theorem dL_addsUp_34 : decode cL_addsUp 34 = .ok (.if_icmp .ge 133, 3) := by decide +kernel
theorem dL_addsUp_37 : decode cL_addsUp 37 = .ok (.aload_n 0, 1) := by decide +kernel
theorem dL_addsUp_38 : decode cL_addsUp 38 = .ok (.iload_n 3, 1) := by decide +kernel
theorem dL_addsUp_39 : decode cL_addsUp 39 = .ok (.iconst 4, 1) := by decide +kernel
theorem dL_addsUp_40 : decode cL_addsUp 40 = .ok (.invokevirtual 22, 3) := by decide +kernel
theorem dL_addsUp_43 : decode cL_addsUp 43 = .ok (.istore 4, 2) := by decide +kernel
theorem dL_addsUp_45 : decode cL_addsUp 45 = .ok (.iload 4, 2) := by decide +kernel
theorem dL_addsUp_47 : decode cL_addsUp 47 = .ok (.iconst 2, 1) := by decide +kernel
theorem dL_addsUp_48 : decode cL_addsUp 48 = .ok (.if_icmp .eq 9, 3) := by decide +kernel
theorem dL_addsUp_51 : decode cL_addsUp 51 = .ok (.iload 4, 2) := by decide +kernel
theorem dL_addsUp_53 : decode cL_addsUp 53 = .ok (.iconst 3, 1) := by decide +kernel
theorem dL_addsUp_54 : decode cL_addsUp 54 = .ok (.if_icmp .ne 7, 3) := by decide +kernel
theorem dL_addsUp_57 : decode cL_addsUp 57 = .ok (.iconst 1, 1) := by decide +kernel
theorem dL_addsUp_58 : decode cL_addsUp 58 = .ok (.goto 4, 3) := by decide +kernel
theorem dL_addsUp_61 : decode cL_addsUp 61 = .ok (.iconst 0, 1) := by decide +kernel
theorem dL_addsUp_62 : decode cL_addsUp 62 = .ok (.istore 5, 2) := by decide +kernel
theorem dL_addsUp_64 : decode cL_addsUp 64 = .ok (.iload_n 2, 1) := by decide +kernel
theorem dL_addsUp_65 : decode cL_addsUp 65 = .ok (.iload 5, 2) := by decide +kernel
theorem dL_addsUp_67 : decode cL_addsUp 67 = .ok (.ifCond .eq 13, 3) := by decide +kernel
theorem dL_addsUp_70 : decode cL_addsUp 70 = .ok (.aload_n 0, 1) := by decide +kernel
theorem dL_addsUp_71 : decode cL_addsUp 71 = .ok (.iload_n 3, 1) := by decide +kernel
theorem dL_addsUp_72 : decode cL_addsUp 72 = .ok (.bipush 6, 2) := by decide +kernel
theorem dL_addsUp_74 : decode cL_addsUp 74 = .ok (.invokevirtual 22, 3) := by decide +kernel
theorem dL_addsUp_77 : decode cL_addsUp 77 = .ok (.goto 4, 3) := by decide +kernel
theorem dL_addsUp_80 : decode cL_addsUp 80 = .ok (.iconst 0, 1) := by decide +kernel
theorem dL_addsUp_81 : decode cL_addsUp 81 = .ok (.iadd, 1) := by decide +kernel
theorem dL_addsUp_82 : decode cL_addsUp 82 = .ok (.istore_n 2, 1) := by decide +kernel
theorem dL_addsUp_83 : decode cL_addsUp 83 = .ok (.iload 5, 2) := by decide +kernel
theorem dL_addsUp_85 : decode cL_addsUp 85 = .ok (.aload_n 0, 1) := by decide +kernel
theorem dL_addsUp_86 : decode cL_addsUp 86 = .ok (.iload_n 3, 1) := by decide +kernel
theorem dL_addsUp_87 : decode cL_addsUp 87 = .ok (.bipush 7, 2) := by decide +kernel
theorem dL_addsUp_89 : decode cL_addsUp 89 = .ok (.invokevirtual 22, 3) := by decide +kernel
theorem dL_addsUp_92 : decode cL_addsUp 92 = .ok (.ifCond .lt 7, 3) := by decide +kernel
theorem dL_addsUp_95 : decode cL_addsUp 95 = .ok (.iconst 1, 1) := by decide +kernel
theorem dL_addsUp_96 : decode cL_addsUp 96 = .ok (.goto 4, 3) := by decide +kernel
theorem dL_addsUp_99 : decode cL_addsUp 99 = .ok (.iconst 0, 1) := by decide +kernel
theorem dL_addsUp_100 : decode cL_addsUp 100 = .ok (.if_icmp .ne 35, 3) := by decide +kernel
theorem dL_addsUp_103 : decode cL_addsUp 103 = .ok (.aload_n 0, 1) := by decide +kernel
theorem dL_addsUp_104 : decode cL_addsUp 104 = .ok (.iload_n 3, 1) := by decide +kernel
theorem dL_addsUp_105 : decode cL_addsUp 105 = .ok (.bipush 7, 2) := by decide +kernel
theorem dL_addsUp_107 : decode cL_addsUp 107 = .ok (.invokevirtual 22, 3) := by decide +kernel
theorem dL_addsUp_110 : decode cL_addsUp 110 = .ok (.aload_n 0, 1) := by decide +kernel
theorem dL_addsUp_111 : decode cL_addsUp 111 = .ok (.bipush 8, 2) := by decide +kernel
theorem dL_addsUp_113 : decode cL_addsUp 113 = .ok (.invokevirtual 12, 3) := by decide +kernel
theorem dL_addsUp_116 : decode cL_addsUp 116 = .ok (.if_icmp .ge 19, 3) := by decide +kernel
theorem dL_addsUp_119 : decode cL_addsUp 119 = .ok (.iload 4, 2) := by decide +kernel
theorem dL_addsUp_121 : decode cL_addsUp 121 = .ok (.iconst 4, 1) := by decide +kernel
theorem dL_addsUp_122 : decode cL_addsUp 122 = .ok (.if_icmp .ne 15, 3) := by decide +kernel
theorem dL_addsUp_125 : decode cL_addsUp 125 = .ok (.aload_n 0, 1) := by decide +kernel
theorem dL_addsUp_126 : decode cL_addsUp 126 = .ok (.iload_n 3, 1) := by decide +kernel
theorem dL_addsUp_127 : decode cL_addsUp 127 = .ok (.bipush 8, 2) := by decide +kernel
theorem dL_addsUp_129 : decode cL_addsUp 129 = .ok (.invokevirtual 22, 3) := by decide +kernel
theorem dL_addsUp_132 : decode cL_addsUp 132 = .ok (.ifCond .ne 5, 3) := by decide +kernel
theorem dL_addsUp_135 : decode cL_addsUp 135 = .ok (.iconst 0, 1) := by decide +kernel
theorem dL_addsUp_136 : decode cL_addsUp 136 = .ok (.ireturn, 1) := by decide +kernel
theorem dL_addsUp_137 : decode cL_addsUp 137 = .ok (.iload 4, 2) := by decide +kernel
theorem dL_addsUp_139 : decode cL_addsUp 139 = .ok (.ifCond .le 22, 3) := by decide +kernel
theorem dL_addsUp_142 : decode cL_addsUp 142 = .ok (.iload 4, 2) := by decide +kernel
theorem dL_addsUp_144 : decode cL_addsUp 144 = .ok (.iconst 4, 1) := by decide +kernel
theorem dL_addsUp_145 : decode cL_addsUp 145 = .ok (.if_icmp .ge 16, 3) := by decide +kernel
theorem dL_addsUp_148 : decode cL_addsUp 148 = .ok (.aload_n 0, 1) := by decide +kernel
theorem dL_addsUp_149 : decode cL_addsUp 149 = .ok (.iload_n 3, 1) := by decide +kernel
theorem dL_addsUp_150 : decode cL_addsUp 150 = .ok (.iconst 5, 1) := by decide +kernel
theorem dL_addsUp_151 : decode cL_addsUp 151 = .ok (.invokevirtual 22, 3) := by decide +kernel
theorem dL_addsUp_154 : decode cL_addsUp 154 = .ok (.ldc 67, 2) := by decide +kernel
theorem dL_addsUp_156 : decode cL_addsUp 156 = .ok (.if_icmp .ne 5, 3) := by decide +kernel
theorem dL_addsUp_159 : decode cL_addsUp 159 = .ok (.iconst 0, 1) := by decide +kernel
theorem dL_addsUp_160 : decode cL_addsUp 160 = .ok (.ireturn, 1) := by decide +kernel
theorem dL_addsUp_161 : decode cL_addsUp 161 = .ok (.iinc 3 1, 3) := by decide +kernel
theorem dL_addsUp_164 : decode cL_addsUp 164 = .ok (.goto (-136), 3) := by decide +kernel
theorem dL_addsUp_167 : decode cL_addsUp 167 = .ok (.iconst 0, 1) := by decide +kernel
theorem dL_addsUp_168 : decode cL_addsUp 168 = .ok (.istore_n 3, 1) := by decide +kernel
theorem dL_addsUp_169 : decode cL_addsUp 169 = .ok (.iload_n 3, 1) := by decide +kernel
theorem dL_addsUp_170 : decode cL_addsUp 170 = .ok (.aload_n 0, 1) := by decide +kernel
theorem dL_addsUp_171 : decode cL_addsUp 171 = .ok (.iconst 0, 1) := by decide +kernel
theorem dL_addsUp_172 : decode cL_addsUp 172 = .ok (.invokevirtual 12, 3) := by decide +kernel
theorem dL_addsUp_175 : decode cL_addsUp 175 = .ok (.if_icmp .ge 84, 3) := by decide +kernel
theorem dL_addsUp_178 : decode cL_addsUp 178 = .ok (.aload_n 0, 1) := by decide +kernel
theorem dL_addsUp_179 : decode cL_addsUp 179 = .ok (.iload_n 3, 1) := by decide +kernel
theorem dL_addsUp_180 : decode cL_addsUp 180 = .ok (.iconst 0, 1) := by decide +kernel
theorem dL_addsUp_181 : decode cL_addsUp 181 = .ok (.invokevirtual 18, 3) := by decide +kernel
theorem dL_addsUp_184 : decode cL_addsUp 184 = .ok (.istore 4, 2) := by decide +kernel
theorem dL_addsUp_186 : decode cL_addsUp 186 = .ok (.aload_n 0, 1) := by decide +kernel
theorem dL_addsUp_187 : decode cL_addsUp 187 = .ok (.iload_n 3, 1) := by decide +kernel
theorem dL_addsUp_188 : decode cL_addsUp 188 = .ok (.iconst 1, 1) := by decide +kernel
theorem dL_addsUp_189 : decode cL_addsUp 189 = .ok (.invokevirtual 18, 3) := by decide +kernel
theorem dL_addsUp_192 : decode cL_addsUp 192 = .ok (.istore 5, 2) := by decide +kernel
theorem dL_addsUp_194 : decode cL_addsUp 194 = .ok (.aload_n 0, 1) := by decide +kernel
theorem dL_addsUp_195 : decode cL_addsUp 195 = .ok (.iload_n 3, 1) := by decide +kernel
theorem dL_addsUp_196 : decode cL_addsUp 196 = .ok (.iconst 2, 1) := by decide +kernel
theorem dL_addsUp_197 : decode cL_addsUp 197 = .ok (.invokevirtual 18, 3) := by decide +kernel
theorem dL_addsUp_200 : decode cL_addsUp 200 = .ok (.istore 6, 2) := by decide +kernel
theorem dL_addsUp_202 : decode cL_addsUp 202 = .ok (.iload 6, 2) := by decide +kernel
theorem dL_addsUp_204 : decode cL_addsUp 204 = .ok (.ldc 67, 2) := by decide +kernel
theorem dL_addsUp_206 : decode cL_addsUp 206 = .ok (.if_icmp .eq 31, 3) := by decide +kernel
theorem dL_addsUp_209 : decode cL_addsUp 209 = .ok (.iload 6, 2) := by decide +kernel
theorem dL_addsUp_211 : decode cL_addsUp 211 = .ok (.iload 4, 2) := by decide +kernel
theorem dL_addsUp_213 : decode cL_addsUp 213 = .ok (.if_icmp .ge 10, 3) := by decide +kernel
theorem dL_addsUp_216 : decode cL_addsUp 216 = .ok (.iload 6, 2) := by decide +kernel
theorem dL_addsUp_218 : decode cL_addsUp 218 = .ok (.iload 5, 2) := by decide +kernel
theorem dL_addsUp_220 : decode cL_addsUp 220 = .ok (.if_icmp .lt 31, 3) := by decide +kernel
theorem dL_addsUp_223 : decode cL_addsUp 223 = .ok (.iload 6, 2) := by decide +kernel
theorem dL_addsUp_225 : decode cL_addsUp 225 = .ok (.iload 4, 2) := by decide +kernel
theorem dL_addsUp_227 : decode cL_addsUp 227 = .ok (.if_icmp .le 10, 3) := by decide +kernel
theorem dL_addsUp_230 : decode cL_addsUp 230 = .ok (.iload 6, 2) := by decide +kernel
theorem dL_addsUp_232 : decode cL_addsUp 232 = .ok (.iload 5, 2) := by decide +kernel
theorem dL_addsUp_234 : decode cL_addsUp 234 = .ok (.if_icmp .gt 17, 3) := by decide +kernel
theorem dL_addsUp_237 : decode cL_addsUp 237 = .ok (.iload 4, 2) := by decide +kernel
theorem dL_addsUp_239 : decode cL_addsUp 239 = .ok (.ldc 67, 2) := by decide +kernel
theorem dL_addsUp_241 : decode cL_addsUp 241 = .ok (.if_icmp .ne 12, 3) := by decide +kernel
theorem dL_addsUp_244 : decode cL_addsUp 244 = .ok (.iload 5, 2) := by decide +kernel
theorem dL_addsUp_246 : decode cL_addsUp 246 = .ok (.ldc 67, 2) := by decide +kernel
theorem dL_addsUp_248 : decode cL_addsUp 248 = .ok (.if_icmp .eq 5, 3) := by decide +kernel
theorem dL_addsUp_251 : decode cL_addsUp 251 = .ok (.iconst 0, 1) := by decide +kernel
theorem dL_addsUp_252 : decode cL_addsUp 252 = .ok (.ireturn, 1) := by decide +kernel
theorem dL_addsUp_253 : decode cL_addsUp 253 = .ok (.iinc 3 1, 3) := by decide +kernel
theorem dL_addsUp_256 : decode cL_addsUp 256 = .ok (.goto (-87), 3) := by decide +kernel
theorem dL_addsUp_259 : decode cL_addsUp 259 = .ok (.iload_n 1, 1) := by decide +kernel
theorem dL_addsUp_260 : decode cL_addsUp 260 = .ok (.aload_n 0, 1) := by decide +kernel
theorem dL_addsUp_261 : decode cL_addsUp 261 = .ok (.iconst 2, 1) := by decide +kernel
theorem dL_addsUp_262 : decode cL_addsUp 262 = .ok (.invokevirtual 12, 3) := by decide +kernel
theorem dL_addsUp_265 : decode cL_addsUp 265 = .ok (.if_icmp .ne 17, 3) := by decide +kernel
theorem dL_addsUp_268 : decode cL_addsUp 268 = .ok (.iload_n 2, 1) := by decide +kernel
theorem dL_addsUp_269 : decode cL_addsUp 269 = .ok (.aload_n 0, 1) := by decide +kernel
theorem dL_addsUp_270 : decode cL_addsUp 270 = .ok (.bipush 9, 2) := by decide +kernel
theorem dL_addsUp_272 : decode cL_addsUp 272 = .ok (.invokevirtual 12, 3) := by decide +kernel
theorem dL_addsUp_275 : decode cL_addsUp 275 = .ok (.if_icmp .ne 7, 3) := by decide +kernel
theorem dL_addsUp_278 : decode cL_addsUp 278 = .ok (.iconst 1, 1) := by decide +kernel
theorem dL_addsUp_279 : decode cL_addsUp 279 = .ok (.goto 4, 3) := by decide +kernel
theorem dL_addsUp_282 : decode cL_addsUp 282 = .ok (.iconst 0, 1) := by decide +kernel
theorem dL_addsUp_283 : decode cL_addsUp 283 = .ok (.ireturn, 1) := by decide +kernel
theorem dL_isDial_0 : decode cL_isDial 0 = .ok (.aload_n 0, 1) := by decide +kernel
theorem dL_isDial_1 : decode cL_isDial 1 = .ok (.iload_n 1, 1) := by decide +kernel
theorem dL_isDial_2 : decode cL_isDial 2 = .ok (.iconst 0, 1) := by decide +kernel
theorem dL_isDial_3 : decode cL_isDial 3 = .ok (.invokevirtual 68, 3) := by decide +kernel
theorem dL_isDial_6 : decode cL_isDial 6 = .ok (.istore_n 3, 1) := by decide +kernel
theorem dL_isDial_7 : decode cL_isDial 7 = .ok (.aload_n 0, 1) := by decide +kernel
theorem dL_isDial_8 : decode cL_isDial 8 = .ok (.iload_n 1, 1) := by decide +kernel
theorem dL_isDial_9 : decode cL_isDial 9 = .ok (.iconst 1, 1) := by decide +kernel
theorem dL_isDial_10 : decode cL_isDial 10 = .ok (.invokevirtual 68, 3) := by decide +kernel
theorem dL_isDial_13 : decode cL_isDial 13 = .ok (.istore 4, 2) := by decide +kernel
theorem dL_isDial_15 : decode cL_isDial 15 = .ok (.aload_n 0, 1) := by decide +kernel
theorem dL_isDial_16 : decode cL_isDial 16 = .ok (.iload_n 1, 1) := by decide +kernel
theorem dL_isDial_17 : decode cL_isDial 17 = .ok (.iconst 2, 1) := by decide +kernel
theorem dL_isDial_18 : decode cL_isDial 18 = .ok (.invokevirtual 68, 3) := by decide +kernel
theorem dL_isDial_21 : decode cL_isDial 21 = .ok (.istore 5, 2) := by decide +kernel
theorem dL_isDial_23 : decode cL_isDial 23 = .ok (.aload_n 0, 1) := by decide +kernel
theorem dL_isDial_24 : decode cL_isDial 24 = .ok (.iload_n 1, 1) := by decide +kernel
theorem dL_isDial_25 : decode cL_isDial 25 = .ok (.iconst 0, 1) := by decide +kernel
theorem dL_isDial_26 : decode cL_isDial 26 = .ok (.invokevirtual 71, 3) := by decide +kernel
theorem dL_isDial_29 : decode cL_isDial 29 = .ok (.istore 6, 2) := by decide +kernel
theorem dL_isDial_31 : decode cL_isDial 31 = .ok (.iload_n 3, 1) := by decide +kernel
theorem dL_isDial_32 : decode cL_isDial 32 = .ok (.ifCond .lt 52, 3) := by decide +kernel
theorem dL_isDial_35 : decode cL_isDial 35 = .ok (.iload_n 3, 1) := by decide +kernel
theorem dL_isDial_36 : decode cL_isDial 36 = .ok (.bipush 13, 2) := by decide +kernel
theorem dL_isDial_38 : decode cL_isDial 38 = .ok (.if_icmp .gt 46, 3) := by decide +kernel
theorem dL_isDial_41 : decode cL_isDial 41 = .ok (.iload_n 3, 1) := by decide +kernel
theorem dL_isDial_42 : decode cL_isDial 42 = .ok (.ifCond .ne 7, 3) := by decide +kernel
theorem dL_isDial_45 : decode cL_isDial 45 = .ok (.iconst 1, 1) := by decide +kernel
theorem dL_isDial_46 : decode cL_isDial 46 = .ok (.goto 4, 3) := by decide +kernel
theorem dL_isDial_49 : decode cL_isDial 49 = .ok (.iconst 0, 1) := by decide +kernel
theorem dL_isDial_50 : decode cL_isDial 50 = .ok (.iload 4, 2) := by decide +kernel
theorem dL_isDial_52 : decode cL_isDial 52 = .ok (.ldc 67, 2) := by decide +kernel
theorem dL_isDial_54 : decode cL_isDial 54 = .ok (.if_icmp .ne 7, 3) := by decide +kernel
theorem dL_isDial_57 : decode cL_isDial 57 = .ok (.iconst 1, 1) := by decide +kernel
theorem dL_isDial_58 : decode cL_isDial 58 = .ok (.goto 4, 3) := by decide +kernel
theorem dL_isDial_61 : decode cL_isDial 61 = .ok (.iconst 0, 1) := by decide +kernel
theorem dL_isDial_62 : decode cL_isDial 62 = .ok (.if_icmp .ne 22, 3) := by decide +kernel
theorem dL_isDial_65 : decode cL_isDial 65 = .ok (.iload 5, 2) := by decide +kernel
theorem dL_isDial_67 : decode cL_isDial 67 = .ok (.iload 4, 2) := by decide +kernel
theorem dL_isDial_69 : decode cL_isDial 69 = .ok (.if_icmp .lt 15, 3) := by decide +kernel
theorem dL_isDial_72 : decode cL_isDial 72 = .ok (.iload 6, 2) := by decide +kernel
theorem dL_isDial_74 : decode cL_isDial 74 = .ok (.ifCond .eq 12, 3) := by decide +kernel
theorem dL_isDial_77 : decode cL_isDial 77 = .ok (.iload 6, 2) := by decide +kernel
theorem dL_isDial_79 : decode cL_isDial 79 = .ok (.ldc 67, 2) := by decide +kernel
theorem dL_isDial_81 : decode cL_isDial 81 = .ok (.if_icmp .eq 5, 3) := by decide +kernel
theorem dL_isDial_84 : decode cL_isDial 84 = .ok (.iconst 0, 1) := by decide +kernel
theorem dL_isDial_85 : decode cL_isDial 85 = .ok (.ireturn, 1) := by decide +kernel
theorem dL_isDial_86 : decode cL_isDial 86 = .ok (.iload_n 2, 1) := by decide +kernel
theorem dL_isDial_87 : decode cL_isDial 87 = .ok (.sipush 6001, 3) := by decide +kernel
theorem dL_isDial_90 : decode cL_isDial 90 = .ok (.invokestatic 28, 3) := by decide +kernel
theorem dL_isDial_93 : decode cL_isDial 93 = .ok (.sipush 3000, 3) := by decide +kernel
theorem dL_isDial_96 : decode cL_isDial 96 = .ok (.isub, 1) := by decide +kernel
theorem dL_isDial_97 : decode cL_isDial 97 = .ok (.istore 7, 2) := by decide +kernel
theorem dL_isDial_99 : decode cL_isDial 99 = .ok (.aload_n 0, 1) := by decide +kernel
theorem dL_isDial_100 : decode cL_isDial 100 = .ok (.iload_n 1, 1) := by decide +kernel
theorem dL_isDial_101 : decode cL_isDial 101 = .ok (.iload 7, 2) := by decide +kernel
theorem dL_isDial_103 : decode cL_isDial 103 = .ok (.iconst 0, 1) := by decide +kernel
theorem dL_isDial_104 : decode cL_isDial 104 = .ok (.iconst (-1), 1) := by decide +kernel
theorem dL_isDial_105 : decode cL_isDial 105 = .ok (.invokevirtual 74, 3) := by decide +kernel
theorem dL_isDial_108 : decode cL_isDial 108 = .ok (.istore 8, 2) := by decide +kernel
theorem dL_isDial_110 : decode cL_isDial 110 = .ok (.iload 8, 2) := by decide +kernel
theorem dL_isDial_112 : decode cL_isDial 112 = .ok (.ldc 67, 2) := by decide +kernel
theorem dL_isDial_114 : decode cL_isDial 114 = .ok (.if_icmp .eq 19, 3) := by decide +kernel
theorem dL_isDial_117 : decode cL_isDial 117 = .ok (.iload 8, 2) := by decide +kernel
theorem dL_isDial_119 : decode cL_isDial 119 = .ok (.iload 4, 2) := by decide +kernel
theorem dL_isDial_121 : decode cL_isDial 121 = .ok (.if_icmp .lt 10, 3) := by decide +kernel
theorem dL_isDial_124 : decode cL_isDial 124 = .ok (.iload 8, 2) := by decide +kernel
theorem dL_isDial_126 : decode cL_isDial 126 = .ok (.iload 5, 2) := by decide +kernel
theorem dL_isDial_128 : decode cL_isDial 128 = .ok (.if_icmp .le 5, 3) := by decide +kernel
theorem dL_isDial_131 : decode cL_isDial 131 = .ok (.iconst 0, 1) := by decide +kernel
theorem dL_isDial_132 : decode cL_isDial 132 = .ok (.ireturn, 1) := by decide +kernel
theorem dL_isDial_133 : decode cL_isDial 133 = .ok (.iload_n 2, 1) := by decide +kernel
theorem dL_isDial_134 : decode cL_isDial 134 = .ok (.iconst 3, 1) := by decide +kernel
theorem dL_isDial_135 : decode cL_isDial 135 = .ok (.ishr, 1) := by decide +kernel
theorem dL_isDial_136 : decode cL_isDial 136 = .ok (.bipush 12, 2) := by decide +kernel
theorem dL_isDial_138 : decode cL_isDial 138 = .ok (.invokestatic 28, 3) := by decide +kernel
theorem dL_isDial_141 : decode cL_isDial 141 = .ok (.istore 9, 2) := by decide +kernel
theorem dL_isDial_143 : decode cL_isDial 143 = .ok (.iload 8, 2) := by decide +kernel
theorem dL_isDial_145 : decode cL_isDial 145 = .ok (.ldc 67, 2) := by decide +kernel
theorem dL_isDial_147 : decode cL_isDial 147 = .ok (.if_icmp .eq 34, 3) := by decide +kernel
theorem dL_isDial_150 : decode cL_isDial 150 = .ok (.aload_n 0, 1) := by decide +kernel
theorem dL_isDial_151 : decode cL_isDial 151 = .ok (.iload_n 1, 1) := by decide +kernel
theorem dL_isDial_152 : decode cL_isDial 152 = .ok (.iload 7, 2) := by decide +kernel
theorem dL_isDial_154 : decode cL_isDial 154 = .ok (.iconst 0, 1) := by decide +kernel
theorem dL_isDial_155 : decode cL_isDial 155 = .ok (.iload 9, 2) := by decide +kernel
theorem dL_isDial_157 : decode cL_isDial 157 = .ok (.invokevirtual 74, 3) := by decide +kernel
theorem dL_isDial_160 : decode cL_isDial 160 = .ok (.iload 8, 2) := by decide +kernel
theorem dL_isDial_162 : decode cL_isDial 162 = .ok (.aload_n 0, 1) := by decide +kernel
theorem dL_isDial_163 : decode cL_isDial 163 = .ok (.iload 9, 2) := by decide +kernel
theorem dL_isDial_165 : decode cL_isDial 165 = .ok (.invokevirtual 25, 3) := by decide +kernel
theorem dL_isDial_168 : decode cL_isDial 168 = .ok (.iadd, 1) := by decide +kernel
theorem dL_isDial_169 : decode cL_isDial 169 = .ok (.aload_n 0, 1) := by decide +kernel
theorem dL_isDial_170 : decode cL_isDial 170 = .ok (.iload_n 1, 1) := by decide +kernel
theorem dL_isDial_171 : decode cL_isDial 171 = .ok (.iconst 3, 1) := by decide +kernel
theorem dL_isDial_172 : decode cL_isDial 172 = .ok (.invokevirtual 22, 3) := by decide +kernel
theorem dL_isDial_175 : decode cL_isDial 175 = .ok (.iadd, 1) := by decide +kernel
theorem dL_isDial_176 : decode cL_isDial 176 = .ok (.if_icmp .eq 5, 3) := by decide +kernel
theorem dL_isDial_179 : decode cL_isDial 179 = .ok (.iconst 0, 1) := by decide +kernel
theorem dL_isDial_180 : decode cL_isDial 180 = .ok (.ireturn, 1) := by decide +kernel
theorem dL_isDial_181 : decode cL_isDial 181 = .ok (.aload_n 0, 1) := by decide +kernel
theorem dL_isDial_182 : decode cL_isDial 182 = .ok (.iload_n 1, 1) := by decide +kernel
theorem dL_isDial_183 : decode cL_isDial 183 = .ok (.iconst 0, 1) := by decide +kernel
theorem dL_isDial_184 : decode cL_isDial 184 = .ok (.invokevirtual 77, 3) := by decide +kernel
theorem dL_isDial_187 : decode cL_isDial 187 = .ok (.istore 10, 2) := by decide +kernel
theorem dL_isDial_189 : decode cL_isDial 189 = .ok (.aload_n 0, 1) := by decide +kernel
theorem dL_isDial_190 : decode cL_isDial 190 = .ok (.iload_n 1, 1) := by decide +kernel
theorem dL_isDial_191 : decode cL_isDial 191 = .ok (.iconst 1, 1) := by decide +kernel
theorem dL_isDial_192 : decode cL_isDial 192 = .ok (.invokevirtual 77, 3) := by decide +kernel
theorem dL_isDial_195 : decode cL_isDial 195 = .ok (.istore 11, 2) := by decide +kernel
theorem dL_isDial_197 : decode cL_isDial 197 = .ok (.iload 11, 2) := by decide +kernel
theorem dL_isDial_199 : decode cL_isDial 199 = .ok (.ldc 67, 2) := by decide +kernel
theorem dL_isDial_201 : decode cL_isDial 201 = .ok (.if_icmp .eq 41, 3) := by decide +kernel
theorem dL_isDial_204 : decode cL_isDial 204 = .ok (.aload_n 0, 1) := by decide +kernel
theorem dL_isDial_205 : decode cL_isDial 205 = .ok (.iload_n 1, 1) := by decide +kernel
theorem dL_isDial_206 : decode cL_isDial 206 = .ok (.aload_n 0, 1) := by decide +kernel
theorem dL_isDial_207 : decode cL_isDial 207 = .ok (.iload_n 1, 1) := by decide +kernel
theorem dL_isDial_208 : decode cL_isDial 208 = .ok (.iload 11, 2) := by decide +kernel
theorem dL_isDial_210 : decode cL_isDial 210 = .ok (.invokevirtual 71, 3) := by decide +kernel
theorem dL_isDial_213 : decode cL_isDial 213 = .ok (.iconst 0, 1) := by decide +kernel
theorem dL_isDial_214 : decode cL_isDial 214 = .ok (.iconst (-1), 1) := by decide +kernel
theorem dL_isDial_215 : decode cL_isDial 215 = .ok (.invokevirtual 74, 3) := by decide +kernel
theorem dL_isDial_218 : decode cL_isDial 218 = .ok (.istore 12, 2) := by decide +kernel
theorem dL_isDial_220 : decode cL_isDial 220 = .ok (.iload 12, 2) := by decide +kernel
theorem dL_isDial_222 : decode cL_isDial 222 = .ok (.iload 11, 2) := by decide +kernel
theorem dL_isDial_224 : decode cL_isDial 224 = .ok (.isub, 1) := by decide +kernel
theorem dL_isDial_225 : decode cL_isDial 225 = .ok (.iload 10, 2) := by decide +kernel
theorem dL_isDial_227 : decode cL_isDial 227 = .ok (.if_icmp .eq 15, 3) := by decide +kernel
theorem dL_isDial_230 : decode cL_isDial 230 = .ok (.iload 11, 2) := by decide +kernel
theorem dL_isDial_232 : decode cL_isDial 232 = .ok (.iload 12, 2) := by decide +kernel
theorem dL_isDial_234 : decode cL_isDial 234 = .ok (.isub, 1) := by decide +kernel
theorem dL_isDial_235 : decode cL_isDial 235 = .ok (.iload 10, 2) := by decide +kernel
theorem dL_isDial_237 : decode cL_isDial 237 = .ok (.if_icmp .eq 5, 3) := by decide +kernel
theorem dL_isDial_240 : decode cL_isDial 240 = .ok (.iconst 0, 1) := by decide +kernel
theorem dL_isDial_241 : decode cL_isDial 241 = .ok (.ireturn, 1) := by decide +kernel
theorem dL_isDial_242 : decode cL_isDial 242 = .ok (.iconst 0, 1) := by decide +kernel
theorem dL_isDial_243 : decode cL_isDial 243 = .ok (.istore 12, 2) := by decide +kernel
theorem dL_isDial_245 : decode cL_isDial 245 = .ok (.iload 12, 2) := by decide +kernel
theorem dL_isDial_247 : decode cL_isDial 247 = .ok (.iconst 5, 1) := by decide +kernel
theorem dL_isDial_248 : decode cL_isDial 248 = .ok (.if_icmp .ge 166, 3) := by decide +kernel
theorem dL_isDial_251 : decode cL_isDial 251 = .ok (.iload_n 2, 1) := by decide +kernel
theorem dL_isDial_252 : decode cL_isDial 252 = .ok (.iconst 3, 1) := by decide +kernel
theorem dL_isDial_253 : decode cL_isDial 253 = .ok (.iload 12, 2) := by decide +kernel
theorem dL_isDial_255 : decode cL_isDial 255 = .ok (.imul, 1) := by decide +kernel
theorem dL_isDial_256 : decode cL_isDial 256 = .ok (.ishr, 1) := by decide +kernel
theorem dL_isDial_257 : decode cL_isDial 257 = .ok (.sipush 721, 3) := by decide +kernel
theorem dL_isDial_260 : decode cL_isDial 260 = .ok (.invokestatic 28, 3) := by decide +kernel
theorem dL_isDial_263 : decode cL_isDial 263 = .ok (.sipush 360, 3) := by decide +kernel
theorem dL_isDial_266 : decode cL_isDial 266 = .ok (.isub, 1) := by decide +kernel
theorem dL_isDial_267 : decode cL_isDial 267 = .ok (.istore 13, 2) := by decide +kernel
theorem dL_isDial_269 : decode cL_isDial 269 = .ok (.aload_n 0, 1) := by decide +kernel
theorem dL_isDial_270 : decode cL_isDial 270 = .ok (.iload_n 1, 1) := by decide +kernel
theorem dL_isDial_271 : decode cL_isDial 271 = .ok (.iload 13, 2) := by decide +kernel
theorem dL_isDial_273 : decode cL_isDial 273 = .ok (.invokevirtual 71, 3) := by decide +kernel
theorem dL_isDial_276 : decode cL_isDial 276 = .ok (.istore 14, 2) := by decide +kernel
theorem dL_isDial_278 : decode cL_isDial 278 = .ok (.iload 14, 2) := by decide +kernel
theorem dL_isDial_280 : decode cL_isDial 280 = .ok (.ldc 67, 2) := by decide +kernel
theorem dL_isDial_282 : decode cL_isDial 282 = .ok (.if_icmp .eq 73, 3) := by decide +kernel
theorem dL_isDial_285 : decode cL_isDial 285 = .ok (.aload_n 0, 1) := by decide +kernel
theorem dL_isDial_286 : decode cL_isDial 286 = .ok (.iload_n 1, 1) := by decide +kernel
theorem dL_isDial_287 : decode cL_isDial 287 = .ok (.iload 14, 2) := by decide +kernel
theorem dL_isDial_289 : decode cL_isDial 289 = .ok (.iconst 1, 1) := by decide +kernel
theorem dL_isDial_290 : decode cL_isDial 290 = .ok (.iconst (-1), 1) := by decide +kernel
theorem dL_isDial_291 : decode cL_isDial 291 = .ok (.invokevirtual 74, 3) := by decide +kernel
theorem dL_isDial_294 : decode cL_isDial 294 = .ok (.istore 15, 2) := by decide +kernel
theorem dL_isDial_296 : decode cL_isDial 296 = .ok (.aload_n 0, 1) := by decide +kernel
theorem dL_isDial_297 : decode cL_isDial 297 = .ok (.iload_n 1, 1) := by decide +kernel
theorem dL_isDial_298 : decode cL_isDial 298 = .ok (.iload 14, 2) := by decide +kernel
theorem dL_isDial_300 : decode cL_isDial 300 = .ok (.iconst 0, 1) := by decide +kernel
theorem dL_isDial_301 : decode cL_isDial 301 = .ok (.iconst (-1), 1) := by decide +kernel
theorem dL_isDial_302 : decode cL_isDial 302 = .ok (.invokevirtual 74, 3) := by decide +kernel
theorem dL_isDial_305 : decode cL_isDial 305 = .ok (.istore 16, 2) := by decide +kernel
theorem dL_isDial_307 : decode cL_isDial 307 = .ok (.iload 15, 2) := by decide +kernel
theorem dL_isDial_309 : decode cL_isDial 309 = .ok (.iload 13, 2) := by decide +kernel
theorem dL_isDial_311 : decode cL_isDial 311 = .ok (.if_icmp .gt 42, 3) := by decide +kernel
theorem dL_isDial_314 : decode cL_isDial 314 = .ok (.aload_n 0, 1) := by decide +kernel
theorem dL_isDial_315 : decode cL_isDial 315 = .ok (.iload_n 1, 1) := by decide +kernel
theorem dL_isDial_316 : decode cL_isDial 316 = .ok (.iload 15, 2) := by decide +kernel
theorem dL_isDial_318 : decode cL_isDial 318 = .ok (.invokevirtual 71, 3) := by decide +kernel
theorem dL_isDial_321 : decode cL_isDial 321 = .ok (.iload 14, 2) := by decide +kernel
theorem dL_isDial_323 : decode cL_isDial 323 = .ok (.if_icmp .ne 30, 3) := by decide +kernel
theorem dL_isDial_326 : decode cL_isDial 326 = .ok (.iload 16, 2) := by decide +kernel
theorem dL_isDial_328 : decode cL_isDial 328 = .ok (.ldc 67, 2) := by decide +kernel
theorem dL_isDial_330 : decode cL_isDial 330 = .ok (.if_icmp .eq 25, 3) := by decide +kernel
theorem dL_isDial_333 : decode cL_isDial 333 = .ok (.iload 16, 2) := by decide +kernel
theorem dL_isDial_335 : decode cL_isDial 335 = .ok (.iload 13, 2) := by decide +kernel
theorem dL_isDial_337 : decode cL_isDial 337 = .ok (.isub, 1) := by decide +kernel
theorem dL_isDial_338 : decode cL_isDial 338 = .ok (.iload 10, 2) := by decide +kernel
theorem dL_isDial_340 : decode cL_isDial 340 = .ok (.if_icmp .gt 13, 3) := by decide +kernel
theorem dL_isDial_343 : decode cL_isDial 343 = .ok (.iload 13, 2) := by decide +kernel
theorem dL_isDial_345 : decode cL_isDial 345 = .ok (.iload 16, 2) := by decide +kernel
theorem dL_isDial_347 : decode cL_isDial 347 = .ok (.isub, 1) := by decide +kernel
theorem dL_isDial_348 : decode cL_isDial 348 = .ok (.iload 10, 2) := by decide +kernel
theorem dL_isDial_350 : decode cL_isDial 350 = .ok (.if_icmp .le 5, 3) := by decide +kernel
theorem dL_isDial_353 : decode cL_isDial 353 = .ok (.iconst 0, 1) := by decide +kernel
theorem dL_isDial_354 : decode cL_isDial 354 = .ok (.ireturn, 1) := by decide +kernel
theorem dL_isDial_355 : decode cL_isDial 355 = .ok (.aload_n 0, 1) := by decide +kernel
theorem dL_isDial_356 : decode cL_isDial 356 = .ok (.iload_n 1, 1) := by decide +kernel
theorem dL_isDial_357 : decode cL_isDial 357 = .ok (.iload 13, 2) := by decide +kernel
theorem dL_isDial_359 : decode cL_isDial 359 = .ok (.ineg, 1) := by decide +kernel
theorem dL_isDial_360 : decode cL_isDial 360 = .ok (.invokevirtual 71, 3) := by decide +kernel
theorem dL_isDial_363 : decode cL_isDial 363 = .ok (.istore 15, 2) := by decide +kernel
theorem dL_isDial_365 : decode cL_isDial 365 = .ok (.aload_n 0, 1) := by decide +kernel
theorem dL_isDial_366 : decode cL_isDial 366 = .ok (.iload_n 1, 1) := by decide +kernel
theorem dL_isDial_367 : decode cL_isDial 367 = .ok (.iconst 5, 1) := by decide +kernel
theorem dL_isDial_368 : decode cL_isDial 368 = .ok (.invokevirtual 22, 3) := by decide +kernel
theorem dL_isDial_371 : decode cL_isDial 371 = .ok (.ifCond .ne 37, 3) := by decide +kernel
theorem dL_isDial_374 : decode cL_isDial 374 = .ok (.iload 14, 2) := by decide +kernel
theorem dL_isDial_376 : decode cL_isDial 376 = .ok (.ldc 67, 2) := by decide +kernel
theorem dL_isDial_378 : decode cL_isDial 378 = .ok (.if_icmp .eq 30, 3) := by decide +kernel
theorem dL_isDial_381 : decode cL_isDial 381 = .ok (.iload 15, 2) := by decide +kernel
theorem dL_isDial_383 : decode cL_isDial 383 = .ok (.ldc 67, 2) := by decide +kernel
theorem dL_isDial_385 : decode cL_isDial 385 = .ok (.if_icmp .eq 23, 3) := by decide +kernel
theorem dL_isDial_388 : decode cL_isDial 388 = .ok (.iload 14, 2) := by decide +kernel
theorem dL_isDial_390 : decode cL_isDial 390 = .ok (.iload 15, 2) := by decide +kernel
theorem dL_isDial_392 : decode cL_isDial 392 = .ok (.iadd, 1) := by decide +kernel
theorem dL_isDial_393 : decode cL_isDial 393 = .ok (.iconst 1, 1) := by decide +kernel
theorem dL_isDial_394 : decode cL_isDial 394 = .ok (.if_icmp .gt 12, 3) := by decide +kernel
theorem dL_isDial_397 : decode cL_isDial 397 = .ok (.iload 14, 2) := by decide +kernel
theorem dL_isDial_399 : decode cL_isDial 399 = .ok (.iload 15, 2) := by decide +kernel
theorem dL_isDial_401 : decode cL_isDial 401 = .ok (.iadd, 1) := by decide +kernel
theorem dL_isDial_402 : decode cL_isDial 402 = .ok (.iconst (-1), 1) := by decide +kernel
theorem dL_isDial_403 : decode cL_isDial 403 = .ok (.if_icmp .ge 5, 3) := by decide +kernel
theorem dL_isDial_406 : decode cL_isDial 406 = .ok (.iconst 0, 1) := by decide +kernel
theorem dL_isDial_407 : decode cL_isDial 407 = .ok (.ireturn, 1) := by decide +kernel
theorem dL_isDial_408 : decode cL_isDial 408 = .ok (.iinc 12 1, 3) := by decide +kernel
theorem dL_isDial_411 : decode cL_isDial 411 = .ok (.goto (-166), 3) := by decide +kernel
theorem dL_isDial_414 : decode cL_isDial 414 = .ok (.iconst 1, 1) := by decide +kernel
theorem dL_isDial_415 : decode cL_isDial 415 = .ok (.ireturn, 1) := by decide +kernel
theorem dL_law_0 : decode cL_law 0 = .ok (.new 13, 3) := by decide +kernel
theorem dL_law_3 : decode cL_law 3 = .ok (.dup, 1) := by decide +kernel
theorem dL_law_4 : decode cL_law 4 = .ok (.invokespecial 80, 3) := by decide +kernel
theorem dL_law_7 : decode cL_law 7 = .ok (.astore_n 1, 1) := by decide +kernel
theorem dL_law_8 : decode cL_law 8 = .ok (.aload_n 1, 1) := by decide +kernel
theorem dL_law_9 : decode cL_law 9 = .ok (.invokevirtual 39, 3) := by decide +kernel
theorem dL_law_12 : decode cL_law 12 = .ok (.pop, 1) := by decide +kernel
theorem dL_law_13 : decode cL_law 13 = .ok (.aload_n 0, 1) := by decide +kernel
theorem dL_law_14 : decode cL_law 14 = .ok (.iconst 0, 1) := by decide +kernel
theorem dL_law_15 : decode cL_law 15 = .ok (.invokestatic 81, 3) := by decide +kernel
theorem dL_law_18 : decode cL_law 18 = .ok (.istore_n 2, 1) := by decide +kernel
theorem dL_law_19 : decode cL_law 19 = .ok (.aload_n 1, 1) := by decide +kernel
theorem dL_law_20 : decode cL_law 20 = .ok (.iconst 3, 1) := by decide +kernel
theorem dL_law_21 : decode cL_law 21 = .ok (.bipush 20, 2) := by decide +kernel
theorem dL_law_23 : decode cL_law 23 = .ok (.iload_n 2, 1) := by decide +kernel
theorem dL_law_24 : decode cL_law 24 = .ok (.bipush 20, 2) := by decide +kernel
theorem dL_law_26 : decode cL_law 26 = .ok (.invokestatic 28, 3) := by decide +kernel
theorem dL_law_29 : decode cL_law 29 = .ok (.iadd, 1) := by decide +kernel
theorem dL_law_30 : decode cL_law 30 = .ok (.invokevirtual 36, 3) := by decide +kernel
theorem dL_law_33 : decode cL_law 33 = .ok (.pop, 1) := by decide +kernel
theorem dL_law_34 : decode cL_law 34 = .ok (.aload_n 1, 1) := by decide +kernel
theorem dL_law_35 : decode cL_law 35 = .ok (.bipush 10, 2) := by decide +kernel
theorem dL_law_37 : decode cL_law 37 = .ok (.iload_n 2, 1) := by decide +kernel
theorem dL_law_38 : decode cL_law 38 = .ok (.iconst 3, 1) := by decide +kernel
theorem dL_law_39 : decode cL_law 39 = .ok (.ishr, 1) := by decide +kernel
theorem dL_law_40 : decode cL_law 40 = .ok (.bipush 61, 2) := by decide +kernel
theorem dL_law_42 : decode cL_law 42 = .ok (.invokestatic 28, 3) := by decide +kernel
theorem dL_law_45 : decode cL_law 45 = .ok (.iadd, 1) := by decide +kernel
theorem dL_law_46 : decode cL_law 46 = .ok (.iconst (-1), 1) := by decide +kernel
theorem dL_law_47 : decode cL_law 47 = .ok (.bipush 20, 2) := by decide +kernel
theorem dL_law_49 : decode cL_law 49 = .ok (.iload_n 2, 1) := by decide +kernel
theorem dL_law_50 : decode cL_law 50 = .ok (.bipush 9, 2) := by decide +kernel
theorem dL_law_52 : decode cL_law 52 = .ok (.ishr, 1) := by decide +kernel
theorem dL_law_53 : decode cL_law 53 = .ok (.bipush 30, 2) := by decide +kernel
theorem dL_law_55 : decode cL_law 55 = .ok (.invokestatic 28, 3) := by decide +kernel
theorem dL_law_58 : decode cL_law 58 = .ok (.iadd, 1) := by decide +kernel
theorem dL_law_59 : decode cL_law 59 = .ok (.iload_n 2, 1) := by decide +kernel
theorem dL_law_60 : decode cL_law 60 = .ok (.bipush 14, 2) := by decide +kernel
theorem dL_law_62 : decode cL_law 62 = .ok (.ishr, 1) := by decide +kernel
theorem dL_law_63 : decode cL_law 63 = .ok (.bipush 121, 2) := by decide +kernel
theorem dL_law_65 : decode cL_law 65 = .ok (.invokestatic 28, 3) := by decide +kernel
theorem dL_law_68 : decode cL_law 68 = .ok (.bipush 60, 2) := by decide +kernel
theorem dL_law_70 : decode cL_law 70 = .ok (.isub, 1) := by decide +kernel
theorem dL_law_71 : decode cL_law 71 = .ok (.invokevirtual 46, 3) := by decide +kernel
theorem dL_law_74 : decode cL_law 74 = .ok (.pop, 1) := by decide +kernel
theorem dL_law_75 : decode cL_law 75 = .ok (.iconst 1, 1) := by decide +kernel
theorem dL_law_76 : decode cL_law 76 = .ok (.istore_n 3, 1) := by decide +kernel
theorem dL_law_77 : decode cL_law 77 = .ok (.iload_n 3, 1) := by decide +kernel
theorem dL_law_78 : decode cL_law 78 = .ok (.bipush 18, 2) := by decide +kernel
theorem dL_law_80 : decode cL_law 80 = .ok (.if_icmp .ge 165, 3) := by decide +kernel
theorem dL_law_83 : decode cL_law 83 = .ok (.aload_n 0, 1) := by decide +kernel
theorem dL_law_84 : decode cL_law 84 = .ok (.iload_n 3, 1) := by decide +kernel
theorem dL_law_85 : decode cL_law 85 = .ok (.invokestatic 81, 3) := by decide +kernel
theorem dL_law_88 : decode cL_law 88 = .ok (.istore 4, 2) := by decide +kernel
theorem dL_law_90 : decode cL_law 90 = .ok (.aload_n 1, 1) := by decide +kernel
theorem dL_law_91 : decode cL_law 91 = .ok (.invokestatic 85, 3) := by decide +kernel
theorem dL_law_94 : decode cL_law 94 = .ok (.lstore 5, 2) := by decide +kernel
theorem dL_law_96 : decode cL_law 96 = .ok (.iload 4, 2) := by decide +kernel
theorem dL_law_98 : decode cL_law 98 = .ok (.iconst 4, 1) := by decide +kernel
theorem dL_law_99 : decode cL_law 99 = .ok (.ishr, 1) := by decide +kernel
theorem dL_law_100 : decode cL_law 100 = .ok (.aload_n 1, 1) := by decide +kernel
theorem dL_law_101 : decode cL_law 101 = .ok (.iconst 2, 1) := by decide +kernel
theorem dL_law_102 : decode cL_law 102 = .ok (.invokevirtual 12, 3) := by decide +kernel
theorem dL_law_105 : decode cL_law 105 = .ok (.iconst 1, 1) := by decide +kernel
theorem dL_law_106 : decode cL_law 106 = .ok (.iadd, 1) := by decide +kernel
theorem dL_law_107 : decode cL_law 107 = .ok (.invokestatic 28, 3) := by decide +kernel
theorem dL_law_110 : decode cL_law 110 = .ok (.istore 7, 2) := by decide +kernel
theorem dL_law_112 : decode cL_law 112 = .ok (.iload 4, 2) := by decide +kernel
theorem dL_law_114 : decode cL_law 114 = .ok (.bipush 15, 2) := by decide +kernel
theorem dL_law_116 : decode cL_law 116 = .ok (.iand, 1) := by decide +kernel
theorem dL_law_117 : decode cL_law 117 = .ok (.bipush 9, 2) := by decide +kernel
theorem dL_law_119 : decode cL_law 119 = .ok (.if_icmp .ne 12, 3) := by decide +kernel
theorem dL_law_122 : decode cL_law 122 = .ok (.aload_n 1, 1) := by decide +kernel
theorem dL_law_123 : decode cL_law 123 = .ok (.iload 7, 2) := by decide +kernel
theorem dL_law_125 : decode cL_law 125 = .ok (.invokevirtual 89, 3) := by decide +kernel
theorem dL_law_128 : decode cL_law 128 = .ok (.goto 4, 3) := by decide +kernel
theorem dL_law_131 : decode cL_law 131 = .ok (.iconst 0, 1) := by decide +kernel
theorem dL_law_132 : decode cL_law 132 = .ok (.istore 8, 2) := by decide +kernel
theorem dL_law_134 : decode cL_law 134 = .ok (.aload_n 1, 1) := by decide +kernel
theorem dL_law_135 : decode cL_law 135 = .ok (.iload 4, 2) := by decide +kernel
theorem dL_law_137 : decode cL_law 137 = .ok (.invokestatic 92, 3) := by decide +kernel
theorem dL_law_140 : decode cL_law 140 = .ok (.istore 9, 2) := by decide +kernel
theorem dL_law_142 : decode cL_law 142 = .ok (.iload 9, 2) := by decide +kernel
theorem dL_law_144 : decode cL_law 144 = .ok (.invokestatic 96, 3) := by decide +kernel
theorem dL_law_147 : decode cL_law 147 = .ok (.ifCond .eq 13, 3) := by decide +kernel
theorem dL_law_150 : decode cL_law 150 = .ok (.aload_n 1, 1) := by decide +kernel
theorem dL_law_151 : decode cL_law 151 = .ok (.invokestatic 85, 3) := by decide +kernel
theorem dL_law_154 : decode cL_law 154 = .ok (.lload 5, 2) := by decide +kernel
theorem dL_law_156 : decode cL_law 156 = .ok (.lcmp, 1) := by decide +kernel
theorem dL_law_157 : decode cL_law 157 = .ok (.ifCond .ne 28, 3) := by decide +kernel
theorem dL_law_160 : decode cL_law 160 = .ok (.iload 4, 2) := by decide +kernel
theorem dL_law_162 : decode cL_law 162 = .ok (.bipush 15, 2) := by decide +kernel
theorem dL_law_164 : decode cL_law 164 = .ok (.iand, 1) := by decide +kernel
theorem dL_law_165 : decode cL_law 165 = .ok (.bipush 9, 2) := by decide +kernel
theorem dL_law_167 : decode cL_law 167 = .ok (.if_icmp .ne 20, 3) := by decide +kernel
theorem dL_law_170 : decode cL_law 170 = .ok (.iload 9, 2) := by decide +kernel
theorem dL_law_172 : decode cL_law 172 = .ok (.invokestatic 96, 3) := by decide +kernel
theorem dL_law_175 : decode cL_law 175 = .ok (.ifCond .ne 12, 3) := by decide +kernel
theorem dL_law_178 : decode cL_law 178 = .ok (.iload 9, 2) := by decide +kernel
theorem dL_law_180 : decode cL_law 180 = .ok (.iload 8, 2) := by decide +kernel
theorem dL_law_182 : decode cL_law 182 = .ok (.if_icmp .eq 5, 3) := by decide +kernel
theorem dL_law_185 : decode cL_law 185 = .ok (.iconst 0, 1) := by decide +kernel
theorem dL_law_186 : decode cL_law 186 = .ok (.ireturn, 1) := by decide +kernel
theorem dL_law_187 : decode cL_law 187 = .ok (.iload 9, 2) := by decide +kernel
theorem dL_law_189 : decode cL_law 189 = .ok (.invokestatic 96, 3) := by decide +kernel
theorem dL_law_192 : decode cL_law 192 = .ok (.ifCond .ne 38, 3) := by decide +kernel
theorem dL_law_195 : decode cL_law 195 = .ok (.iload_n 3, 1) := by decide +kernel
theorem dL_law_196 : decode cL_law 196 = .ok (.iconst 3, 1) := by decide +kernel
theorem dL_law_197 : decode cL_law 197 = .ok (.iand, 1) := by decide +kernel
theorem dL_law_198 : decode cL_law 198 = .ok (.iconst 1, 1) := by decide +kernel
theorem dL_law_199 : decode cL_law 199 = .ok (.if_icmp .ne 31, 3) := by decide +kernel
theorem dL_law_202 : decode cL_law 202 = .ok (.aload_n 1, 1) := by decide +kernel
theorem dL_law_203 : decode cL_law 203 = .ok (.invokevirtual 100, 3) := by decide +kernel
theorem dL_law_206 : decode cL_law 206 = .ok (.pop, 1) := by decide +kernel
theorem dL_law_207 : decode cL_law 207 = .ok (.aload_n 1, 1) := by decide +kernel
theorem dL_law_208 : decode cL_law 208 = .ok (.invokestatic 85, 3) := by decide +kernel
theorem dL_law_211 : decode cL_law 211 = .ok (.lload 5, 2) := by decide +kernel
theorem dL_law_213 : decode cL_law 213 = .ok (.lcmp, 1) := by decide +kernel
theorem dL_law_214 : decode cL_law 214 = .ok (.ifCond .ne 14, 3) := by decide +kernel
theorem dL_law_217 : decode cL_law 217 = .ok (.aload_n 1, 1) := by decide +kernel
theorem dL_law_218 : decode cL_law 218 = .ok (.iload 4, 2) := by decide +kernel
theorem dL_law_220 : decode cL_law 220 = .ok (.invokestatic 92, 3) := by decide +kernel
theorem dL_law_223 : decode cL_law 223 = .ok (.iload 9, 2) := by decide +kernel
theorem dL_law_225 : decode cL_law 225 = .ok (.if_icmp .eq 5, 3) := by decide +kernel
theorem dL_law_228 : decode cL_law 228 = .ok (.iconst 0, 1) := by decide +kernel
theorem dL_law_229 : decode cL_law 229 = .ok (.ireturn, 1) := by decide +kernel
theorem dL_law_230 : decode cL_law 230 = .ok (.aload_n 1, 1) := by decide +kernel
theorem dL_law_231 : decode cL_law 231 = .ok (.invokestatic 103, 3) := by decide +kernel
theorem dL_law_234 : decode cL_law 234 = .ok (.ifCond .ne 5, 3) := by decide +kernel
theorem dL_law_237 : decode cL_law 237 = .ok (.iconst 0, 1) := by decide +kernel
theorem dL_law_238 : decode cL_law 238 = .ok (.ireturn, 1) := by decide +kernel
theorem dL_law_239 : decode cL_law 239 = .ok (.iinc 3 1, 3) := by decide +kernel
theorem dL_law_242 : decode cL_law 242 = .ok (.goto (-165), 3) := by decide +kernel
theorem dL_law_245 : decode cL_law 245 = .ok (.iconst 0, 1) := by decide +kernel
theorem dL_law_246 : decode cL_law 246 = .ok (.istore_n 3, 1) := by decide +kernel
theorem dL_law_247 : decode cL_law 247 = .ok (.iload_n 3, 1) := by decide +kernel
theorem dL_law_248 : decode cL_law 248 = .ok (.iconst 4, 1) := by decide +kernel
theorem dL_law_249 : decode cL_law 249 = .ok (.if_icmp .ge 75, 3) := by decide +kernel
theorem dL_law_252 : decode cL_law 252 = .ok (.aload_n 0, 1) := by decide +kernel
theorem dL_law_253 : decode cL_law 253 = .ok (.bipush 18, 2) := by decide +kernel
theorem dL_law_255 : decode cL_law 255 = .ok (.iload_n 3, 1) := by decide +kernel
theorem dL_law_256 : decode cL_law 256 = .ok (.iadd, 1) := by decide +kernel
theorem dL_law_257 : decode cL_law 257 = .ok (.invokestatic 81, 3) := by decide +kernel
theorem dL_law_260 : decode cL_law 260 = .ok (.sipush 721, 3) := by decide +kernel
theorem dL_law_263 : decode cL_law 263 = .ok (.invokestatic 28, 3) := by decide +kernel
theorem dL_law_266 : decode cL_law 266 = .ok (.istore 4, 2) := by decide +kernel
theorem dL_law_268 : decode cL_law 268 = .ok (.aload_n 1, 1) := by decide +kernel
theorem dL_law_269 : decode cL_law 269 = .ok (.iload 4, 2) := by decide +kernel
theorem dL_law_271 : decode cL_law 271 = .ok (.invokevirtual 107, 3) := by decide +kernel
theorem dL_law_274 : decode cL_law 274 = .ok (.aload_n 1, 1) := by decide +kernel
theorem dL_law_275 : decode cL_law 275 = .ok (.iload 4, 2) := by decide +kernel
theorem dL_law_277 : decode cL_law 277 = .ok (.ineg, 1) := by decide +kernel
theorem dL_law_278 : decode cL_law 278 = .ok (.invokevirtual 107, 3) := by decide +kernel
theorem dL_law_281 : decode cL_law 281 = .ok (.ineg, 1) := by decide +kernel
theorem dL_law_282 : decode cL_law 282 = .ok (.if_icmp .ne 34, 3) := by decide +kernel
theorem dL_law_285 : decode cL_law 285 = .ok (.aload_n 1, 1) := by decide +kernel
theorem dL_law_286 : decode cL_law 286 = .ok (.iload 4, 2) := by decide +kernel
theorem dL_law_288 : decode cL_law 288 = .ok (.invokevirtual 107, 3) := by decide +kernel
theorem dL_law_291 : decode cL_law 291 = .ok (.aload_n 1, 1) := by decide +kernel
theorem dL_law_292 : decode cL_law 292 = .ok (.sipush 720, 3) := by decide +kernel
theorem dL_law_295 : decode cL_law 295 = .ok (.iload 4, 2) := by decide +kernel
theorem dL_law_297 : decode cL_law 297 = .ok (.isub, 1) := by decide +kernel
theorem dL_law_298 : decode cL_law 298 = .ok (.invokevirtual 107, 3) := by decide +kernel
theorem dL_law_301 : decode cL_law 301 = .ok (.if_icmp .ne 15, 3) := by decide +kernel
theorem dL_law_304 : decode cL_law 304 = .ok (.aload_n 1, 1) := by decide +kernel
theorem dL_law_305 : decode cL_law 305 = .ok (.iload 4, 2) := by decide +kernel
theorem dL_law_307 : decode cL_law 307 = .ok (.invokevirtual 107, 3) := by decide +kernel
theorem dL_law_310 : decode cL_law 310 = .ok (.sipush 10000, 3) := by decide +kernel
theorem dL_law_313 : decode cL_law 313 = .ok (.if_icmp .le 5, 3) := by decide +kernel
theorem dL_law_316 : decode cL_law 316 = .ok (.iconst 0, 1) := by decide +kernel
theorem dL_law_317 : decode cL_law 317 = .ok (.ireturn, 1) := by decide +kernel
theorem dL_law_318 : decode cL_law 318 = .ok (.iinc 3 1, 3) := by decide +kernel
theorem dL_law_321 : decode cL_law 321 = .ok (.goto (-74), 3) := by decide +kernel
theorem dL_law_324 : decode cL_law 324 = .ok (.aload_n 1, 1) := by decide +kernel
theorem dL_law_325 : decode cL_law 325 = .ok (.sipush 360, 3) := by decide +kernel
theorem dL_law_328 : decode cL_law 328 = .ok (.invokevirtual 107, 3) := by decide +kernel
theorem dL_law_331 : decode cL_law 331 = .ok (.sipush 10000, 3) := by decide +kernel
theorem dL_law_334 : decode cL_law 334 = .ok (.if_icmp .ne 11, 3) := by decide +kernel
theorem dL_law_337 : decode cL_law 337 = .ok (.aload_n 1, 1) := by decide +kernel
theorem dL_law_338 : decode cL_law 338 = .ok (.iconst 0, 1) := by decide +kernel
theorem dL_law_339 : decode cL_law 339 = .ok (.invokevirtual 107, 3) := by decide +kernel
theorem dL_law_342 : decode cL_law 342 = .ok (.ifCond .eq 5, 3) := by decide +kernel
theorem dL_law_345 : decode cL_law 345 = .ok (.iconst 0, 1) := by decide +kernel
theorem dL_law_346 : decode cL_law 346 = .ok (.ireturn, 1) := by decide +kernel
theorem dL_law_347 : decode cL_law 347 = .ok (.iload_n 2, 1) := by decide +kernel
theorem dL_law_348 : decode cL_law 348 = .ok (.iconst 5, 1) := by decide +kernel
theorem dL_law_349 : decode cL_law 349 = .ok (.ishr, 1) := by decide +kernel
theorem dL_law_350 : decode cL_law 350 = .ok (.aload_n 1, 1) := by decide +kernel
theorem dL_law_351 : decode cL_law 351 = .ok (.iconst 2, 1) := by decide +kernel
theorem dL_law_352 : decode cL_law 352 = .ok (.invokevirtual 12, 3) := by decide +kernel
theorem dL_law_355 : decode cL_law 355 = .ok (.invokestatic 28, 3) := by decide +kernel
theorem dL_law_358 : decode cL_law 358 = .ok (.istore_n 3, 1) := by decide +kernel
theorem dL_law_359 : decode cL_law 359 = .ok (.aload_n 1, 1) := by decide +kernel
theorem dL_law_360 : decode cL_law 360 = .ok (.iload_n 3, 1) := by decide +kernel
theorem dL_law_361 : decode cL_law 361 = .ok (.iconst 5, 1) := by decide +kernel
theorem dL_law_362 : decode cL_law 362 = .ok (.invokevirtual 22, 3) := by decide +kernel
theorem dL_law_365 : decode cL_law 365 = .ok (.ldc 67, 2) := by decide +kernel
theorem dL_law_367 : decode cL_law 367 = .ok (.if_icmp .eq 20, 3) := by decide +kernel
theorem dL_law_370 : decode cL_law 370 = .ok (.aload_n 1, 1) := by decide +kernel
theorem dL_law_371 : decode cL_law 371 = .ok (.iload_n 3, 1) := by decide +kernel
theorem dL_law_372 : decode cL_law 372 = .ok (.aload_n 0, 1) := by decide +kernel
theorem dL_law_373 : decode cL_law 373 = .ok (.bipush 22, 2) := by decide +kernel
theorem dL_law_375 : decode cL_law 375 = .ok (.invokestatic 81, 3) := by decide +kernel
theorem dL_law_378 : decode cL_law 378 = .ok (.invokestatic 110, 3) := by decide +kernel
theorem dL_law_381 : decode cL_law 381 = .ok (.ifCond .ne 28, 3) := by decide +kernel
theorem dL_law_384 : decode cL_law 384 = .ok (.goto 23, 3) := by decide +kernel
theorem dL_law_387 : decode cL_law 387 = .ok (.aload_n 1, 1) := by decide +kernel
theorem dL_law_388 : decode cL_law 388 = .ok (.iload_n 3, 1) := by decide +kernel
theorem dL_law_389 : decode cL_law 389 = .ok (.iconst 0, 1) := by decide +kernel
theorem dL_law_390 : decode cL_law 390 = .ok (.invokevirtual 68, 3) := by decide +kernel
theorem dL_law_393 : decode cL_law 393 = .ok (.ldc 114, 2) := by decide +kernel
theorem dL_law_395 : decode cL_law 395 = .ok (.if_icmp .ne 12, 3) := by decide +kernel
theorem dL_law_398 : decode cL_law 398 = .ok (.aload_n 1, 1) := by decide +kernel
theorem dL_law_399 : decode cL_law 399 = .ok (.iload_n 3, 1) := by decide +kernel
theorem dL_law_400 : decode cL_law 400 = .ok (.invokevirtual 89, 3) := by decide +kernel
theorem dL_law_403 : decode cL_law 403 = .ok (.iconst 1, 1) := by decide +kernel
theorem dL_law_404 : decode cL_law 404 = .ok (.if_icmp .eq 5, 3) := by decide +kernel
theorem dL_law_407 : decode cL_law 407 = .ok (.iconst 0, 1) := by decide +kernel
theorem dL_law_408 : decode cL_law 408 = .ok (.ireturn, 1) := by decide +kernel
theorem dL_law_409 : decode cL_law 409 = .ok (.aload_n 1, 1) := by decide +kernel
theorem dL_law_410 : decode cL_law 410 = .ok (.invokestatic 85, 3) := by decide +kernel
theorem dL_law_413 : decode cL_law 413 = .ok (.lstore 4, 2) := by decide +kernel
theorem dL_law_415 : decode cL_law 415 = .ok (.aload_n 1, 1) := by decide +kernel
theorem dL_law_416 : decode cL_law 416 = .ok (.bipush 71, 2) := by decide +kernel
theorem dL_law_418 : decode cL_law 418 = .ok (.iconst (-1), 1) := by decide +kernel
theorem dL_law_419 : decode cL_law 419 = .ok (.bipush 20, 2) := by decide +kernel
theorem dL_law_421 : decode cL_law 421 = .ok (.iconst 0, 1) := by decide +kernel
theorem dL_law_422 : decode cL_law 422 = .ok (.invokevirtual 46, 3) := by decide +kernel
theorem dL_law_425 : decode cL_law 425 = .ok (.ldc 65, 2) := by decide +kernel
theorem dL_law_427 : decode cL_law 427 = .ok (.if_icmp .ne 59, 3) := by decide +kernel
theorem dL_law_430 : decode cL_law 430 = .ok (.aload_n 1, 1) := by decide +kernel
theorem dL_law_431 : decode cL_law 431 = .ok (.bipush 6, 2) := by decide +kernel
theorem dL_law_433 : decode cL_law 433 = .ok (.iconst 0, 1) := by decide +kernel
theorem dL_law_434 : decode cL_law 434 = .ok (.invokevirtual 43, 3) := by decide +kernel
theorem dL_law_437 : decode cL_law 437 = .ok (.ldc 65, 2) := by decide +kernel
theorem dL_law_439 : decode cL_law 439 = .ok (.if_icmp .ne 47, 3) := by decide +kernel
theorem dL_law_442 : decode cL_law 442 = .ok (.aload_n 1, 1) := by decide +kernel
theorem dL_law_443 : decode cL_law 443 = .ok (.bipush 10, 2) := by decide +kernel
theorem dL_law_445 : decode cL_law 445 = .ok (.invokevirtual 50, 3) := by decide +kernel
theorem dL_law_448 : decode cL_law 448 = .ok (.ldc 65, 2) := by decide +kernel
theorem dL_law_450 : decode cL_law 450 = .ok (.if_icmp .ne 36, 3) := by decide +kernel
theorem dL_law_453 : decode cL_law 453 = .ok (.aload_n 1, 1) := by decide +kernel
theorem dL_law_454 : decode cL_law 454 = .ok (.bipush 12, 2) := by decide +kernel
theorem dL_law_456 : decode cL_law 456 = .ok (.iconst 0, 1) := by decide +kernel
theorem dL_law_457 : decode cL_law 457 = .ok (.invokevirtual 33, 3) := by decide +kernel
theorem dL_law_460 : decode cL_law 460 = .ok (.ldc 65, 2) := by decide +kernel
theorem dL_law_462 : decode cL_law 462 = .ok (.if_icmp .ne 24, 3) := by decide +kernel
theorem dL_law_465 : decode cL_law 465 = .ok (.aload_n 1, 1) := by decide +kernel
theorem dL_law_466 : decode cL_law 466 = .ok (.bipush 61, 2) := by decide +kernel
theorem dL_law_468 : decode cL_law 468 = .ok (.invokevirtual 115, 3) := by decide +kernel
theorem dL_law_471 : decode cL_law 471 = .ok (.ldc 65, 2) := by decide +kernel
theorem dL_law_473 : decode cL_law 473 = .ok (.if_icmp .ne 13, 3) := by decide +kernel
theorem dL_law_476 : decode cL_law 476 = .ok (.aload_n 1, 1) := by decide +kernel
theorem dL_law_477 : decode cL_law 477 = .ok (.invokestatic 85, 3) := by decide +kernel
theorem dL_law_480 : decode cL_law 480 = .ok (.lload 4, 2) := by decide +kernel
theorem dL_law_482 : decode cL_law 482 = .ok (.lcmp, 1) := by decide +kernel
theorem dL_law_483 : decode cL_law 483 = .ok (.ifCond .eq 5, 3) := by decide +kernel
theorem dL_law_486 : decode cL_law 486 = .ok (.iconst 0, 1) := by decide +kernel
theorem dL_law_487 : decode cL_law 487 = .ok (.ireturn, 1) := by decide +kernel
theorem dL_law_488 : decode cL_law 488 = .ok (.aload_n 1, 1) := by decide +kernel
theorem dL_law_489 : decode cL_law 489 = .ok (.invokevirtual 118, 3) := by decide +kernel
theorem dL_law_492 : decode cL_law 492 = .ok (.istore 6, 2) := by decide +kernel
theorem dL_law_494 : decode cL_law 494 = .ok (.iconst 0, 1) := by decide +kernel
theorem dL_law_495 : decode cL_law 495 = .ok (.istore 7, 2) := by decide +kernel
theorem dL_law_497 : decode cL_law 497 = .ok (.iload 7, 2) := by decide +kernel
theorem dL_law_499 : decode cL_law 499 = .ok (.iload 6, 2) := by decide +kernel
theorem dL_law_501 : decode cL_law 501 = .ok (.if_icmp .ge 18, 3) := by decide +kernel
theorem dL_law_504 : decode cL_law 504 = .ok (.aload_n 1, 1) := by decide +kernel
theorem dL_law_505 : decode cL_law 505 = .ok (.invokevirtual 56, 3) := by decide +kernel
theorem dL_law_508 : decode cL_law 508 = .ok (.ifCond .gt 5, 3) := by decide +kernel
theorem dL_law_511 : decode cL_law 511 = .ok (.iconst 0, 1) := by decide +kernel
theorem dL_law_512 : decode cL_law 512 = .ok (.ireturn, 1) := by decide +kernel
theorem dL_law_513 : decode cL_law 513 = .ok (.iinc 7 1, 3) := by decide +kernel
theorem dL_law_516 : decode cL_law 516 = .ok (.goto (-19), 3) := by decide +kernel
theorem dL_law_519 : decode cL_law 519 = .ok (.iload 6, 2) := by decide +kernel
theorem dL_law_521 : decode cL_law 521 = .ok (.ldc 67, 2) := by decide +kernel
theorem dL_law_523 : decode cL_law 523 = .ok (.if_icmp .ne 14, 3) := by decide +kernel
theorem dL_law_526 : decode cL_law 526 = .ok (.aload_n 1, 1) := by decide +kernel
theorem dL_law_527 : decode cL_law 527 = .ok (.iconst 4, 1) := by decide +kernel
theorem dL_law_528 : decode cL_law 528 = .ok (.invokevirtual 12, 3) := by decide +kernel
theorem dL_law_531 : decode cL_law 531 = .ok (.ifCond .le 25, 3) := by decide +kernel
theorem dL_law_534 : decode cL_law 534 = .ok (.goto 11, 3) := by decide +kernel
theorem dL_law_537 : decode cL_law 537 = .ok (.aload_n 1, 1) := by decide +kernel
theorem dL_law_538 : decode cL_law 538 = .ok (.iconst 4, 1) := by decide +kernel
theorem dL_law_539 : decode cL_law 539 = .ok (.invokevirtual 12, 3) := by decide +kernel
theorem dL_law_542 : decode cL_law 542 = .ok (.ifCond .ne 14, 3) := by decide +kernel
theorem dL_law_545 : decode cL_law 545 = .ok (.aload_n 1, 1) := by decide +kernel
theorem dL_law_546 : decode cL_law 546 = .ok (.invokestatic 103, 3) := by decide +kernel
theorem dL_law_549 : decode cL_law 549 = .ok (.ifCond .eq 7, 3) := by decide +kernel
theorem dL_law_552 : decode cL_law 552 = .ok (.iconst 1, 1) := by decide +kernel
theorem dL_law_553 : decode cL_law 553 = .ok (.goto 4, 3) := by decide +kernel
theorem dL_law_556 : decode cL_law 556 = .ok (.iconst 0, 1) := by decide +kernel
theorem dL_law_557 : decode cL_law 557 = .ok (.ireturn, 1) := by decide +kernel
