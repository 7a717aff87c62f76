theorem dL_cell_0 : decode cL_cell 0 = .ok (.iload_n 1, 1) := by decide +kernel
theorem dL_cell_1 : decode cL_cell 1 = .ok (.aload_n 0, 1) := by decide +kernel
theorem dL_cell_2 : decode cL_cell 2 = .ok (.arraylength, 1) := by decide +kernel
theorem dL_cell_3 : decode cL_cell 3 = .ok (.if_icmp .ge 9, 3) := by decide +kernel
theorem dL_cell_6 : decode cL_cell 6 = .ok (.aload_n 0, 1) := by decide +kernel
theorem dL_cell_7 : decode cL_cell 7 = .ok (.iload_n 1, 1) := by decide +kernel
theorem dL_cell_8 : decode cL_cell 8 = .ok (.iaload, 1) := by decide +kernel
theorem dL_cell_9 : decode cL_cell 9 = .ok (.goto 9, 3) := by decide +kernel
theorem dL_cell_12 : decode cL_cell 12 = .ok (.ldc 7, 2) := by decide +kernel
theorem dL_cell_14 : decode cL_cell 14 = .ok (.iload_n 1, 1) := by decide +kernel
theorem dL_cell_15 : decode cL_cell 15 = .ok (.iconst 1, 1) := by decide +kernel
theorem dL_cell_16 : decode cL_cell 16 = .ok (.iadd, 1) := by decide +kernel
theorem dL_cell_17 : decode cL_cell 17 = .ok (.imul, 1) := by decide +kernel
theorem dL_cell_18 : decode cL_cell 18 = .ok (.ireturn, 1) := by decide +kernel
theorem dL_at_0 : decode cL_at 0 = .ok (.iload_n 0, 1) := by decide +kernel
theorem dL_at_1 : decode cL_at 1 = .ok (.iconst 1, 1) := by decide +kernel
theorem dL_at_2 : decode cL_at 2 = .ok (.iushr, 1) := by decide +kernel
theorem dL_at_3 : decode cL_at 3 = .ok (.iload_n 1, 1) := by decide +kernel
theorem dL_at_4 : decode cL_at 4 = .ok (.irem, 1) := by decide +kernel
theorem dL_at_5 : decode cL_at 5 = .ok (.ireturn, 1) := by decide +kernel
theorem dL_abs_0 : decode cL_abs 0 = .ok (.lload_n 0, 1) := by decide +kernel
theorem dL_abs_1 : decode cL_abs 1 = .ok (.lconst 0, 1) := by decide +kernel
theorem dL_abs_2 : decode cL_abs 2 = .ok (.lcmp, 1) := by decide +kernel
theorem dL_abs_3 : decode cL_abs 3 = .ok (.ifCond .ge 8, 3) := by decide +kernel
theorem dL_abs_6 : decode cL_abs 6 = .ok (.lload_n 0, 1) := by decide +kernel
theorem dL_abs_7 : decode cL_abs 7 = .ok (.lneg, 1) := by decide +kernel
theorem dL_abs_8 : decode cL_abs 8 = .ok (.goto 4, 3) := by decide +kernel
theorem dL_abs_11 : decode cL_abs 11 = .ok (.lload_n 0, 1) := by decide +kernel
theorem dL_abs_12 : decode cL_abs 12 = .ok (.lreturn, 1) := by decide +kernel
theorem dL_root_0 : decode cL_root 0 = .ok (.lconst 0, 1) := by decide +kernel
theorem dL_root_1 : decode cL_root 1 = .ok (.lstore_n 2, 1) := by decide +kernel
theorem dL_root_2 : decode cL_root 2 = .ok (.ldc2_w 8, 3) := by decide +kernel
theorem dL_root_5 : decode cL_root 5 = .ok (.lstore 4, 2) := by decide +kernel
theorem dL_root_7 : decode cL_root 7 = .ok (.lload 4, 2) := by decide +kernel
theorem dL_root_9 : decode cL_root 9 = .ok (.lconst 0, 1) := by decide +kernel
theorem dL_root_10 : decode cL_root 10 = .ok (.lcmp, 1) := by decide +kernel
theorem dL_root_11 : decode cL_root 11 = .ok (.ifCond .le 31, 3) := by decide +kernel
theorem dL_root_14 : decode cL_root 14 = .ok (.lload_n 2, 1) := by decide +kernel
theorem dL_root_15 : decode cL_root 15 = .ok (.lload 4, 2) := by decide +kernel
theorem dL_root_17 : decode cL_root 17 = .ok (.ladd, 1) := by decide +kernel
theorem dL_root_18 : decode cL_root 18 = .ok (.lload_n 2, 1) := by decide +kernel
theorem dL_root_19 : decode cL_root 19 = .ok (.lload 4, 2) := by decide +kernel
theorem dL_root_21 : decode cL_root 21 = .ok (.ladd, 1) := by decide +kernel
theorem dL_root_22 : decode cL_root 22 = .ok (.lmul, 1) := by decide +kernel
theorem dL_root_23 : decode cL_root 23 = .ok (.lload_n 0, 1) := by decide +kernel
theorem dL_root_24 : decode cL_root 24 = .ok (.lcmp, 1) := by decide +kernel
theorem dL_root_25 : decode cL_root 25 = .ok (.ifCond .gt 8, 3) := by decide +kernel
theorem dL_root_28 : decode cL_root 28 = .ok (.lload_n 2, 1) := by decide +kernel
theorem dL_root_29 : decode cL_root 29 = .ok (.lload 4, 2) := by decide +kernel
theorem dL_root_31 : decode cL_root 31 = .ok (.ladd, 1) := by decide +kernel
theorem dL_root_32 : decode cL_root 32 = .ok (.lstore_n 2, 1) := by decide +kernel
theorem dL_root_33 : decode cL_root 33 = .ok (.lload 4, 2) := by decide +kernel
theorem dL_root_35 : decode cL_root 35 = .ok (.iconst 1, 1) := by decide +kernel
theorem dL_root_36 : decode cL_root 36 = .ok (.lshr, 1) := by decide +kernel
theorem dL_root_37 : decode cL_root 37 = .ok (.lstore 4, 2) := by decide +kernel
theorem dL_root_39 : decode cL_root 39 = .ok (.goto (-32), 3) := by decide +kernel
theorem dL_root_42 : decode cL_root 42 = .ok (.lload_n 2, 1) := by decide +kernel
theorem dL_root_43 : decode cL_root 43 = .ok (.lreturn, 1) := by decide +kernel
theorem dL_find_0 : decode cL_find 0 = .ok (.lload_n 0, 1) := by decide +kernel
theorem dL_find_1 : decode cL_find 1 = .ok (.ldc2_w 10, 3) := by decide +kernel
theorem dL_find_4 : decode cL_find 4 = .ok (.aload 4, 2) := by decide +kernel
theorem dL_find_6 : decode cL_find 6 = .ok (.iconst 5, 1) := by decide +kernel
theorem dL_find_7 : decode cL_find 7 = .ok (.iaload, 1) := by decide +kernel
theorem dL_find_8 : decode cL_find 8 = .ok (.i2l, 1) := by decide +kernel
theorem dL_find_9 : decode cL_find 9 = .ok (.lmul, 1) := by decide +kernel
theorem dL_find_10 : decode cL_find 10 = .ok (.lsub, 1) := by decide +kernel
theorem dL_find_11 : decode cL_find 11 = .ok (.lstore 6, 2) := by decide +kernel
theorem dL_find_13 : decode cL_find 13 = .ok (.lload_n 2, 1) := by decide +kernel
theorem dL_find_14 : decode cL_find 14 = .ok (.ldc2_w 10, 3) := by decide +kernel
theorem dL_find_17 : decode cL_find 17 = .ok (.aload 4, 2) := by decide +kernel
theorem dL_find_19 : decode cL_find 19 = .ok (.bipush 6, 2) := by decide +kernel
theorem dL_find_21 : decode cL_find 21 = .ok (.iaload, 1) := by decide +kernel
theorem dL_find_22 : decode cL_find 22 = .ok (.i2l, 1) := by decide +kernel
theorem dL_find_23 : decode cL_find 23 = .ok (.lmul, 1) := by decide +kernel
theorem dL_find_24 : decode cL_find 24 = .ok (.lsub, 1) := by decide +kernel
theorem dL_find_25 : decode cL_find 25 = .ok (.lstore 8, 2) := by decide +kernel
theorem dL_find_27 : decode cL_find 27 = .ok (.lload 6, 2) := by decide +kernel
theorem dL_find_29 : decode cL_find 29 = .ok (.lload 6, 2) := by decide +kernel
theorem dL_find_31 : decode cL_find 31 = .ok (.lmul, 1) := by decide +kernel
theorem dL_find_32 : decode cL_find 32 = .ok (.lload 8, 2) := by decide +kernel
theorem dL_find_34 : decode cL_find 34 = .ok (.lload 8, 2) := by decide +kernel
theorem dL_find_36 : decode cL_find 36 = .ok (.lmul, 1) := by decide +kernel
theorem dL_find_37 : decode cL_find 37 = .ok (.ladd, 1) := by decide +kernel
theorem dL_find_38 : decode cL_find 38 = .ok (.lstore 10, 2) := by decide +kernel
theorem dL_find_40 : decode cL_find 40 = .ok (.lload 10, 2) := by decide +kernel
theorem dL_find_42 : decode cL_find 42 = .ok (.invokestatic 12, 3) := by decide +kernel
theorem dL_find_45 : decode cL_find 45 = .ok (.lstore 12, 2) := by decide +kernel
theorem dL_find_47 : decode cL_find 47 = .ok (.ldc2_w 10, 3) := by decide +kernel
theorem dL_find_50 : decode cL_find 50 = .ok (.aload 4, 2) := by decide +kernel
theorem dL_find_52 : decode cL_find 52 = .ok (.iconst 0, 1) := by decide +kernel
theorem dL_find_53 : decode cL_find 53 = .ok (.iaload, 1) := by decide +kernel
theorem dL_find_54 : decode cL_find 54 = .ok (.i2l, 1) := by decide +kernel
theorem dL_find_55 : decode cL_find 55 = .ok (.lmul, 1) := by decide +kernel
theorem dL_find_56 : decode cL_find 56 = .ok (.lstore 14, 2) := by decide +kernel
theorem dL_find_58 : decode cL_find 58 = .ok (.ldc2_w 10, 3) := by decide +kernel
theorem dL_find_61 : decode cL_find 61 = .ok (.aload 4, 2) := by decide +kernel
theorem dL_find_63 : decode cL_find 63 = .ok (.iconst 1, 1) := by decide +kernel
theorem dL_find_64 : decode cL_find 64 = .ok (.iaload, 1) := by decide +kernel
theorem dL_find_65 : decode cL_find 65 = .ok (.i2l, 1) := by decide +kernel
theorem dL_find_66 : decode cL_find 66 = .ok (.lmul, 1) := by decide +kernel
theorem dL_find_67 : decode cL_find 67 = .ok (.lstore 16, 2) := by decide +kernel
theorem dL_find_69 : decode cL_find 69 = .ok (.aload 5, 2) := by decide +kernel
theorem dL_find_71 : decode cL_find 71 = .ok (.iconst 2, 1) := by decide +kernel
theorem dL_find_72 : decode cL_find 72 = .ok (.lload 12, 2) := by decide +kernel
theorem dL_find_74 : decode cL_find 74 = .ok (.lconst 0, 1) := by decide +kernel
theorem dL_find_75 : decode cL_find 75 = .ok (.lcmp, 1) := by decide +kernel
theorem dL_find_76 : decode cL_find 76 = .ok (.ifCond .le 32, 3) := by decide +kernel
theorem dL_find_79 : decode cL_find 79 = .ok (.lload 12, 2) := by decide +kernel
theorem dL_find_81 : decode cL_find 81 = .ok (.lload 14, 2) := by decide +kernel
theorem dL_find_83 : decode cL_find 83 = .ok (.lload 16, 2) := by decide +kernel
theorem dL_find_85 : decode cL_find 85 = .ok (.ladd, 1) := by decide +kernel
theorem dL_find_86 : decode cL_find 86 = .ok (.lcmp, 1) := by decide +kernel
theorem dL_find_87 : decode cL_find 87 = .ok (.ifCond .gt 21, 3) := by decide +kernel
theorem dL_find_90 : decode cL_find 90 = .ok (.lload 12, 2) := by decide +kernel
theorem dL_find_92 : decode cL_find 92 = .ok (.lload 14, 2) := by decide +kernel
theorem dL_find_94 : decode cL_find 94 = .ok (.lload 16, 2) := by decide +kernel
theorem dL_find_96 : decode cL_find 96 = .ok (.lsub, 1) := by decide +kernel
theorem dL_find_97 : decode cL_find 97 = .ok (.invokestatic 18, 3) := by decide +kernel
theorem dL_find_100 : decode cL_find 100 = .ok (.lcmp, 1) := by decide +kernel
theorem dL_find_101 : decode cL_find 101 = .ok (.ifCond .lt 7, 3) := by decide +kernel
theorem dL_find_104 : decode cL_find 104 = .ok (.lconst 1, 1) := by decide +kernel
theorem dL_find_105 : decode cL_find 105 = .ok (.goto 4, 3) := by decide +kernel
theorem dL_find_108 : decode cL_find 108 = .ok (.lconst 0, 1) := by decide +kernel
theorem dL_find_109 : decode cL_find 109 = .ok (.lastore, 1) := by decide +kernel
theorem dL_find_110 : decode cL_find 110 = .ok (.aload 5, 2) := by decide +kernel
theorem dL_find_112 : decode cL_find 112 = .ok (.iconst 2, 1) := by decide +kernel
theorem dL_find_113 : decode cL_find 113 = .ok (.laload, 1) := by decide +kernel
theorem dL_find_114 : decode cL_find 114 = .ok (.lconst 0, 1) := by decide +kernel
theorem dL_find_115 : decode cL_find 115 = .ok (.lcmp, 1) := by decide +kernel
theorem dL_find_116 : decode cL_find 116 = .ok (.ifCond .ne 4, 3) := by decide +kernel
theorem dL_find_119 : decode cL_find 119 = .ok (.return_, 1) := by decide +kernel
theorem dL_find_120 : decode cL_find 120 = .ok (.lload 10, 2) := by decide +kernel
theorem dL_find_122 : decode cL_find 122 = .ok (.lload 14, 2) := by decide +kernel
theorem dL_find_124 : decode cL_find 124 = .ok (.lload 16, 2) := by decide +kernel
theorem dL_find_126 : decode cL_find 126 = .ok (.lsub, 1) := by decide +kernel
theorem dL_find_127 : decode cL_find 127 = .ok (.lload 14, 2) := by decide +kernel
theorem dL_find_129 : decode cL_find 129 = .ok (.lload 16, 2) := by decide +kernel
theorem dL_find_131 : decode cL_find 131 = .ok (.ladd, 1) := by decide +kernel
theorem dL_find_132 : decode cL_find 132 = .ok (.lmul, 1) := by decide +kernel
theorem dL_find_133 : decode cL_find 133 = .ok (.ladd, 1) := by decide +kernel
theorem dL_find_134 : decode cL_find 134 = .ok (.lload 12, 2) := by decide +kernel
theorem dL_find_136 : decode cL_find 136 = .ok (.lload 12, 2) := by decide +kernel
theorem dL_find_138 : decode cL_find 138 = .ok (.ladd, 1) := by decide +kernel
theorem dL_find_139 : decode cL_find 139 = .ok (.ldiv, 1) := by decide +kernel
theorem dL_find_140 : decode cL_find 140 = .ok (.lstore 18, 2) := by decide +kernel
theorem dL_find_142 : decode cL_find 142 = .ok (.lload 14, 2) := by decide +kernel
theorem dL_find_144 : decode cL_find 144 = .ok (.lload 18, 2) := by decide +kernel
theorem dL_find_146 : decode cL_find 146 = .ok (.lsub, 1) := by decide +kernel
theorem dL_find_147 : decode cL_find 147 = .ok (.lload 14, 2) := by decide +kernel
theorem dL_find_149 : decode cL_find 149 = .ok (.lload 18, 2) := by decide +kernel
theorem dL_find_151 : decode cL_find 151 = .ok (.ladd, 1) := by decide +kernel
theorem dL_find_152 : decode cL_find 152 = .ok (.lmul, 1) := by decide +kernel
theorem dL_find_153 : decode cL_find 153 = .ok (.lconst 0, 1) := by decide +kernel
theorem dL_find_154 : decode cL_find 154 = .ok (.lcmp, 1) := by decide +kernel
theorem dL_find_155 : decode cL_find 155 = .ok (.ifCond .le 20, 3) := by decide +kernel
theorem dL_find_158 : decode cL_find 158 = .ok (.lload 14, 2) := by decide +kernel
theorem dL_find_160 : decode cL_find 160 = .ok (.lload 18, 2) := by decide +kernel
theorem dL_find_162 : decode cL_find 162 = .ok (.lsub, 1) := by decide +kernel
theorem dL_find_163 : decode cL_find 163 = .ok (.lload 14, 2) := by decide +kernel
theorem dL_find_165 : decode cL_find 165 = .ok (.lload 18, 2) := by decide +kernel
theorem dL_find_167 : decode cL_find 167 = .ok (.ladd, 1) := by decide +kernel
theorem dL_find_168 : decode cL_find 168 = .ok (.lmul, 1) := by decide +kernel
theorem dL_find_169 : decode cL_find 169 = .ok (.invokestatic 12, 3) := by decide +kernel
theorem dL_find_172 : decode cL_find 172 = .ok (.goto 4, 3) := by decide +kernel
theorem dL_find_175 : decode cL_find 175 = .ok (.lconst 0, 1) := by decide +kernel
theorem dL_find_176 : decode cL_find 176 = .ok (.lstore 20, 2) := by decide +kernel
theorem dL_find_178 : decode cL_find 178 = .ok (.aload 4, 2) := by decide +kernel
theorem dL_find_180 : decode cL_find 180 = .ok (.iconst 3, 1) := by decide +kernel
theorem dL_find_181 : decode cL_find 181 = .ok (.iaload, 1) := by decide +kernel
theorem dL_find_182 : decode cL_find 182 = .ok (.iconst 1, 1) := by decide +kernel
theorem dL_find_183 : decode cL_find 183 = .ok (.if_icmp .ne 8, 3) := by decide +kernel
theorem dL_find_186 : decode cL_find 186 = .ok (.lload 20, 2) := by decide +kernel
theorem dL_find_188 : decode cL_find 188 = .ok (.lneg, 1) := by decide +kernel
theorem dL_find_189 : decode cL_find 189 = .ok (.lstore 20, 2) := by decide +kernel
theorem dL_find_191 : decode cL_find 191 = .ok (.aload 5, 2) := by decide +kernel
theorem dL_find_193 : decode cL_find 193 = .ok (.iconst 0, 1) := by decide +kernel
theorem dL_find_194 : decode cL_find 194 = .ok (.ldc2_w 10, 3) := by decide +kernel
theorem dL_find_197 : decode cL_find 197 = .ok (.aload 4, 2) := by decide +kernel
theorem dL_find_199 : decode cL_find 199 = .ok (.iconst 5, 1) := by decide +kernel
theorem dL_find_200 : decode cL_find 200 = .ok (.iaload, 1) := by decide +kernel
theorem dL_find_201 : decode cL_find 201 = .ok (.i2l, 1) := by decide +kernel
theorem dL_find_202 : decode cL_find 202 = .ok (.lmul, 1) := by decide +kernel
theorem dL_find_203 : decode cL_find 203 = .ok (.lload 6, 2) := by decide +kernel
theorem dL_find_205 : decode cL_find 205 = .ok (.lload 18, 2) := by decide +kernel
theorem dL_find_207 : decode cL_find 207 = .ok (.lmul, 1) := by decide +kernel
theorem dL_find_208 : decode cL_find 208 = .ok (.lload 8, 2) := by decide +kernel
theorem dL_find_210 : decode cL_find 210 = .ok (.lload 20, 2) := by decide +kernel
theorem dL_find_212 : decode cL_find 212 = .ok (.lmul, 1) := by decide +kernel
theorem dL_find_213 : decode cL_find 213 = .ok (.lsub, 1) := by decide +kernel
theorem dL_find_214 : decode cL_find 214 = .ok (.lload 12, 2) := by decide +kernel
theorem dL_find_216 : decode cL_find 216 = .ok (.ldiv, 1) := by decide +kernel
theorem dL_find_217 : decode cL_find 217 = .ok (.ladd, 1) := by decide +kernel
theorem dL_find_218 : decode cL_find 218 = .ok (.lastore, 1) := by decide +kernel
theorem dL_find_219 : decode cL_find 219 = .ok (.aload 5, 2) := by decide +kernel
theorem dL_find_221 : decode cL_find 221 = .ok (.iconst 1, 1) := by decide +kernel
theorem dL_find_222 : decode cL_find 222 = .ok (.ldc2_w 10, 3) := by decide +kernel
theorem dL_find_225 : decode cL_find 225 = .ok (.aload 4, 2) := by decide +kernel
theorem dL_find_227 : decode cL_find 227 = .ok (.bipush 6, 2) := by decide +kernel
theorem dL_find_229 : decode cL_find 229 = .ok (.iaload, 1) := by decide +kernel
theorem dL_find_230 : decode cL_find 230 = .ok (.i2l, 1) := by decide +kernel
theorem dL_find_231 : decode cL_find 231 = .ok (.lmul, 1) := by decide +kernel
theorem dL_find_232 : decode cL_find 232 = .ok (.lload 8, 2) := by decide +kernel
theorem dL_find_234 : decode cL_find 234 = .ok (.lload 18, 2) := by decide +kernel
theorem dL_find_236 : decode cL_find 236 = .ok (.lmul, 1) := by decide +kernel
theorem dL_find_237 : decode cL_find 237 = .ok (.lload 6, 2) := by decide +kernel
theorem dL_find_239 : decode cL_find 239 = .ok (.lload 20, 2) := by decide +kernel
theorem dL_find_241 : decode cL_find 241 = .ok (.lmul, 1) := by decide +kernel
theorem dL_find_242 : decode cL_find 242 = .ok (.ladd, 1) := by decide +kernel
theorem dL_find_243 : decode cL_find 243 = .ok (.lload 12, 2) := by decide +kernel
theorem dL_find_245 : decode cL_find 245 = .ok (.ldiv, 1) := by decide +kernel
theorem dL_find_246 : decode cL_find 246 = .ok (.ladd, 1) := by decide +kernel
theorem dL_find_247 : decode cL_find 247 = .ok (.lastore, 1) := by decide +kernel
theorem dL_find_248 : decode cL_find 248 = .ok (.return_, 1) := by decide +kernel
theorem dL_steps_0 : decode cL_steps 0 = .ok (.iload_n 0, 1) := by decide +kernel
theorem dL_steps_1 : decode cL_steps 1 = .ok (.iconst 1, 1) := by decide +kernel
theorem dL_steps_2 : decode cL_steps 2 = .ok (.iadd, 1) := by decide +kernel
theorem dL_steps_3 : decode cL_steps 3 = .ok (.aload_n 3, 1) := by decide +kernel
theorem dL_steps_4 : decode cL_steps 4 = .ok (.iconst 0, 1) := by decide +kernel
theorem dL_steps_5 : decode cL_steps 5 = .ok (.iaload, 1) := by decide +kernel
theorem dL_steps_6 : decode cL_steps 6 = .ok (.if_icmp .ne 7, 3) := by decide +kernel
theorem dL_steps_9 : decode cL_steps 9 = .ok (.iconst 0, 1) := by decide +kernel
theorem dL_steps_10 : decode cL_steps 10 = .ok (.goto 6, 3) := by decide +kernel
theorem dL_steps_13 : decode cL_steps 13 = .ok (.iload_n 0, 1) := by decide +kernel
theorem dL_steps_14 : decode cL_steps 14 = .ok (.iconst 1, 1) := by decide +kernel
theorem dL_steps_15 : decode cL_steps 15 = .ok (.iadd, 1) := by decide +kernel
theorem dL_steps_16 : decode cL_steps 16 = .ok (.istore 4, 2) := by decide +kernel
theorem dL_steps_18 : decode cL_steps 18 = .ok (.aload_n 2, 1) := by decide +kernel
theorem dL_steps_19 : decode cL_steps 19 = .ok (.iconst 3, 1) := by decide +kernel
theorem dL_steps_20 : decode cL_steps 20 = .ok (.iload 4, 2) := by decide +kernel
theorem dL_steps_22 : decode cL_steps 22 = .ok (.imul, 1) := by decide +kernel
theorem dL_steps_23 : decode cL_steps 23 = .ok (.iaload, 1) := by decide +kernel
theorem dL_steps_24 : decode cL_steps 24 = .ok (.aload_n 2, 1) := by decide +kernel
theorem dL_steps_25 : decode cL_steps 25 = .ok (.iconst 3, 1) := by decide +kernel
theorem dL_steps_26 : decode cL_steps 26 = .ok (.iload_n 0, 1) := by decide +kernel
theorem dL_steps_27 : decode cL_steps 27 = .ok (.imul, 1) := by decide +kernel
theorem dL_steps_28 : decode cL_steps 28 = .ok (.iaload, 1) := by decide +kernel
theorem dL_steps_29 : decode cL_steps 29 = .ok (.isub, 1) := by decide +kernel
theorem dL_steps_30 : decode cL_steps 30 = .ok (.i2l, 1) := by decide +kernel
theorem dL_steps_31 : decode cL_steps 31 = .ok (.invokestatic 18, 3) := by decide +kernel
theorem dL_steps_34 : decode cL_steps 34 = .ok (.lstore 5, 2) := by decide +kernel
theorem dL_steps_36 : decode cL_steps 36 = .ok (.aload_n 2, 1) := by decide +kernel
theorem dL_steps_37 : decode cL_steps 37 = .ok (.iconst 3, 1) := by decide +kernel
theorem dL_steps_38 : decode cL_steps 38 = .ok (.iload 4, 2) := by decide +kernel
theorem dL_steps_40 : decode cL_steps 40 = .ok (.imul, 1) := by decide +kernel
theorem dL_steps_41 : decode cL_steps 41 = .ok (.iconst 1, 1) := by decide +kernel
theorem dL_steps_42 : decode cL_steps 42 = .ok (.iadd, 1) := by decide +kernel
theorem dL_steps_43 : decode cL_steps 43 = .ok (.iaload, 1) := by decide +kernel
theorem dL_steps_44 : decode cL_steps 44 = .ok (.aload_n 2, 1) := by decide +kernel
theorem dL_steps_45 : decode cL_steps 45 = .ok (.iconst 3, 1) := by decide +kernel
theorem dL_steps_46 : decode cL_steps 46 = .ok (.iload_n 0, 1) := by decide +kernel
theorem dL_steps_47 : decode cL_steps 47 = .ok (.imul, 1) := by decide +kernel
theorem dL_steps_48 : decode cL_steps 48 = .ok (.iconst 1, 1) := by decide +kernel
theorem dL_steps_49 : decode cL_steps 49 = .ok (.iadd, 1) := by decide +kernel
theorem dL_steps_50 : decode cL_steps 50 = .ok (.iaload, 1) := by decide +kernel
theorem dL_steps_51 : decode cL_steps 51 = .ok (.isub, 1) := by decide +kernel
theorem dL_steps_52 : decode cL_steps 52 = .ok (.i2l, 1) := by decide +kernel
theorem dL_steps_53 : decode cL_steps 53 = .ok (.invokestatic 18, 3) := by decide +kernel
theorem dL_steps_56 : decode cL_steps 56 = .ok (.lstore 7, 2) := by decide +kernel
theorem dL_steps_58 : decode cL_steps 58 = .ok (.lload 5, 2) := by decide +kernel
theorem dL_steps_60 : decode cL_steps 60 = .ok (.lload 7, 2) := by decide +kernel
theorem dL_steps_62 : decode cL_steps 62 = .ok (.lcmp, 1) := by decide +kernel
theorem dL_steps_63 : decode cL_steps 63 = .ok (.ifCond .le 8, 3) := by decide +kernel
theorem dL_steps_66 : decode cL_steps 66 = .ok (.lload 5, 2) := by decide +kernel
theorem dL_steps_68 : decode cL_steps 68 = .ok (.goto 5, 3) := by decide +kernel
theorem dL_steps_71 : decode cL_steps 71 = .ok (.lload 7, 2) := by decide +kernel
theorem dL_steps_73 : decode cL_steps 73 = .ok (.lstore 9, 2) := by decide +kernel
theorem dL_steps_75 : decode cL_steps 75 = .ok (.lload 9, 2) := by decide +kernel
theorem dL_steps_77 : decode cL_steps 77 = .ok (.aload_n 1, 1) := by decide +kernel
theorem dL_steps_78 : decode cL_steps 78 = .ok (.iconst 2, 1) := by decide +kernel
theorem dL_steps_79 : decode cL_steps 79 = .ok (.iaload, 1) := by decide +kernel
theorem dL_steps_80 : decode cL_steps 80 = .ok (.i2l, 1) := by decide +kernel
theorem dL_steps_81 : decode cL_steps 81 = .ok (.ldiv, 1) := by decide +kernel
theorem dL_steps_82 : decode cL_steps 82 = .ok (.l2i, 1) := by decide +kernel
theorem dL_steps_83 : decode cL_steps 83 = .ok (.istore 11, 2) := by decide +kernel
theorem dL_steps_85 : decode cL_steps 85 = .ok (.lload 9, 2) := by decide +kernel
theorem dL_steps_87 : decode cL_steps 87 = .ok (.aload_n 1, 1) := by decide +kernel
theorem dL_steps_88 : decode cL_steps 88 = .ok (.iconst 2, 1) := by decide +kernel
theorem dL_steps_89 : decode cL_steps 89 = .ok (.iaload, 1) := by decide +kernel
theorem dL_steps_90 : decode cL_steps 90 = .ok (.i2l, 1) := by decide +kernel
theorem dL_steps_91 : decode cL_steps 91 = .ok (.lrem, 1) := by decide +kernel
theorem dL_steps_92 : decode cL_steps 92 = .ok (.lconst 0, 1) := by decide +kernel
theorem dL_steps_93 : decode cL_steps 93 = .ok (.lcmp, 1) := by decide +kernel
theorem dL_steps_94 : decode cL_steps 94 = .ok (.ifCond .gt 8, 3) := by decide +kernel
theorem dL_steps_97 : decode cL_steps 97 = .ok (.iload 11, 2) := by decide +kernel
theorem dL_steps_99 : decode cL_steps 99 = .ok (.ifCond .ne 10, 3) := by decide +kernel
theorem dL_steps_102 : decode cL_steps 102 = .ok (.iload 11, 2) := by decide +kernel
theorem dL_steps_104 : decode cL_steps 104 = .ok (.iconst 1, 1) := by decide +kernel
theorem dL_steps_105 : decode cL_steps 105 = .ok (.iadd, 1) := by decide +kernel
theorem dL_steps_106 : decode cL_steps 106 = .ok (.goto 5, 3) := by decide +kernel
theorem dL_steps_109 : decode cL_steps 109 = .ok (.iload 11, 2) := by decide +kernel
theorem dL_steps_111 : decode cL_steps 111 = .ok (.ireturn, 1) := by decide +kernel
theorem dL_point_0 : decode cL_point 0 = .ok (.iload_n 0, 1) := by decide +kernel
theorem dL_point_1 : decode cL_point 1 = .ok (.iconst 1, 1) := by decide +kernel
theorem dL_point_2 : decode cL_point 2 = .ok (.iadd, 1) := by decide +kernel
theorem dL_point_3 : decode cL_point 3 = .ok (.aload 5, 2) := by decide +kernel
theorem dL_point_5 : decode cL_point 5 = .ok (.iconst 0, 1) := by decide +kernel
theorem dL_point_6 : decode cL_point 6 = .ok (.iaload, 1) := by decide +kernel
theorem dL_point_7 : decode cL_point 7 = .ok (.if_icmp .ne 7, 3) := by decide +kernel
theorem dL_point_10 : decode cL_point 10 = .ok (.iconst 0, 1) := by decide +kernel
theorem dL_point_11 : decode cL_point 11 = .ok (.goto 6, 3) := by decide +kernel
theorem dL_point_14 : decode cL_point 14 = .ok (.iload_n 0, 1) := by decide +kernel
theorem dL_point_15 : decode cL_point 15 = .ok (.iconst 1, 1) := by decide +kernel
theorem dL_point_16 : decode cL_point 16 = .ok (.iadd, 1) := by decide +kernel
theorem dL_point_17 : decode cL_point 17 = .ok (.istore 6, 2) := by decide +kernel
theorem dL_point_19 : decode cL_point 19 = .ok (.ldc2_w 10, 3) := by decide +kernel
theorem dL_point_22 : decode cL_point 22 = .ok (.aload 4, 2) := by decide +kernel
theorem dL_point_24 : decode cL_point 24 = .ok (.iconst 3, 1) := by decide +kernel
theorem dL_point_25 : decode cL_point 25 = .ok (.iload_n 0, 1) := by decide +kernel
theorem dL_point_26 : decode cL_point 26 = .ok (.imul, 1) := by decide +kernel
theorem dL_point_27 : decode cL_point 27 = .ok (.iload_n 2, 1) := by decide +kernel
theorem dL_point_28 : decode cL_point 28 = .ok (.iadd, 1) := by decide +kernel
theorem dL_point_29 : decode cL_point 29 = .ok (.iaload, 1) := by decide +kernel
theorem dL_point_30 : decode cL_point 30 = .ok (.i2l, 1) := by decide +kernel
theorem dL_point_31 : decode cL_point 31 = .ok (.lmul, 1) := by decide +kernel
theorem dL_point_32 : decode cL_point 32 = .ok (.ldc2_w 10, 3) := by decide +kernel
theorem dL_point_35 : decode cL_point 35 = .ok (.aload 4, 2) := by decide +kernel
theorem dL_point_37 : decode cL_point 37 = .ok (.iconst 3, 1) := by decide +kernel
theorem dL_point_38 : decode cL_point 38 = .ok (.iload 6, 2) := by decide +kernel
theorem dL_point_40 : decode cL_point 40 = .ok (.imul, 1) := by decide +kernel
theorem dL_point_41 : decode cL_point 41 = .ok (.iload_n 2, 1) := by decide +kernel
theorem dL_point_42 : decode cL_point 42 = .ok (.iadd, 1) := by decide +kernel
theorem dL_point_43 : decode cL_point 43 = .ok (.iaload, 1) := by decide +kernel
theorem dL_point_44 : decode cL_point 44 = .ok (.aload 4, 2) := by decide +kernel
theorem dL_point_46 : decode cL_point 46 = .ok (.iconst 3, 1) := by decide +kernel
theorem dL_point_47 : decode cL_point 47 = .ok (.iload_n 0, 1) := by decide +kernel
theorem dL_point_48 : decode cL_point 48 = .ok (.imul, 1) := by decide +kernel
theorem dL_point_49 : decode cL_point 49 = .ok (.iload_n 2, 1) := by decide +kernel
theorem dL_point_50 : decode cL_point 50 = .ok (.iadd, 1) := by decide +kernel
theorem dL_point_51 : decode cL_point 51 = .ok (.iaload, 1) := by decide +kernel
theorem dL_point_52 : decode cL_point 52 = .ok (.isub, 1) := by decide +kernel
theorem dL_point_53 : decode cL_point 53 = .ok (.i2l, 1) := by decide +kernel
theorem dL_point_54 : decode cL_point 54 = .ok (.lmul, 1) := by decide +kernel
theorem dL_point_55 : decode cL_point 55 = .ok (.iload_n 1, 1) := by decide +kernel
theorem dL_point_56 : decode cL_point 56 = .ok (.i2l, 1) := by decide +kernel
theorem dL_point_57 : decode cL_point 57 = .ok (.lmul, 1) := by decide +kernel
theorem dL_point_58 : decode cL_point 58 = .ok (.iload_n 0, 1) := by decide +kernel
theorem dL_point_59 : decode cL_point 59 = .ok (.aload_n 3, 1) := by decide +kernel
theorem dL_point_60 : decode cL_point 60 = .ok (.aload 4, 2) := by decide +kernel
theorem dL_point_62 : decode cL_point 62 = .ok (.aload 5, 2) := by decide +kernel
theorem dL_point_64 : decode cL_point 64 = .ok (.invokestatic 21, 3) := by decide +kernel
theorem dL_point_67 : decode cL_point 67 = .ok (.i2l, 1) := by decide +kernel
theorem dL_point_68 : decode cL_point 68 = .ok (.ldiv, 1) := by decide +kernel
theorem dL_point_69 : decode cL_point 69 = .ok (.ladd, 1) := by decide +kernel
theorem dL_point_70 : decode cL_point 70 = .ok (.lreturn, 1) := by decide +kernel
theorem dL_four_0 : decode cL_four 0 = .ok (.lload_n 0, 1) := by decide +kernel
theorem dL_four_1 : decode cL_four 1 = .ok (.lload 6, 2) := by decide +kernel
theorem dL_four_3 : decode cL_four 3 = .ok (.lmul, 1) := by decide +kernel
theorem dL_four_4 : decode cL_four 4 = .ok (.lload 4, 2) := by decide +kernel
theorem dL_four_6 : decode cL_four 6 = .ok (.lload_n 2, 1) := by decide +kernel
theorem dL_four_7 : decode cL_four 7 = .ok (.lmul, 1) := by decide +kernel
theorem dL_four_8 : decode cL_four 8 = .ok (.lsub, 1) := by decide +kernel
theorem dL_four_9 : decode cL_four 9 = .ok (.lload 4, 2) := by decide +kernel
theorem dL_four_11 : decode cL_four 11 = .ok (.lload 10, 2) := by decide +kernel
theorem dL_four_13 : decode cL_four 13 = .ok (.lmul, 1) := by decide +kernel
theorem dL_four_14 : decode cL_four 14 = .ok (.ladd, 1) := by decide +kernel
theorem dL_four_15 : decode cL_four 15 = .ok (.lload 8, 2) := by decide +kernel
theorem dL_four_17 : decode cL_four 17 = .ok (.lload 6, 2) := by decide +kernel
theorem dL_four_19 : decode cL_four 19 = .ok (.lmul, 1) := by decide +kernel
theorem dL_four_20 : decode cL_four 20 = .ok (.lsub, 1) := by decide +kernel
theorem dL_four_21 : decode cL_four 21 = .ok (.lload 8, 2) := by decide +kernel
theorem dL_four_23 : decode cL_four 23 = .ok (.lload 14, 2) := by decide +kernel
theorem dL_four_25 : decode cL_four 25 = .ok (.lmul, 1) := by decide +kernel
theorem dL_four_26 : decode cL_four 26 = .ok (.ladd, 1) := by decide +kernel
theorem dL_four_27 : decode cL_four 27 = .ok (.lload 12, 2) := by decide +kernel
theorem dL_four_29 : decode cL_four 29 = .ok (.lload 10, 2) := by decide +kernel
theorem dL_four_31 : decode cL_four 31 = .ok (.lmul, 1) := by decide +kernel
theorem dL_four_32 : decode cL_four 32 = .ok (.lsub, 1) := by decide +kernel
theorem dL_four_33 : decode cL_four 33 = .ok (.lload 12, 2) := by decide +kernel
theorem dL_four_35 : decode cL_four 35 = .ok (.lload_n 2, 1) := by decide +kernel
theorem dL_four_36 : decode cL_four 36 = .ok (.lmul, 1) := by decide +kernel
theorem dL_four_37 : decode cL_four 37 = .ok (.ladd, 1) := by decide +kernel
theorem dL_four_38 : decode cL_four 38 = .ok (.lload_n 0, 1) := by decide +kernel
theorem dL_four_39 : decode cL_four 39 = .ok (.lload 14, 2) := by decide +kernel
theorem dL_four_41 : decode cL_four 41 = .ok (.lmul, 1) := by decide +kernel
theorem dL_four_42 : decode cL_four 42 = .ok (.lsub, 1) := by decide +kernel
theorem dL_four_43 : decode cL_four 43 = .ok (.lreturn, 1) := by decide +kernel
theorem dL_swept_0 : decode cL_swept 0 = .ok (.iload_n 0, 1) := by decide +kernel
theorem dL_swept_1 : decode cL_swept 1 = .ok (.iload_n 1, 1) := by decide +kernel
theorem dL_swept_2 : decode cL_swept 2 = .ok (.iconst 0, 1) := by decide +kernel
theorem dL_swept_3 : decode cL_swept 3 = .ok (.aload_n 3, 1) := by decide +kernel
theorem dL_swept_4 : decode cL_swept 4 = .ok (.aload 4, 2) := by decide +kernel
theorem dL_swept_6 : decode cL_swept 6 = .ok (.aload 5, 2) := by decide +kernel
theorem dL_swept_8 : decode cL_swept 8 = .ok (.invokestatic 25, 3) := by decide +kernel
theorem dL_swept_11 : decode cL_swept 11 = .ok (.lstore 7, 2) := by decide +kernel
theorem dL_swept_13 : decode cL_swept 13 = .ok (.iload_n 0, 1) := by decide +kernel
theorem dL_swept_14 : decode cL_swept 14 = .ok (.iload_n 1, 1) := by decide +kernel
theorem dL_swept_15 : decode cL_swept 15 = .ok (.iconst 1, 1) := by decide +kernel
theorem dL_swept_16 : decode cL_swept 16 = .ok (.aload_n 3, 1) := by decide +kernel
theorem dL_swept_17 : decode cL_swept 17 = .ok (.aload 4, 2) := by decide +kernel
theorem dL_swept_19 : decode cL_swept 19 = .ok (.aload 5, 2) := by decide +kernel
theorem dL_swept_21 : decode cL_swept 21 = .ok (.invokestatic 25, 3) := by decide +kernel
theorem dL_swept_24 : decode cL_swept 24 = .ok (.lstore 9, 2) := by decide +kernel
theorem dL_swept_26 : decode cL_swept 26 = .ok (.iload_n 0, 1) := by decide +kernel
theorem dL_swept_27 : decode cL_swept 27 = .ok (.iload_n 2, 1) := by decide +kernel
theorem dL_swept_28 : decode cL_swept 28 = .ok (.iconst 0, 1) := by decide +kernel
theorem dL_swept_29 : decode cL_swept 29 = .ok (.aload_n 3, 1) := by decide +kernel
theorem dL_swept_30 : decode cL_swept 30 = .ok (.aload 4, 2) := by decide +kernel
theorem dL_swept_32 : decode cL_swept 32 = .ok (.aload 5, 2) := by decide +kernel
theorem dL_swept_34 : decode cL_swept 34 = .ok (.invokestatic 25, 3) := by decide +kernel
theorem dL_swept_37 : decode cL_swept 37 = .ok (.lstore 11, 2) := by decide +kernel
theorem dL_swept_39 : decode cL_swept 39 = .ok (.iload_n 0, 1) := by decide +kernel
theorem dL_swept_40 : decode cL_swept 40 = .ok (.iload_n 2, 1) := by decide +kernel
theorem dL_swept_41 : decode cL_swept 41 = .ok (.iconst 1, 1) := by decide +kernel
theorem dL_swept_42 : decode cL_swept 42 = .ok (.aload_n 3, 1) := by decide +kernel
theorem dL_swept_43 : decode cL_swept 43 = .ok (.aload 4, 2) := by decide +kernel
theorem dL_swept_45 : decode cL_swept 45 = .ok (.aload 5, 2) := by decide +kernel
theorem dL_swept_47 : decode cL_swept 47 = .ok (.invokestatic 25, 3) := by decide +kernel
theorem dL_swept_50 : decode cL_swept 50 = .ok (.lstore 13, 2) := by decide +kernel
theorem dL_swept_52 : decode cL_swept 52 = .ok (.lload 7, 2) := by decide +kernel
theorem dL_swept_54 : decode cL_swept 54 = .ok (.lload 9, 2) := by decide +kernel
theorem dL_swept_56 : decode cL_swept 56 = .ok (.aload_n 3, 1) := by decide +kernel
theorem dL_swept_57 : decode cL_swept 57 = .ok (.aload 6, 2) := by decide +kernel
theorem dL_swept_59 : decode cL_swept 59 = .ok (.invokestatic 29, 3) := by decide +kernel
theorem dL_swept_62 : decode cL_swept 62 = .ok (.aload 6, 2) := by decide +kernel
theorem dL_swept_64 : decode cL_swept 64 = .ok (.iconst 0, 1) := by decide +kernel
theorem dL_swept_65 : decode cL_swept 65 = .ok (.laload, 1) := by decide +kernel
theorem dL_swept_66 : decode cL_swept 66 = .ok (.lstore 15, 2) := by decide +kernel
theorem dL_swept_68 : decode cL_swept 68 = .ok (.aload 6, 2) := by decide +kernel
theorem dL_swept_70 : decode cL_swept 70 = .ok (.iconst 1, 1) := by decide +kernel
theorem dL_swept_71 : decode cL_swept 71 = .ok (.laload, 1) := by decide +kernel
theorem dL_swept_72 : decode cL_swept 72 = .ok (.lstore 17, 2) := by decide +kernel
theorem dL_swept_74 : decode cL_swept 74 = .ok (.lload 11, 2) := by decide +kernel
theorem dL_swept_76 : decode cL_swept 76 = .ok (.lload 13, 2) := by decide +kernel
theorem dL_swept_78 : decode cL_swept 78 = .ok (.aload_n 3, 1) := by decide +kernel
theorem dL_swept_79 : decode cL_swept 79 = .ok (.aload 6, 2) := by decide +kernel
theorem dL_swept_81 : decode cL_swept 81 = .ok (.invokestatic 29, 3) := by decide +kernel
theorem dL_swept_84 : decode cL_swept 84 = .ok (.lload 15, 2) := by decide +kernel
theorem dL_swept_86 : decode cL_swept 86 = .ok (.lload 17, 2) := by decide +kernel
theorem dL_swept_88 : decode cL_swept 88 = .ok (.lload 7, 2) := by decide +kernel
theorem dL_swept_90 : decode cL_swept 90 = .ok (.lload 9, 2) := by decide +kernel
theorem dL_swept_92 : decode cL_swept 92 = .ok (.lload 11, 2) := by decide +kernel
theorem dL_swept_94 : decode cL_swept 94 = .ok (.lload 13, 2) := by decide +kernel
theorem dL_swept_96 : decode cL_swept 96 = .ok (.aload 6, 2) := by decide +kernel
theorem dL_swept_98 : decode cL_swept 98 = .ok (.iconst 0, 1) := by decide +kernel
theorem dL_swept_99 : decode cL_swept 99 = .ok (.laload, 1) := by decide +kernel
theorem dL_swept_100 : decode cL_swept 100 = .ok (.aload 6, 2) := by decide +kernel
theorem dL_swept_102 : decode cL_swept 102 = .ok (.iconst 1, 1) := by decide +kernel
theorem dL_swept_103 : decode cL_swept 103 = .ok (.laload, 1) := by decide +kernel
theorem dL_swept_104 : decode cL_swept 104 = .ok (.invokestatic 33, 3) := by decide +kernel
theorem dL_swept_107 : decode cL_swept 107 = .ok (.lreturn, 1) := by decide +kernel
theorem dL_reached_0 : decode cL_reached 0 = .ok (.iconst 0, 1) := by decide +kernel
theorem dL_reached_1 : decode cL_reached 1 = .ok (.istore 5, 2) := by decide +kernel
theorem dL_reached_3 : decode cL_reached 3 = .ok (.iload 5, 2) := by decide +kernel
theorem dL_reached_5 : decode cL_reached 5 = .ok (.iload_n 0, 1) := by decide +kernel
theorem dL_reached_6 : decode cL_reached 6 = .ok (.aload_n 1, 1) := by decide +kernel
theorem dL_reached_7 : decode cL_reached 7 = .ok (.aload_n 2, 1) := by decide +kernel
theorem dL_reached_8 : decode cL_reached 8 = .ok (.aload_n 3, 1) := by decide +kernel
theorem dL_reached_9 : decode cL_reached 9 = .ok (.invokestatic 21, 3) := by decide +kernel
theorem dL_reached_12 : decode cL_reached 12 = .ok (.if_icmp .gt 46, 3) := by decide +kernel
theorem dL_reached_15 : decode cL_reached 15 = .ok (.iload_n 0, 1) := by decide +kernel
theorem dL_reached_16 : decode cL_reached 16 = .ok (.iload 5, 2) := by decide +kernel
theorem dL_reached_18 : decode cL_reached 18 = .ok (.iconst 0, 1) := by decide +kernel
theorem dL_reached_19 : decode cL_reached 19 = .ok (.aload_n 1, 1) := by decide +kernel
theorem dL_reached_20 : decode cL_reached 20 = .ok (.aload_n 2, 1) := by decide +kernel
theorem dL_reached_21 : decode cL_reached 21 = .ok (.aload_n 3, 1) := by decide +kernel
theorem dL_reached_22 : decode cL_reached 22 = .ok (.invokestatic 25, 3) := by decide +kernel
theorem dL_reached_25 : decode cL_reached 25 = .ok (.iload_n 0, 1) := by decide +kernel
theorem dL_reached_26 : decode cL_reached 26 = .ok (.iload 5, 2) := by decide +kernel
theorem dL_reached_28 : decode cL_reached 28 = .ok (.iconst 1, 1) := by decide +kernel
theorem dL_reached_29 : decode cL_reached 29 = .ok (.aload_n 1, 1) := by decide +kernel
theorem dL_reached_30 : decode cL_reached 30 = .ok (.aload_n 2, 1) := by decide +kernel
theorem dL_reached_31 : decode cL_reached 31 = .ok (.aload_n 3, 1) := by decide +kernel
theorem dL_reached_32 : decode cL_reached 32 = .ok (.invokestatic 25, 3) := by decide +kernel
theorem dL_reached_35 : decode cL_reached 35 = .ok (.aload_n 1, 1) := by decide +kernel
theorem dL_reached_36 : decode cL_reached 36 = .ok (.aload 4, 2) := by decide +kernel
theorem dL_reached_38 : decode cL_reached 38 = .ok (.invokestatic 29, 3) := by decide +kernel
theorem dL_reached_41 : decode cL_reached 41 = .ok (.aload 4, 2) := by decide +kernel
theorem dL_reached_43 : decode cL_reached 43 = .ok (.iconst 2, 1) := by decide +kernel
theorem dL_reached_44 : decode cL_reached 44 = .ok (.laload, 1) := by decide +kernel
theorem dL_reached_45 : decode cL_reached 45 = .ok (.lconst 0, 1) := by decide +kernel
theorem dL_reached_46 : decode cL_reached 46 = .ok (.lcmp, 1) := by decide +kernel
theorem dL_reached_47 : decode cL_reached 47 = .ok (.ifCond .ne 5, 3) := by decide +kernel
theorem dL_reached_50 : decode cL_reached 50 = .ok (.iconst 0, 1) := by decide +kernel
theorem dL_reached_51 : decode cL_reached 51 = .ok (.ireturn, 1) := by decide +kernel
theorem dL_reached_52 : decode cL_reached 52 = .ok (.iinc 5 1, 3) := by decide +kernel
theorem dL_reached_55 : decode cL_reached 55 = .ok (.goto (-52), 3) := by decide +kernel
theorem dL_reached_58 : decode cL_reached 58 = .ok (.iconst 1, 1) := by decide +kernel
theorem dL_reached_59 : decode cL_reached 59 = .ok (.ireturn, 1) := by decide +kernel
theorem dL_all_0 : decode cL_all 0 = .ok (.iconst 0, 1) := by decide +kernel
theorem dL_all_1 : decode cL_all 1 = .ok (.istore 4, 2) := by decide +kernel
theorem dL_all_3 : decode cL_all 3 = .ok (.iload 4, 2) := by decide +kernel
theorem dL_all_5 : decode cL_all 5 = .ok (.aload_n 2, 1) := by decide +kernel
theorem dL_all_6 : decode cL_all 6 = .ok (.iconst 0, 1) := by decide +kernel
theorem dL_all_7 : decode cL_all 7 = .ok (.iaload, 1) := by decide +kernel
theorem dL_all_8 : decode cL_all 8 = .ok (.if_icmp .ge 23, 3) := by decide +kernel
theorem dL_all_11 : decode cL_all 11 = .ok (.iload 4, 2) := by decide +kernel
theorem dL_all_13 : decode cL_all 13 = .ok (.aload_n 0, 1) := by decide +kernel
theorem dL_all_14 : decode cL_all 14 = .ok (.aload_n 1, 1) := by decide +kernel
theorem dL_all_15 : decode cL_all 15 = .ok (.aload_n 2, 1) := by decide +kernel
theorem dL_all_16 : decode cL_all 16 = .ok (.aload_n 3, 1) := by decide +kernel
theorem dL_all_17 : decode cL_all 17 = .ok (.invokestatic 37, 3) := by decide +kernel
theorem dL_all_20 : decode cL_all 20 = .ok (.ifCond .ne 5, 3) := by decide +kernel
theorem dL_all_23 : decode cL_all 23 = .ok (.iconst 0, 1) := by decide +kernel
theorem dL_all_24 : decode cL_all 24 = .ok (.ireturn, 1) := by decide +kernel
theorem dL_all_25 : decode cL_all 25 = .ok (.iinc 4 1, 3) := by decide +kernel
theorem dL_all_28 : decode cL_all 28 = .ok (.goto (-25), 3) := by decide +kernel
theorem dL_all_31 : decode cL_all 31 = .ok (.iconst 1, 1) := by decide +kernel
theorem dL_all_32 : decode cL_all 32 = .ok (.ireturn, 1) := by decide +kernel
theorem dL_on_0 : decode cL_on 0 = .ok (.iconst 0, 1) := by decide +kernel
theorem dL_on_1 : decode cL_on 1 = .ok (.istore_n 3, 1) := by decide +kernel
theorem dL_on_2 : decode cL_on 2 = .ok (.iload_n 3, 1) := by decide +kernel
theorem dL_on_3 : decode cL_on 3 = .ok (.aload_n 2, 1) := by decide +kernel
theorem dL_on_4 : decode cL_on 4 = .ok (.iconst 0, 1) := by decide +kernel
theorem dL_on_5 : decode cL_on 5 = .ok (.iaload, 1) := by decide +kernel
theorem dL_on_6 : decode cL_on 6 = .ok (.if_icmp .ge 115, 3) := by decide +kernel
theorem dL_on_9 : decode cL_on 9 = .ok (.iload_n 3, 1) := by decide +kernel
theorem dL_on_10 : decode cL_on 10 = .ok (.iconst 1, 1) := by decide +kernel
theorem dL_on_11 : decode cL_on 11 = .ok (.iadd, 1) := by decide +kernel
theorem dL_on_12 : decode cL_on 12 = .ok (.aload_n 2, 1) := by decide +kernel
theorem dL_on_13 : decode cL_on 13 = .ok (.iconst 0, 1) := by decide +kernel
theorem dL_on_14 : decode cL_on 14 = .ok (.iaload, 1) := by decide +kernel
theorem dL_on_15 : decode cL_on 15 = .ok (.if_icmp .ne 7, 3) := by decide +kernel
theorem dL_on_18 : decode cL_on 18 = .ok (.iconst 0, 1) := by decide +kernel
theorem dL_on_19 : decode cL_on 19 = .ok (.goto 6, 3) := by decide +kernel
theorem dL_on_22 : decode cL_on 22 = .ok (.iload_n 3, 1) := by decide +kernel
theorem dL_on_23 : decode cL_on 23 = .ok (.iconst 1, 1) := by decide +kernel
theorem dL_on_24 : decode cL_on 24 = .ok (.iadd, 1) := by decide +kernel
theorem dL_on_25 : decode cL_on 25 = .ok (.istore 4, 2) := by decide +kernel
theorem dL_on_27 : decode cL_on 27 = .ok (.aload_n 0, 1) := by decide +kernel
theorem dL_on_28 : decode cL_on 28 = .ok (.iconst 5, 1) := by decide +kernel
theorem dL_on_29 : decode cL_on 29 = .ok (.iaload, 1) := by decide +kernel
theorem dL_on_30 : decode cL_on 30 = .ok (.aload_n 1, 1) := by decide +kernel
theorem dL_on_31 : decode cL_on 31 = .ok (.iconst 3, 1) := by decide +kernel
theorem dL_on_32 : decode cL_on 32 = .ok (.iload_n 3, 1) := by decide +kernel
theorem dL_on_33 : decode cL_on 33 = .ok (.imul, 1) := by decide +kernel
theorem dL_on_34 : decode cL_on 34 = .ok (.iaload, 1) := by decide +kernel
theorem dL_on_35 : decode cL_on 35 = .ok (.isub, 1) := by decide +kernel
theorem dL_on_36 : decode cL_on 36 = .ok (.i2l, 1) := by decide +kernel
theorem dL_on_37 : decode cL_on 37 = .ok (.lstore 5, 2) := by decide +kernel
theorem dL_on_39 : decode cL_on 39 = .ok (.aload_n 0, 1) := by decide +kernel
theorem dL_on_40 : decode cL_on 40 = .ok (.bipush 6, 2) := by decide +kernel
theorem dL_on_42 : decode cL_on 42 = .ok (.iaload, 1) := by decide +kernel
theorem dL_on_43 : decode cL_on 43 = .ok (.aload_n 1, 1) := by decide +kernel
theorem dL_on_44 : decode cL_on 44 = .ok (.iconst 3, 1) := by decide +kernel
theorem dL_on_45 : decode cL_on 45 = .ok (.iload_n 3, 1) := by decide +kernel
theorem dL_on_46 : decode cL_on 46 = .ok (.imul, 1) := by decide +kernel
theorem dL_on_47 : decode cL_on 47 = .ok (.iconst 1, 1) := by decide +kernel
theorem dL_on_48 : decode cL_on 48 = .ok (.iadd, 1) := by decide +kernel
theorem dL_on_49 : decode cL_on 49 = .ok (.iaload, 1) := by decide +kernel
theorem dL_on_50 : decode cL_on 50 = .ok (.isub, 1) := by decide +kernel
theorem dL_on_51 : decode cL_on 51 = .ok (.i2l, 1) := by decide +kernel
theorem dL_on_52 : decode cL_on 52 = .ok (.lstore 7, 2) := by decide +kernel
theorem dL_on_54 : decode cL_on 54 = .ok (.aload_n 0, 1) := by decide +kernel
theorem dL_on_55 : decode cL_on 55 = .ok (.iconst 5, 1) := by decide +kernel
theorem dL_on_56 : decode cL_on 56 = .ok (.iaload, 1) := by decide +kernel
theorem dL_on_57 : decode cL_on 57 = .ok (.aload_n 1, 1) := by decide +kernel
theorem dL_on_58 : decode cL_on 58 = .ok (.iconst 3, 1) := by decide +kernel
theorem dL_on_59 : decode cL_on 59 = .ok (.iload 4, 2) := by decide +kernel
theorem dL_on_61 : decode cL_on 61 = .ok (.imul, 1) := by decide +kernel
theorem dL_on_62 : decode cL_on 62 = .ok (.iaload, 1) := by decide +kernel
theorem dL_on_63 : decode cL_on 63 = .ok (.isub, 1) := by decide +kernel
theorem dL_on_64 : decode cL_on 64 = .ok (.i2l, 1) := by decide +kernel
theorem dL_on_65 : decode cL_on 65 = .ok (.lstore 9, 2) := by decide +kernel
theorem dL_on_67 : decode cL_on 67 = .ok (.aload_n 0, 1) := by decide +kernel
theorem dL_on_68 : decode cL_on 68 = .ok (.bipush 6, 2) := by decide +kernel
theorem dL_on_70 : decode cL_on 70 = .ok (.iaload, 1) := by decide +kernel
theorem dL_on_71 : decode cL_on 71 = .ok (.aload_n 1, 1) := by decide +kernel
theorem dL_on_72 : decode cL_on 72 = .ok (.iconst 3, 1) := by decide +kernel
theorem dL_on_73 : decode cL_on 73 = .ok (.iload 4, 2) := by decide +kernel
theorem dL_on_75 : decode cL_on 75 = .ok (.imul, 1) := by decide +kernel
theorem dL_on_76 : decode cL_on 76 = .ok (.iconst 1, 1) := by decide +kernel
theorem dL_on_77 : decode cL_on 77 = .ok (.iadd, 1) := by decide +kernel
theorem dL_on_78 : decode cL_on 78 = .ok (.iaload, 1) := by decide +kernel
theorem dL_on_79 : decode cL_on 79 = .ok (.isub, 1) := by decide +kernel
theorem dL_on_80 : decode cL_on 80 = .ok (.i2l, 1) := by decide +kernel
theorem dL_on_81 : decode cL_on 81 = .ok (.lstore 11, 2) := by decide +kernel
theorem dL_on_83 : decode cL_on 83 = .ok (.lload 5, 2) := by decide +kernel
theorem dL_on_85 : decode cL_on 85 = .ok (.lload 11, 2) := by decide +kernel
theorem dL_on_87 : decode cL_on 87 = .ok (.lmul, 1) := by decide +kernel
theorem dL_on_88 : decode cL_on 88 = .ok (.lload 7, 2) := by decide +kernel
theorem dL_on_90 : decode cL_on 90 = .ok (.lload 9, 2) := by decide +kernel
theorem dL_on_92 : decode cL_on 92 = .ok (.lmul, 1) := by decide +kernel
theorem dL_on_93 : decode cL_on 93 = .ok (.lcmp, 1) := by decide +kernel
theorem dL_on_94 : decode cL_on 94 = .ok (.ifCond .ne 21, 3) := by decide +kernel
theorem dL_on_97 : decode cL_on 97 = .ok (.lload 5, 2) := by decide +kernel
theorem dL_on_99 : decode cL_on 99 = .ok (.lload 9, 2) := by decide +kernel
theorem dL_on_101 : decode cL_on 101 = .ok (.lmul, 1) := by decide +kernel
theorem dL_on_102 : decode cL_on 102 = .ok (.lload 7, 2) := by decide +kernel
theorem dL_on_104 : decode cL_on 104 = .ok (.lload 11, 2) := by decide +kernel
theorem dL_on_106 : decode cL_on 106 = .ok (.lmul, 1) := by decide +kernel
theorem dL_on_107 : decode cL_on 107 = .ok (.ladd, 1) := by decide +kernel
theorem dL_on_108 : decode cL_on 108 = .ok (.lconst 0, 1) := by decide +kernel
theorem dL_on_109 : decode cL_on 109 = .ok (.lcmp, 1) := by decide +kernel
theorem dL_on_110 : decode cL_on 110 = .ok (.ifCond .gt 5, 3) := by decide +kernel
theorem dL_on_113 : decode cL_on 113 = .ok (.iconst 1, 1) := by decide +kernel
theorem dL_on_114 : decode cL_on 114 = .ok (.ireturn, 1) := by decide +kernel
theorem dL_on_115 : decode cL_on 115 = .ok (.iinc 3 1, 3) := by decide +kernel
theorem dL_on_118 : decode cL_on 118 = .ok (.goto (-116), 3) := by decide +kernel
theorem dL_on_121 : decode cL_on 121 = .ok (.iconst 0, 1) := by decide +kernel
theorem dL_on_122 : decode cL_on 122 = .ok (.ireturn, 1) := by decide +kernel
theorem dL_why_0 : decode cL_why 0 = .ok (.aload_n 2, 1) := by decide +kernel
theorem dL_why_1 : decode cL_why 1 = .ok (.iconst 0, 1) := by decide +kernel
theorem dL_why_2 : decode cL_why 2 = .ok (.iaload, 1) := by decide +kernel
theorem dL_why_3 : decode cL_why 3 = .ok (.iconst 3, 1) := by decide +kernel
theorem dL_why_4 : decode cL_why 4 = .ok (.if_icmp .ge 7, 3) := by decide +kernel
theorem dL_why_7 : decode cL_why 7 = .ok (.iconst 1, 1) := by decide +kernel
theorem dL_why_8 : decode cL_why 8 = .ok (.goto 43, 3) := by decide +kernel
theorem dL_why_11 : decode cL_why 11 = .ok (.aload_n 0, 1) := by decide +kernel
theorem dL_why_12 : decode cL_why 12 = .ok (.aload_n 1, 1) := by decide +kernel
theorem dL_why_13 : decode cL_why 13 = .ok (.aload_n 2, 1) := by decide +kernel
theorem dL_why_14 : decode cL_why 14 = .ok (.invokestatic 41, 3) := by decide +kernel
theorem dL_why_17 : decode cL_why 17 = .ok (.ifCond .eq 7, 3) := by decide +kernel
theorem dL_why_20 : decode cL_why 20 = .ok (.iconst 2, 1) := by decide +kernel
theorem dL_why_21 : decode cL_why 21 = .ok (.goto 30, 3) := by decide +kernel
theorem dL_why_24 : decode cL_why 24 = .ok (.aload_n 0, 1) := by decide +kernel
theorem dL_why_25 : decode cL_why 25 = .ok (.aload_n 1, 1) := by decide +kernel
theorem dL_why_26 : decode cL_why 26 = .ok (.aload_n 2, 1) := by decide +kernel
theorem dL_why_27 : decode cL_why 27 = .ok (.aload_n 3, 1) := by decide +kernel
theorem dL_why_28 : decode cL_why 28 = .ok (.invokestatic 45, 3) := by decide +kernel
theorem dL_why_31 : decode cL_why 31 = .ok (.ifCond .ne 7, 3) := by decide +kernel
theorem dL_why_34 : decode cL_why 34 = .ok (.iconst 3, 1) := by decide +kernel
theorem dL_why_35 : decode cL_why 35 = .ok (.goto 16, 3) := by decide +kernel
theorem dL_why_38 : decode cL_why 38 = .ok (.aload_n 2, 1) := by decide +kernel
theorem dL_why_39 : decode cL_why 39 = .ok (.iconst 1, 1) := by decide +kernel
theorem dL_why_40 : decode cL_why 40 = .ok (.iaload, 1) := by decide +kernel
theorem dL_why_41 : decode cL_why 41 = .ok (.bipush 12, 2) := by decide +kernel
theorem dL_why_43 : decode cL_why 43 = .ok (.if_icmp .ne 7, 3) := by decide +kernel
theorem dL_why_46 : decode cL_why 46 = .ok (.iconst 4, 1) := by decide +kernel
theorem dL_why_47 : decode cL_why 47 = .ok (.goto 4, 3) := by decide +kernel
theorem dL_why_50 : decode cL_why 50 = .ok (.iconst 0, 1) := by decide +kernel
theorem dL_why_51 : decode cL_why 51 = .ok (.ireturn, 1) := by decide +kernel
theorem dL_sum_0 : decode cL_sum 0 = .ok (.ldc2_w 49, 3) := by decide +kernel
theorem dL_sum_3 : decode cL_sum 3 = .ok (.aload_n 2, 1) := by decide +kernel
theorem dL_sum_4 : decode cL_sum 4 = .ok (.iconst 4, 1) := by decide +kernel
theorem dL_sum_5 : decode cL_sum 5 = .ok (.iaload, 1) := by decide +kernel
theorem dL_sum_6 : decode cL_sum 6 = .ok (.i2l, 1) := by decide +kernel
theorem dL_sum_7 : decode cL_sum 7 = .ok (.lmul, 1) := by decide +kernel
theorem dL_sum_8 : decode cL_sum 8 = .ok (.lstore 6, 2) := by decide +kernel
theorem dL_sum_10 : decode cL_sum 10 = .ok (.lconst 0, 1) := by decide +kernel
theorem dL_sum_11 : decode cL_sum 11 = .ok (.lstore 8, 2) := by decide +kernel
theorem dL_sum_13 : decode cL_sum 13 = .ok (.lconst 0, 1) := by decide +kernel
theorem dL_sum_14 : decode cL_sum 14 = .ok (.lstore 10, 2) := by decide +kernel
theorem dL_sum_16 : decode cL_sum 16 = .ok (.iload_n 0, 1) := by decide +kernel
theorem dL_sum_17 : decode cL_sum 17 = .ok (.istore 12, 2) := by decide +kernel
theorem dL_sum_19 : decode cL_sum 19 = .ok (.iconst 0, 1) := by decide +kernel
theorem dL_sum_20 : decode cL_sum 20 = .ok (.istore 13, 2) := by decide +kernel
theorem dL_sum_22 : decode cL_sum 22 = .ok (.iload 13, 2) := by decide +kernel
theorem dL_sum_24 : decode cL_sum 24 = .ok (.aload 4, 2) := by decide +kernel
theorem dL_sum_26 : decode cL_sum 26 = .ok (.iconst 0, 1) := by decide +kernel
theorem dL_sum_27 : decode cL_sum 27 = .ok (.iaload, 1) := by decide +kernel
theorem dL_sum_28 : decode cL_sum 28 = .ok (.if_icmp .ge 200, 3) := by decide +kernel
theorem dL_sum_31 : decode cL_sum 31 = .ok (.iload_n 1, 1) := by decide +kernel
theorem dL_sum_32 : decode cL_sum 32 = .ok (.ifCond .eq 23, 3) := by decide +kernel
theorem dL_sum_35 : decode cL_sum 35 = .ok (.iload 12, 2) := by decide +kernel
theorem dL_sum_37 : decode cL_sum 37 = .ok (.ifCond .ne 12, 3) := by decide +kernel
theorem dL_sum_40 : decode cL_sum 40 = .ok (.aload 4, 2) := by decide +kernel
theorem dL_sum_42 : decode cL_sum 42 = .ok (.iconst 0, 1) := by decide +kernel
theorem dL_sum_43 : decode cL_sum 43 = .ok (.iaload, 1) := by decide +kernel
theorem dL_sum_44 : decode cL_sum 44 = .ok (.iconst 1, 1) := by decide +kernel
theorem dL_sum_45 : decode cL_sum 45 = .ok (.isub, 1) := by decide +kernel
theorem dL_sum_46 : decode cL_sum 46 = .ok (.goto 7, 3) := by decide +kernel
theorem dL_sum_49 : decode cL_sum 49 = .ok (.iload 12, 2) := by decide +kernel
theorem dL_sum_51 : decode cL_sum 51 = .ok (.iconst 1, 1) := by decide +kernel
theorem dL_sum_52 : decode cL_sum 52 = .ok (.isub, 1) := by decide +kernel
theorem dL_sum_53 : decode cL_sum 53 = .ok (.istore 12, 2) := by decide +kernel
theorem dL_sum_55 : decode cL_sum 55 = .ok (.iload 12, 2) := by decide +kernel
theorem dL_sum_57 : decode cL_sum 57 = .ok (.aload_n 2, 1) := by decide +kernel
theorem dL_sum_58 : decode cL_sum 58 = .ok (.aload_n 3, 1) := by decide +kernel
theorem dL_sum_59 : decode cL_sum 59 = .ok (.aload 4, 2) := by decide +kernel
theorem dL_sum_61 : decode cL_sum 61 = .ok (.invokestatic 21, 3) := by decide +kernel
theorem dL_sum_64 : decode cL_sum 64 = .ok (.istore 14, 2) := by decide +kernel
theorem dL_sum_66 : decode cL_sum 66 = .ok (.iconst 0, 1) := by decide +kernel
theorem dL_sum_67 : decode cL_sum 67 = .ok (.istore 15, 2) := by decide +kernel
theorem dL_sum_69 : decode cL_sum 69 = .ok (.iload 15, 2) := by decide +kernel
theorem dL_sum_71 : decode cL_sum 71 = .ok (.iload 14, 2) := by decide +kernel
theorem dL_sum_73 : decode cL_sum 73 = .ok (.if_icmp .ge 124, 3) := by decide +kernel
theorem dL_sum_76 : decode cL_sum 76 = .ok (.iload_n 1, 1) := by decide +kernel
theorem dL_sum_77 : decode cL_sum 77 = .ok (.ifCond .eq 29, 3) := by decide +kernel
theorem dL_sum_80 : decode cL_sum 80 = .ok (.iload 12, 2) := by decide +kernel
theorem dL_sum_82 : decode cL_sum 82 = .ok (.iload 14, 2) := by decide +kernel
theorem dL_sum_84 : decode cL_sum 84 = .ok (.iload 15, 2) := by decide +kernel
theorem dL_sum_86 : decode cL_sum 86 = .ok (.isub, 1) := by decide +kernel
theorem dL_sum_87 : decode cL_sum 87 = .ok (.iload 14, 2) := by decide +kernel
theorem dL_sum_89 : decode cL_sum 89 = .ok (.iload 15, 2) := by decide +kernel
theorem dL_sum_91 : decode cL_sum 91 = .ok (.isub, 1) := by decide +kernel
theorem dL_sum_92 : decode cL_sum 92 = .ok (.iconst 1, 1) := by decide +kernel
theorem dL_sum_93 : decode cL_sum 93 = .ok (.isub, 1) := by decide +kernel
theorem dL_sum_94 : decode cL_sum 94 = .ok (.aload_n 2, 1) := by decide +kernel
theorem dL_sum_95 : decode cL_sum 95 = .ok (.aload_n 3, 1) := by decide +kernel
theorem dL_sum_96 : decode cL_sum 96 = .ok (.aload 4, 2) := by decide +kernel
theorem dL_sum_98 : decode cL_sum 98 = .ok (.aload 5, 2) := by decide +kernel
theorem dL_sum_100 : decode cL_sum 100 = .ok (.invokestatic 51, 3) := by decide +kernel
theorem dL_sum_103 : decode cL_sum 103 = .ok (.goto 20, 3) := by decide +kernel
theorem dL_sum_106 : decode cL_sum 106 = .ok (.iload 12, 2) := by decide +kernel
theorem dL_sum_108 : decode cL_sum 108 = .ok (.iload 15, 2) := by decide +kernel
theorem dL_sum_110 : decode cL_sum 110 = .ok (.iload 15, 2) := by decide +kernel
theorem dL_sum_112 : decode cL_sum 112 = .ok (.iconst 1, 1) := by decide +kernel
theorem dL_sum_113 : decode cL_sum 113 = .ok (.iadd, 1) := by decide +kernel
theorem dL_sum_114 : decode cL_sum 114 = .ok (.aload_n 2, 1) := by decide +kernel
theorem dL_sum_115 : decode cL_sum 115 = .ok (.aload_n 3, 1) := by decide +kernel
theorem dL_sum_116 : decode cL_sum 116 = .ok (.aload 4, 2) := by decide +kernel
theorem dL_sum_118 : decode cL_sum 118 = .ok (.aload 5, 2) := by decide +kernel
theorem dL_sum_120 : decode cL_sum 120 = .ok (.invokestatic 51, 3) := by decide +kernel
theorem dL_sum_123 : decode cL_sum 123 = .ok (.lstore 16, 2) := by decide +kernel
theorem dL_sum_125 : decode cL_sum 125 = .ok (.lload 8, 2) := by decide +kernel
theorem dL_sum_127 : decode cL_sum 127 = .ok (.lload 16, 2) := by decide +kernel
theorem dL_sum_129 : decode cL_sum 129 = .ok (.bipush 100, 2) := by decide +kernel
theorem dL_sum_131 : decode cL_sum 131 = .ok (.aload_n 3, 1) := by decide +kernel
theorem dL_sum_132 : decode cL_sum 132 = .ok (.iconst 3, 1) := by decide +kernel
theorem dL_sum_133 : decode cL_sum 133 = .ok (.iload 12, 2) := by decide +kernel
theorem dL_sum_135 : decode cL_sum 135 = .ok (.imul, 1) := by decide +kernel
theorem dL_sum_136 : decode cL_sum 136 = .ok (.iconst 2, 1) := by decide +kernel
theorem dL_sum_137 : decode cL_sum 137 = .ok (.iadd, 1) := by decide +kernel
theorem dL_sum_138 : decode cL_sum 138 = .ok (.iaload, 1) := by decide +kernel
theorem dL_sum_139 : decode cL_sum 139 = .ok (.isub, 1) := by decide +kernel
theorem dL_sum_140 : decode cL_sum 140 = .ok (.i2l, 1) := by decide +kernel
theorem dL_sum_141 : decode cL_sum 141 = .ok (.lmul, 1) := by decide +kernel
theorem dL_sum_142 : decode cL_sum 142 = .ok (.ldc2_w 55, 3) := by decide +kernel
theorem dL_sum_145 : decode cL_sum 145 = .ok (.ldiv, 1) := by decide +kernel
theorem dL_sum_146 : decode cL_sum 146 = .ok (.ladd, 1) := by decide +kernel
theorem dL_sum_147 : decode cL_sum 147 = .ok (.lstore 8, 2) := by decide +kernel
theorem dL_sum_149 : decode cL_sum 149 = .ok (.lload 8, 2) := by decide +kernel
theorem dL_sum_151 : decode cL_sum 151 = .ok (.lconst 0, 1) := by decide +kernel
theorem dL_sum_152 : decode cL_sum 152 = .ok (.lcmp, 1) := by decide +kernel
theorem dL_sum_153 : decode cL_sum 153 = .ok (.ifCond .ge 7, 3) := by decide +kernel
theorem dL_sum_156 : decode cL_sum 156 = .ok (.lconst 0, 1) := by decide +kernel
theorem dL_sum_157 : decode cL_sum 157 = .ok (.goto 18, 3) := by decide +kernel
theorem dL_sum_160 : decode cL_sum 160 = .ok (.lload 8, 2) := by decide +kernel
theorem dL_sum_162 : decode cL_sum 162 = .ok (.lload 6, 2) := by decide +kernel
theorem dL_sum_164 : decode cL_sum 164 = .ok (.lcmp, 1) := by decide +kernel
theorem dL_sum_165 : decode cL_sum 165 = .ok (.ifCond .le 8, 3) := by decide +kernel
theorem dL_sum_168 : decode cL_sum 168 = .ok (.lload 6, 2) := by decide +kernel
theorem dL_sum_170 : decode cL_sum 170 = .ok (.goto 5, 3) := by decide +kernel
theorem dL_sum_173 : decode cL_sum 173 = .ok (.lload 8, 2) := by decide +kernel
theorem dL_sum_175 : decode cL_sum 175 = .ok (.lstore 18, 2) := by decide +kernel
theorem dL_sum_177 : decode cL_sum 177 = .ok (.lload 10, 2) := by decide +kernel
theorem dL_sum_179 : decode cL_sum 179 = .ok (.lload 8, 2) := by decide +kernel
theorem dL_sum_181 : decode cL_sum 181 = .ok (.lload 18, 2) := by decide +kernel
theorem dL_sum_183 : decode cL_sum 183 = .ok (.lsub, 1) := by decide +kernel
theorem dL_sum_184 : decode cL_sum 184 = .ok (.ladd, 1) := by decide +kernel
theorem dL_sum_185 : decode cL_sum 185 = .ok (.lstore 10, 2) := by decide +kernel
theorem dL_sum_187 : decode cL_sum 187 = .ok (.lload 18, 2) := by decide +kernel
theorem dL_sum_189 : decode cL_sum 189 = .ok (.lstore 8, 2) := by decide +kernel
theorem dL_sum_191 : decode cL_sum 191 = .ok (.iinc 15 1, 3) := by decide +kernel
theorem dL_sum_194 : decode cL_sum 194 = .ok (.goto (-125), 3) := by decide +kernel
theorem dL_sum_197 : decode cL_sum 197 = .ok (.iload_n 1, 1) := by decide +kernel
theorem dL_sum_198 : decode cL_sum 198 = .ok (.ifCond .ne 24, 3) := by decide +kernel
theorem dL_sum_201 : decode cL_sum 201 = .ok (.iload 12, 2) := by decide +kernel
theorem dL_sum_203 : decode cL_sum 203 = .ok (.iconst 1, 1) := by decide +kernel
theorem dL_sum_204 : decode cL_sum 204 = .ok (.iadd, 1) := by decide +kernel
theorem dL_sum_205 : decode cL_sum 205 = .ok (.aload 4, 2) := by decide +kernel
theorem dL_sum_207 : decode cL_sum 207 = .ok (.iconst 0, 1) := by decide +kernel
theorem dL_sum_208 : decode cL_sum 208 = .ok (.iaload, 1) := by decide +kernel
theorem dL_sum_209 : decode cL_sum 209 = .ok (.if_icmp .ne 7, 3) := by decide +kernel
theorem dL_sum_212 : decode cL_sum 212 = .ok (.iconst 0, 1) := by decide +kernel
theorem dL_sum_213 : decode cL_sum 213 = .ok (.goto 7, 3) := by decide +kernel
theorem dL_sum_216 : decode cL_sum 216 = .ok (.iload 12, 2) := by decide +kernel
theorem dL_sum_218 : decode cL_sum 218 = .ok (.iconst 1, 1) := by decide +kernel
theorem dL_sum_219 : decode cL_sum 219 = .ok (.iadd, 1) := by decide +kernel
theorem dL_sum_220 : decode cL_sum 220 = .ok (.istore 12, 2) := by decide +kernel
theorem dL_sum_222 : decode cL_sum 222 = .ok (.iinc 13 1, 3) := by decide +kernel
theorem dL_sum_225 : decode cL_sum 225 = .ok (.goto (-203), 3) := by decide +kernel
theorem dL_sum_228 : decode cL_sum 228 = .ok (.iload_n 1, 1) := by decide +kernel
theorem dL_sum_229 : decode cL_sum 229 = .ok (.ifCond .eq 9, 3) := by decide +kernel
theorem dL_sum_232 : decode cL_sum 232 = .ok (.lload 10, 2) := by decide +kernel
theorem dL_sum_234 : decode cL_sum 234 = .ok (.lneg, 1) := by decide +kernel
theorem dL_sum_235 : decode cL_sum 235 = .ok (.goto 5, 3) := by decide +kernel
theorem dL_sum_238 : decode cL_sum 238 = .ok (.lload 10, 2) := by decide +kernel
theorem dL_sum_240 : decode cL_sum 240 = .ok (.lreturn, 1) := by decide +kernel
theorem dL_area2_0 : decode cL_area2 0 = .ok (.lconst 0, 1) := by decide +kernel
theorem dL_area2_1 : decode cL_area2 1 = .ok (.lstore_n 2, 1) := by decide +kernel
theorem dL_area2_2 : decode cL_area2 2 = .ok (.iconst 1, 1) := by decide +kernel
theorem dL_area2_3 : decode cL_area2 3 = .ok (.istore 4, 2) := by decide +kernel
theorem dL_area2_5 : decode cL_area2 5 = .ok (.iload 4, 2) := by decide +kernel
theorem dL_area2_7 : decode cL_area2 7 = .ok (.iconst 1, 1) := by decide +kernel
theorem dL_area2_8 : decode cL_area2 8 = .ok (.iadd, 1) := by decide +kernel
theorem dL_area2_9 : decode cL_area2 9 = .ok (.aload_n 1, 1) := by decide +kernel
theorem dL_area2_10 : decode cL_area2 10 = .ok (.iconst 0, 1) := by decide +kernel
theorem dL_area2_11 : decode cL_area2 11 = .ok (.iaload, 1) := by decide +kernel
theorem dL_area2_12 : decode cL_area2 12 = .ok (.if_icmp .ge 65, 3) := by decide +kernel
theorem dL_area2_15 : decode cL_area2 15 = .ok (.lload_n 2, 1) := by decide +kernel
theorem dL_area2_16 : decode cL_area2 16 = .ok (.aload_n 0, 1) := by decide +kernel
theorem dL_area2_17 : decode cL_area2 17 = .ok (.iconst 3, 1) := by decide +kernel
theorem dL_area2_18 : decode cL_area2 18 = .ok (.iload 4, 2) := by decide +kernel
theorem dL_area2_20 : decode cL_area2 20 = .ok (.imul, 1) := by decide +kernel
theorem dL_area2_21 : decode cL_area2 21 = .ok (.iaload, 1) := by decide +kernel
theorem dL_area2_22 : decode cL_area2 22 = .ok (.aload_n 0, 1) := by decide +kernel
theorem dL_area2_23 : decode cL_area2 23 = .ok (.iconst 0, 1) := by decide +kernel
theorem dL_area2_24 : decode cL_area2 24 = .ok (.iaload, 1) := by decide +kernel
theorem dL_area2_25 : decode cL_area2 25 = .ok (.isub, 1) := by decide +kernel
theorem dL_area2_26 : decode cL_area2 26 = .ok (.i2l, 1) := by decide +kernel
theorem dL_area2_27 : decode cL_area2 27 = .ok (.aload_n 0, 1) := by decide +kernel
theorem dL_area2_28 : decode cL_area2 28 = .ok (.iconst 3, 1) := by decide +kernel
theorem dL_area2_29 : decode cL_area2 29 = .ok (.iload 4, 2) := by decide +kernel
theorem dL_area2_31 : decode cL_area2 31 = .ok (.imul, 1) := by decide +kernel
theorem dL_area2_32 : decode cL_area2 32 = .ok (.iconst 4, 1) := by decide +kernel
theorem dL_area2_33 : decode cL_area2 33 = .ok (.iadd, 1) := by decide +kernel
theorem dL_area2_34 : decode cL_area2 34 = .ok (.iaload, 1) := by decide +kernel
theorem dL_area2_35 : decode cL_area2 35 = .ok (.aload_n 0, 1) := by decide +kernel
theorem dL_area2_36 : decode cL_area2 36 = .ok (.iconst 1, 1) := by decide +kernel
theorem dL_area2_37 : decode cL_area2 37 = .ok (.iaload, 1) := by decide +kernel
theorem dL_area2_38 : decode cL_area2 38 = .ok (.isub, 1) := by decide +kernel
theorem dL_area2_39 : decode cL_area2 39 = .ok (.i2l, 1) := by decide +kernel
theorem dL_area2_40 : decode cL_area2 40 = .ok (.lmul, 1) := by decide +kernel
theorem dL_area2_41 : decode cL_area2 41 = .ok (.aload_n 0, 1) := by decide +kernel
theorem dL_area2_42 : decode cL_area2 42 = .ok (.iconst 3, 1) := by decide +kernel
theorem dL_area2_43 : decode cL_area2 43 = .ok (.iload 4, 2) := by decide +kernel
theorem dL_area2_45 : decode cL_area2 45 = .ok (.imul, 1) := by decide +kernel
theorem dL_area2_46 : decode cL_area2 46 = .ok (.iconst 1, 1) := by decide +kernel
theorem dL_area2_47 : decode cL_area2 47 = .ok (.iadd, 1) := by decide +kernel
theorem dL_area2_48 : decode cL_area2 48 = .ok (.iaload, 1) := by decide +kernel
theorem dL_area2_49 : decode cL_area2 49 = .ok (.aload_n 0, 1) := by decide +kernel
theorem dL_area2_50 : decode cL_area2 50 = .ok (.iconst 1, 1) := by decide +kernel
theorem dL_area2_51 : decode cL_area2 51 = .ok (.iaload, 1) := by decide +kernel
theorem dL_area2_52 : decode cL_area2 52 = .ok (.isub, 1) := by decide +kernel
theorem dL_area2_53 : decode cL_area2 53 = .ok (.i2l, 1) := by decide +kernel
theorem dL_area2_54 : decode cL_area2 54 = .ok (.aload_n 0, 1) := by decide +kernel
theorem dL_area2_55 : decode cL_area2 55 = .ok (.iconst 3, 1) := by decide +kernel
theorem dL_area2_56 : decode cL_area2 56 = .ok (.iload 4, 2) := by decide +kernel
theorem dL_area2_58 : decode cL_area2 58 = .ok (.imul, 1) := by decide +kernel
theorem dL_area2_59 : decode cL_area2 59 = .ok (.iconst 3, 1) := by decide +kernel
theorem dL_area2_60 : decode cL_area2 60 = .ok (.iadd, 1) := by decide +kernel
theorem dL_area2_61 : decode cL_area2 61 = .ok (.iaload, 1) := by decide +kernel
theorem dL_area2_62 : decode cL_area2 62 = .ok (.aload_n 0, 1) := by decide +kernel
theorem dL_area2_63 : decode cL_area2 63 = .ok (.iconst 0, 1) := by decide +kernel
theorem dL_area2_64 : decode cL_area2 64 = .ok (.iaload, 1) := by decide +kernel
theorem dL_area2_65 : decode cL_area2 65 = .ok (.isub, 1) := by decide +kernel
theorem dL_area2_66 : decode cL_area2 66 = .ok (.i2l, 1) := by decide +kernel
theorem dL_area2_67 : decode cL_area2 67 = .ok (.lmul, 1) := by decide +kernel
theorem dL_area2_68 : decode cL_area2 68 = .ok (.lsub, 1) := by decide +kernel
theorem dL_area2_69 : decode cL_area2 69 = .ok (.ladd, 1) := by decide +kernel
theorem dL_area2_70 : decode cL_area2 70 = .ok (.lstore_n 2, 1) := by decide +kernel
theorem dL_area2_71 : decode cL_area2 71 = .ok (.iinc 4 1, 3) := by decide +kernel
theorem dL_area2_74 : decode cL_area2 74 = .ok (.goto (-69), 3) := by decide +kernel
theorem dL_area2_77 : decode cL_area2 77 = .ok (.lload_n 2, 1) := by decide +kernel
theorem dL_area2_78 : decode cL_area2 78 = .ok (.lreturn, 1) := by decide +kernel
theorem dL_told_0 : decode cL_told 0 = .ok (.lconst 0, 1) := by decide +kernel
theorem dL_told_1 : decode cL_told 1 = .ok (.lstore 6, 2) := by decide +kernel
theorem dL_told_3 : decode cL_told 3 = .ok (.iconst 0, 1) := by decide +kernel
theorem dL_told_4 : decode cL_told 4 = .ok (.istore 8, 2) := by decide +kernel
theorem dL_told_6 : decode cL_told 6 = .ok (.iload 8, 2) := by decide +kernel
theorem dL_told_8 : decode cL_told 8 = .ok (.aload 4, 2) := by decide +kernel
theorem dL_told_10 : decode cL_told 10 = .ok (.iconst 0, 1) := by decide +kernel
theorem dL_told_11 : decode cL_told 11 = .ok (.iaload, 1) := by decide +kernel
theorem dL_told_12 : decode cL_told 12 = .ok (.if_icmp .ge 177, 3) := by decide +kernel
theorem dL_told_15 : decode cL_told 15 = .ok (.lconst 0, 1) := by decide +kernel
theorem dL_told_16 : decode cL_told 16 = .ok (.lstore 9, 2) := by decide +kernel
theorem dL_told_18 : decode cL_told 18 = .ok (.iload 8, 2) := by decide +kernel
theorem dL_told_20 : decode cL_told 20 = .ok (.aload_n 2, 1) := by decide +kernel
theorem dL_told_21 : decode cL_told 21 = .ok (.aload_n 3, 1) := by decide +kernel
theorem dL_told_22 : decode cL_told 22 = .ok (.aload 4, 2) := by decide +kernel
theorem dL_told_24 : decode cL_told 24 = .ok (.aload 5, 2) := by decide +kernel
theorem dL_told_26 : decode cL_told 26 = .ok (.invokestatic 37, 3) := by decide +kernel
theorem dL_told_29 : decode cL_told 29 = .ok (.istore 11, 2) := by decide +kernel
theorem dL_told_31 : decode cL_told 31 = .ok (.iload 8, 2) := by decide +kernel
theorem dL_told_33 : decode cL_told 33 = .ok (.aload_n 2, 1) := by decide +kernel
theorem dL_told_34 : decode cL_told 34 = .ok (.aload_n 3, 1) := by decide +kernel
theorem dL_told_35 : decode cL_told 35 = .ok (.aload 4, 2) := by decide +kernel
theorem dL_told_37 : decode cL_told 37 = .ok (.invokestatic 21, 3) := by decide +kernel
theorem dL_told_40 : decode cL_told 40 = .ok (.istore 12, 2) := by decide +kernel
theorem dL_told_42 : decode cL_told 42 = .ok (.iconst 0, 1) := by decide +kernel
theorem dL_told_43 : decode cL_told 43 = .ok (.istore 13, 2) := by decide +kernel
theorem dL_told_45 : decode cL_told 45 = .ok (.iload 13, 2) := by decide +kernel
theorem dL_told_47 : decode cL_told 47 = .ok (.iload 12, 2) := by decide +kernel
theorem dL_told_49 : decode cL_told 49 = .ok (.if_icmp .ge 36, 3) := by decide +kernel
theorem dL_told_52 : decode cL_told 52 = .ok (.iload 11, 2) := by decide +kernel
theorem dL_told_54 : decode cL_told 54 = .ok (.ifCond .eq 31, 3) := by decide +kernel
theorem dL_told_57 : decode cL_told 57 = .ok (.lload 9, 2) := by decide +kernel
theorem dL_told_59 : decode cL_told 59 = .ok (.iload 8, 2) := by decide +kernel
theorem dL_told_61 : decode cL_told 61 = .ok (.iload 13, 2) := by decide +kernel
theorem dL_told_63 : decode cL_told 63 = .ok (.iload 13, 2) := by decide +kernel
theorem dL_told_65 : decode cL_told 65 = .ok (.iconst 1, 1) := by decide +kernel
theorem dL_told_66 : decode cL_told 66 = .ok (.iadd, 1) := by decide +kernel
theorem dL_told_67 : decode cL_told 67 = .ok (.aload_n 2, 1) := by decide +kernel
theorem dL_told_68 : decode cL_told 68 = .ok (.aload_n 3, 1) := by decide +kernel
theorem dL_told_69 : decode cL_told 69 = .ok (.aload 4, 2) := by decide +kernel
theorem dL_told_71 : decode cL_told 71 = .ok (.aload 5, 2) := by decide +kernel
theorem dL_told_73 : decode cL_told 73 = .ok (.invokestatic 51, 3) := by decide +kernel
theorem dL_told_76 : decode cL_told 76 = .ok (.ladd, 1) := by decide +kernel
theorem dL_told_77 : decode cL_told 77 = .ok (.lstore 9, 2) := by decide +kernel
theorem dL_told_79 : decode cL_told 79 = .ok (.iinc 13 1, 3) := by decide +kernel
theorem dL_told_82 : decode cL_told 82 = .ok (.goto (-37), 3) := by decide +kernel
theorem dL_told_85 : decode cL_told 85 = .ok (.iconst 0, 1) := by decide +kernel
theorem dL_told_86 : decode cL_told 86 = .ok (.istore 13, 2) := by decide +kernel
theorem dL_told_88 : decode cL_told 88 = .ok (.iload 13, 2) := by decide +kernel
theorem dL_told_90 : decode cL_told 90 = .ok (.iconst 3, 1) := by decide +kernel
theorem dL_told_91 : decode cL_told 91 = .ok (.if_icmp .ge 33, 3) := by decide +kernel
theorem dL_told_94 : decode cL_told 94 = .ok (.aload_n 0, 1) := by decide +kernel
theorem dL_told_95 : decode cL_told 95 = .ok (.iload 8, 2) := by decide +kernel
theorem dL_told_97 : decode cL_told 97 = .ok (.iload 13, 2) := by decide +kernel
theorem dL_told_99 : decode cL_told 99 = .ok (.invokevirtual 57, 3) := by decide +kernel
theorem dL_told_102 : decode cL_told 102 = .ok (.aload_n 3, 1) := by decide +kernel
theorem dL_told_103 : decode cL_told 103 = .ok (.iconst 3, 1) := by decide +kernel
theorem dL_told_104 : decode cL_told 104 = .ok (.iload 8, 2) := by decide +kernel
theorem dL_told_106 : decode cL_told 106 = .ok (.imul, 1) := by decide +kernel
theorem dL_told_107 : decode cL_told 107 = .ok (.iload 13, 2) := by decide +kernel
theorem dL_told_109 : decode cL_told 109 = .ok (.iadd, 1) := by decide +kernel
theorem dL_told_110 : decode cL_told 110 = .ok (.iaload, 1) := by decide +kernel
theorem dL_told_111 : decode cL_told 111 = .ok (.i2l, 1) := by decide +kernel
theorem dL_told_112 : decode cL_told 112 = .ok (.lcmp, 1) := by decide +kernel
theorem dL_told_113 : decode cL_told 113 = .ok (.ifCond .eq 5, 3) := by decide +kernel
theorem dL_told_116 : decode cL_told 116 = .ok (.iconst 0, 1) := by decide +kernel
theorem dL_told_117 : decode cL_told 117 = .ok (.ireturn, 1) := by decide +kernel
theorem dL_told_118 : decode cL_told 118 = .ok (.iinc 13 1, 3) := by decide +kernel
theorem dL_told_121 : decode cL_told 121 = .ok (.goto (-33), 3) := by decide +kernel
theorem dL_told_124 : decode cL_told 124 = .ok (.aload_n 0, 1) := by decide +kernel
theorem dL_told_125 : decode cL_told 125 = .ok (.iload 8, 2) := by decide +kernel
theorem dL_told_127 : decode cL_told 127 = .ok (.iconst 3, 1) := by decide +kernel
theorem dL_told_128 : decode cL_told 128 = .ok (.invokevirtual 57, 3) := by decide +kernel
theorem dL_told_131 : decode cL_told 131 = .ok (.iload 12, 2) := by decide +kernel
theorem dL_told_133 : decode cL_told 133 = .ok (.i2l, 1) := by decide +kernel
theorem dL_told_134 : decode cL_told 134 = .ok (.lcmp, 1) := by decide +kernel
theorem dL_told_135 : decode cL_told 135 = .ok (.ifCond .ne 38, 3) := by decide +kernel
theorem dL_told_138 : decode cL_told 138 = .ok (.aload_n 0, 1) := by decide +kernel
theorem dL_told_139 : decode cL_told 139 = .ok (.iload 8, 2) := by decide +kernel
theorem dL_told_141 : decode cL_told 141 = .ok (.iconst 4, 1) := by decide +kernel
theorem dL_told_142 : decode cL_told 142 = .ok (.invokevirtual 57, 3) := by decide +kernel
theorem dL_told_145 : decode cL_told 145 = .ok (.lload 9, 2) := by decide +kernel
theorem dL_told_147 : decode cL_told 147 = .ok (.lcmp, 1) := by decide +kernel
theorem dL_told_148 : decode cL_told 148 = .ok (.ifCond .ne 25, 3) := by decide +kernel
theorem dL_told_151 : decode cL_told 151 = .ok (.aload_n 0, 1) := by decide +kernel
theorem dL_told_152 : decode cL_told 152 = .ok (.iload 8, 2) := by decide +kernel
theorem dL_told_154 : decode cL_told 154 = .ok (.iconst 5, 1) := by decide +kernel
theorem dL_told_155 : decode cL_told 155 = .ok (.invokevirtual 57, 3) := by decide +kernel
theorem dL_told_158 : decode cL_told 158 = .ok (.iload 11, 2) := by decide +kernel
theorem dL_told_160 : decode cL_told 160 = .ok (.ifCond .eq 7, 3) := by decide +kernel
theorem dL_told_163 : decode cL_told 163 = .ok (.iconst 1, 1) := by decide +kernel
theorem dL_told_164 : decode cL_told 164 = .ok (.goto 4, 3) := by decide +kernel
theorem dL_told_167 : decode cL_told 167 = .ok (.iconst 0, 1) := by decide +kernel
theorem dL_told_168 : decode cL_told 168 = .ok (.i2l, 1) := by decide +kernel
theorem dL_told_169 : decode cL_told 169 = .ok (.lcmp, 1) := by decide +kernel
theorem dL_told_170 : decode cL_told 170 = .ok (.ifCond .eq 5, 3) := by decide +kernel
theorem dL_told_173 : decode cL_told 173 = .ok (.iconst 0, 1) := by decide +kernel
theorem dL_told_174 : decode cL_told 174 = .ok (.ireturn, 1) := by decide +kernel
theorem dL_told_175 : decode cL_told 175 = .ok (.lload 6, 2) := by decide +kernel
theorem dL_told_177 : decode cL_told 177 = .ok (.iload 12, 2) := by decide +kernel
theorem dL_told_179 : decode cL_told 179 = .ok (.i2l, 1) := by decide +kernel
theorem dL_told_180 : decode cL_told 180 = .ok (.ladd, 1) := by decide +kernel
theorem dL_told_181 : decode cL_told 181 = .ok (.lstore 6, 2) := by decide +kernel
theorem dL_told_183 : decode cL_told 183 = .ok (.iinc 8 1, 3) := by decide +kernel
theorem dL_told_186 : decode cL_told 186 = .ok (.goto (-180), 3) := by decide +kernel
theorem dL_told_189 : decode cL_told 189 = .ok (.iload_n 1, 1) := by decide +kernel
theorem dL_told_190 : decode cL_told 190 = .ok (.ldc 63, 2) := by decide +kernel
theorem dL_told_192 : decode cL_told 192 = .ok (.invokestatic 64, 3) := by decide +kernel
theorem dL_told_195 : decode cL_told 195 = .ok (.sipush 30000, 3) := by decide +kernel
theorem dL_told_198 : decode cL_told 198 = .ok (.isub, 1) := by decide +kernel
theorem dL_told_199 : decode cL_told 199 = .ok (.istore 8, 2) := by decide +kernel
theorem dL_told_201 : decode cL_told 201 = .ok (.iload_n 1, 1) := by decide +kernel
theorem dL_told_202 : decode cL_told 202 = .ok (.bipush 7, 2) := by decide +kernel
theorem dL_told_204 : decode cL_told 204 = .ok (.ishr, 1) := by decide +kernel
theorem dL_told_205 : decode cL_told 205 = .ok (.ldc 63, 2) := by decide +kernel
theorem dL_told_207 : decode cL_told 207 = .ok (.invokestatic 64, 3) := by decide +kernel
theorem dL_told_210 : decode cL_told 210 = .ok (.sipush 30000, 3) := by decide +kernel
theorem dL_told_213 : decode cL_told 213 = .ok (.isub, 1) := by decide +kernel
theorem dL_told_214 : decode cL_told 214 = .ok (.istore 9, 2) := by decide +kernel
theorem dL_told_216 : decode cL_told 216 = .ok (.iload 8, 2) := by decide +kernel
theorem dL_told_218 : decode cL_told 218 = .ok (.i2l, 1) := by decide +kernel
theorem dL_told_219 : decode cL_told 219 = .ok (.iload 9, 2) := by decide +kernel
theorem dL_told_221 : decode cL_told 221 = .ok (.i2l, 1) := by decide +kernel
theorem dL_told_222 : decode cL_told 222 = .ok (.aload_n 2, 1) := by decide +kernel
theorem dL_told_223 : decode cL_told 223 = .ok (.aload 5, 2) := by decide +kernel
theorem dL_told_225 : decode cL_told 225 = .ok (.invokestatic 29, 3) := by decide +kernel
theorem dL_told_228 : decode cL_told 228 = .ok (.aload 5, 2) := by decide +kernel
theorem dL_told_230 : decode cL_told 230 = .ok (.iconst 2, 1) := by decide +kernel
theorem dL_told_231 : decode cL_told 231 = .ok (.laload, 1) := by decide +kernel
theorem dL_told_232 : decode cL_told 232 = .ok (.lconst 1, 1) := by decide +kernel
theorem dL_told_233 : decode cL_told 233 = .ok (.lcmp, 1) := by decide +kernel
theorem dL_told_234 : decode cL_told 234 = .ok (.ifCond .ne 7, 3) := by decide +kernel
theorem dL_told_237 : decode cL_told 237 = .ok (.iconst 1, 1) := by decide +kernel
theorem dL_told_238 : decode cL_told 238 = .ok (.goto 4, 3) := by decide +kernel
theorem dL_told_241 : decode cL_told 241 = .ok (.iconst 0, 1) := by decide +kernel
theorem dL_told_242 : decode cL_told 242 = .ok (.istore 10, 2) := by decide +kernel
theorem dL_told_244 : decode cL_told 244 = .ok (.aload_n 0, 1) := by decide +kernel
theorem dL_told_245 : decode cL_told 245 = .ok (.iload 8, 2) := by decide +kernel
theorem dL_told_247 : decode cL_told 247 = .ok (.iload 9, 2) := by decide +kernel
theorem dL_told_249 : decode cL_told 249 = .ok (.iconst 0, 1) := by decide +kernel
theorem dL_told_250 : decode cL_told 250 = .ok (.invokevirtual 68, 3) := by decide +kernel
theorem dL_told_253 : decode cL_told 253 = .ok (.aload 5, 2) := by decide +kernel
theorem dL_told_255 : decode cL_told 255 = .ok (.iconst 2, 1) := by decide +kernel
theorem dL_told_256 : decode cL_told 256 = .ok (.laload, 1) := by decide +kernel
theorem dL_told_257 : decode cL_told 257 = .ok (.lcmp, 1) := by decide +kernel
theorem dL_told_258 : decode cL_told 258 = .ok (.ifCond .ne 55, 3) := by decide +kernel
theorem dL_told_261 : decode cL_told 261 = .ok (.aload_n 0, 1) := by decide +kernel
theorem dL_told_262 : decode cL_told 262 = .ok (.iload 8, 2) := by decide +kernel
theorem dL_told_264 : decode cL_told 264 = .ok (.iload 9, 2) := by decide +kernel
theorem dL_told_266 : decode cL_told 266 = .ok (.iconst 1, 1) := by decide +kernel
theorem dL_told_267 : decode cL_told 267 = .ok (.invokevirtual 68, 3) := by decide +kernel
theorem dL_told_270 : decode cL_told 270 = .ok (.iload 10, 2) := by decide +kernel
theorem dL_told_272 : decode cL_told 272 = .ok (.ifCond .eq 10, 3) := by decide +kernel
theorem dL_told_275 : decode cL_told 275 = .ok (.aload 5, 2) := by decide +kernel
theorem dL_told_277 : decode cL_told 277 = .ok (.iconst 0, 1) := by decide +kernel
theorem dL_told_278 : decode cL_told 278 = .ok (.laload, 1) := by decide +kernel
theorem dL_told_279 : decode cL_told 279 = .ok (.goto 4, 3) := by decide +kernel
theorem dL_told_282 : decode cL_told 282 = .ok (.lconst 0, 1) := by decide +kernel
theorem dL_told_283 : decode cL_told 283 = .ok (.lcmp, 1) := by decide +kernel
theorem dL_told_284 : decode cL_told 284 = .ok (.ifCond .ne 29, 3) := by decide +kernel
theorem dL_told_287 : decode cL_told 287 = .ok (.aload_n 0, 1) := by decide +kernel
theorem dL_told_288 : decode cL_told 288 = .ok (.iload 8, 2) := by decide +kernel
theorem dL_told_290 : decode cL_told 290 = .ok (.iload 9, 2) := by decide +kernel
theorem dL_told_292 : decode cL_told 292 = .ok (.iconst 2, 1) := by decide +kernel
theorem dL_told_293 : decode cL_told 293 = .ok (.invokevirtual 68, 3) := by decide +kernel
theorem dL_told_296 : decode cL_told 296 = .ok (.iload 10, 2) := by decide +kernel
theorem dL_told_298 : decode cL_told 298 = .ok (.ifCond .eq 10, 3) := by decide +kernel
theorem dL_told_301 : decode cL_told 301 = .ok (.aload 5, 2) := by decide +kernel
theorem dL_told_303 : decode cL_told 303 = .ok (.iconst 1, 1) := by decide +kernel
theorem dL_told_304 : decode cL_told 304 = .ok (.laload, 1) := by decide +kernel
theorem dL_told_305 : decode cL_told 305 = .ok (.goto 4, 3) := by decide +kernel
theorem dL_told_308 : decode cL_told 308 = .ok (.lconst 0, 1) := by decide +kernel
theorem dL_told_309 : decode cL_told 309 = .ok (.lcmp, 1) := by decide +kernel
theorem dL_told_310 : decode cL_told 310 = .ok (.ifCond .eq 5, 3) := by decide +kernel
theorem dL_told_313 : decode cL_told 313 = .ok (.iconst 0, 1) := by decide +kernel
theorem dL_told_314 : decode cL_told 314 = .ok (.ireturn, 1) := by decide +kernel
theorem dL_told_315 : decode cL_told 315 = .ok (.iconst 0, 1) := by decide +kernel
theorem dL_told_316 : decode cL_told 316 = .ok (.istore 11, 2) := by decide +kernel
theorem dL_told_318 : decode cL_told 318 = .ok (.iload 11, 2) := by decide +kernel
theorem dL_told_320 : decode cL_told 320 = .ok (.iconst 5, 1) := by decide +kernel
theorem dL_told_321 : decode cL_told 321 = .ok (.if_icmp .ge 24, 3) := by decide +kernel
theorem dL_told_324 : decode cL_told 324 = .ok (.aload_n 0, 1) := by decide +kernel
theorem dL_told_325 : decode cL_told 325 = .ok (.iload 11, 2) := by decide +kernel
theorem dL_told_327 : decode cL_told 327 = .ok (.invokevirtual 72, 3) := by decide +kernel
theorem dL_told_330 : decode cL_told 330 = .ok (.aload_n 2, 1) := by decide +kernel
theorem dL_told_331 : decode cL_told 331 = .ok (.iload 11, 2) := by decide +kernel
theorem dL_told_333 : decode cL_told 333 = .ok (.iaload, 1) := by decide +kernel
theorem dL_told_334 : decode cL_told 334 = .ok (.if_icmp .eq 5, 3) := by decide +kernel
theorem dL_told_337 : decode cL_told 337 = .ok (.iconst 0, 1) := by decide +kernel
theorem dL_told_338 : decode cL_told 338 = .ok (.ireturn, 1) := by decide +kernel
theorem dL_told_339 : decode cL_told 339 = .ok (.iinc 11 1, 3) := by decide +kernel
theorem dL_told_342 : decode cL_told 342 = .ok (.goto (-24), 3) := by decide +kernel
theorem dL_told_345 : decode cL_told 345 = .ok (.aload_n 2, 1) := by decide +kernel
theorem dL_told_346 : decode cL_told 346 = .ok (.aload_n 3, 1) := by decide +kernel
theorem dL_told_347 : decode cL_told 347 = .ok (.aload 4, 2) := by decide +kernel
theorem dL_told_349 : decode cL_told 349 = .ok (.aload 5, 2) := by decide +kernel
theorem dL_told_351 : decode cL_told 351 = .ok (.invokestatic 76, 3) := by decide +kernel
theorem dL_told_354 : decode cL_told 354 = .ok (.istore 11, 2) := by decide +kernel
theorem dL_told_356 : decode cL_told 356 = .ok (.aload 4, 2) := by decide +kernel
theorem dL_told_358 : decode cL_told 358 = .ok (.iconst 0, 1) := by decide +kernel
theorem dL_told_359 : decode cL_told 359 = .ok (.iaload, 1) := by decide +kernel
theorem dL_told_360 : decode cL_told 360 = .ok (.ifCond .le 37, 3) := by decide +kernel
theorem dL_told_363 : decode cL_told 363 = .ok (.aload_n 0, 1) := by decide +kernel
theorem dL_told_364 : decode cL_told 364 = .ok (.iload_n 1, 1) := by decide +kernel
theorem dL_told_365 : decode cL_told 365 = .ok (.aload 4, 2) := by decide +kernel
theorem dL_told_367 : decode cL_told 367 = .ok (.iconst 0, 1) := by decide +kernel
theorem dL_told_368 : decode cL_told 368 = .ok (.iaload, 1) := by decide +kernel
theorem dL_told_369 : decode cL_told 369 = .ok (.invokestatic 64, 3) := by decide +kernel
theorem dL_told_372 : decode cL_told 372 = .ok (.iload_n 1, 1) := by decide +kernel
theorem dL_told_373 : decode cL_told 373 = .ok (.iconst 3, 1) := by decide +kernel
theorem dL_told_374 : decode cL_told 374 = .ok (.ishr, 1) := by decide +kernel
theorem dL_told_375 : decode cL_told 375 = .ok (.iconst 2, 1) := by decide +kernel
theorem dL_told_376 : decode cL_told 376 = .ok (.invokestatic 64, 3) := by decide +kernel
theorem dL_told_379 : decode cL_told 379 = .ok (.ifCond .ne 7, 3) := by decide +kernel
theorem dL_told_382 : decode cL_told 382 = .ok (.iconst 1, 1) := by decide +kernel
theorem dL_told_383 : decode cL_told 383 = .ok (.goto 4, 3) := by decide +kernel
theorem dL_told_386 : decode cL_told 386 = .ok (.iconst 0, 1) := by decide +kernel
theorem dL_told_387 : decode cL_told 387 = .ok (.invokevirtual 80, 3) := by decide +kernel
theorem dL_told_390 : decode cL_told 390 = .ok (.iload 11, 2) := by decide +kernel
theorem dL_told_392 : decode cL_told 392 = .ok (.if_icmp .eq 5, 3) := by decide +kernel
theorem dL_told_395 : decode cL_told 395 = .ok (.iconst 0, 1) := by decide +kernel
theorem dL_told_396 : decode cL_told 396 = .ok (.ireturn, 1) := by decide +kernel
theorem dL_told_397 : decode cL_told 397 = .ok (.aload_n 0, 1) := by decide +kernel
theorem dL_told_398 : decode cL_told 398 = .ok (.iconst 0, 1) := by decide +kernel
theorem dL_told_399 : decode cL_told 399 = .ok (.invokevirtual 83, 3) := by decide +kernel
theorem dL_told_402 : decode cL_told 402 = .ok (.aload 4, 2) := by decide +kernel
theorem dL_told_404 : decode cL_told 404 = .ok (.iconst 0, 1) := by decide +kernel
theorem dL_told_405 : decode cL_told 405 = .ok (.iaload, 1) := by decide +kernel
theorem dL_told_406 : decode cL_told 406 = .ok (.i2l, 1) := by decide +kernel
theorem dL_told_407 : decode cL_told 407 = .ok (.lcmp, 1) := by decide +kernel
theorem dL_told_408 : decode cL_told 408 = .ok (.ifCond .ne 120, 3) := by decide +kernel
theorem dL_told_411 : decode cL_told 411 = .ok (.aload_n 0, 1) := by decide +kernel
theorem dL_told_412 : decode cL_told 412 = .ok (.iconst 1, 1) := by decide +kernel
theorem dL_told_413 : decode cL_told 413 = .ok (.invokevirtual 83, 3) := by decide +kernel
theorem dL_told_416 : decode cL_told 416 = .ok (.aload 4, 2) := by decide +kernel
theorem dL_told_418 : decode cL_told 418 = .ok (.iconst 1, 1) := by decide +kernel
theorem dL_told_419 : decode cL_told 419 = .ok (.iaload, 1) := by decide +kernel
theorem dL_told_420 : decode cL_told 420 = .ok (.i2l, 1) := by decide +kernel
theorem dL_told_421 : decode cL_told 421 = .ok (.lcmp, 1) := by decide +kernel
theorem dL_told_422 : decode cL_told 422 = .ok (.ifCond .ne 106, 3) := by decide +kernel
theorem dL_told_425 : decode cL_told 425 = .ok (.aload_n 0, 1) := by decide +kernel
theorem dL_told_426 : decode cL_told 426 = .ok (.iconst 2, 1) := by decide +kernel
theorem dL_told_427 : decode cL_told 427 = .ok (.invokevirtual 83, 3) := by decide +kernel
theorem dL_told_430 : decode cL_told 430 = .ok (.aload_n 2, 1) := by decide +kernel
theorem dL_told_431 : decode cL_told 431 = .ok (.iconst 5, 1) := by decide +kernel
theorem dL_told_432 : decode cL_told 432 = .ok (.iaload, 1) := by decide +kernel
theorem dL_told_433 : decode cL_told 433 = .ok (.i2l, 1) := by decide +kernel
theorem dL_told_434 : decode cL_told 434 = .ok (.lcmp, 1) := by decide +kernel
theorem dL_told_435 : decode cL_told 435 = .ok (.ifCond .ne 93, 3) := by decide +kernel
theorem dL_told_438 : decode cL_told 438 = .ok (.aload_n 0, 1) := by decide +kernel
theorem dL_told_439 : decode cL_told 439 = .ok (.iconst 3, 1) := by decide +kernel
theorem dL_told_440 : decode cL_told 440 = .ok (.invokevirtual 83, 3) := by decide +kernel
theorem dL_told_443 : decode cL_told 443 = .ok (.aload_n 2, 1) := by decide +kernel
theorem dL_told_444 : decode cL_told 444 = .ok (.bipush 6, 2) := by decide +kernel
theorem dL_told_446 : decode cL_told 446 = .ok (.iaload, 1) := by decide +kernel
theorem dL_told_447 : decode cL_told 447 = .ok (.i2l, 1) := by decide +kernel
theorem dL_told_448 : decode cL_told 448 = .ok (.lcmp, 1) := by decide +kernel
theorem dL_told_449 : decode cL_told 449 = .ok (.ifCond .ne 79, 3) := by decide +kernel
theorem dL_told_452 : decode cL_told 452 = .ok (.aload_n 0, 1) := by decide +kernel
theorem dL_told_453 : decode cL_told 453 = .ok (.iconst 5, 1) := by decide +kernel
theorem dL_told_454 : decode cL_told 454 = .ok (.invokevirtual 83, 3) := by decide +kernel
theorem dL_told_457 : decode cL_told 457 = .ok (.aload_n 3, 1) := by decide +kernel
theorem dL_told_458 : decode cL_told 458 = .ok (.aload 4, 2) := by decide +kernel
theorem dL_told_460 : decode cL_told 460 = .ok (.invokestatic 87, 3) := by decide +kernel
theorem dL_told_463 : decode cL_told 463 = .ok (.lcmp, 1) := by decide +kernel
theorem dL_told_464 : decode cL_told 464 = .ok (.ifCond .ne 64, 3) := by decide +kernel
theorem dL_told_467 : decode cL_told 467 = .ok (.aload_n 0, 1) := by decide +kernel
theorem dL_told_468 : decode cL_told 468 = .ok (.bipush 6, 2) := by decide +kernel
theorem dL_told_470 : decode cL_told 470 = .ok (.invokevirtual 83, 3) := by decide +kernel
theorem dL_told_473 : decode cL_told 473 = .ok (.aload_n 3, 1) := by decide +kernel
theorem dL_told_474 : decode cL_told 474 = .ok (.aload 4, 2) := by decide +kernel
theorem dL_told_476 : decode cL_told 476 = .ok (.invokestatic 87, 3) := by decide +kernel
theorem dL_told_479 : decode cL_told 479 = .ok (.ldc2_w 91, 3) := by decide +kernel
theorem dL_told_482 : decode cL_told 482 = .ok (.ldiv, 1) := by decide +kernel
theorem dL_told_483 : decode cL_told 483 = .ok (.lcmp, 1) := by decide +kernel
theorem dL_told_484 : decode cL_told 484 = .ok (.ifCond .ne 44, 3) := by decide +kernel
theorem dL_told_487 : decode cL_told 487 = .ok (.aload_n 0, 1) := by decide +kernel
theorem dL_told_488 : decode cL_told 488 = .ok (.bipush 9, 2) := by decide +kernel
theorem dL_told_490 : decode cL_told 490 = .ok (.invokevirtual 83, 3) := by decide +kernel
theorem dL_told_493 : decode cL_told 493 = .ok (.aload_n 2, 1) := by decide +kernel
theorem dL_told_494 : decode cL_told 494 = .ok (.aload_n 3, 1) := by decide +kernel
theorem dL_told_495 : decode cL_told 495 = .ok (.aload 4, 2) := by decide +kernel
theorem dL_told_497 : decode cL_told 497 = .ok (.invokestatic 41, 3) := by decide +kernel
theorem dL_told_500 : decode cL_told 500 = .ok (.ifCond .eq 7, 3) := by decide +kernel
theorem dL_told_503 : decode cL_told 503 = .ok (.lconst 1, 1) := by decide +kernel
theorem dL_told_504 : decode cL_told 504 = .ok (.goto 4, 3) := by decide +kernel
theorem dL_told_507 : decode cL_told 507 = .ok (.lconst 0, 1) := by decide +kernel
theorem dL_told_508 : decode cL_told 508 = .ok (.lcmp, 1) := by decide +kernel
theorem dL_told_509 : decode cL_told 509 = .ok (.ifCond .ne 19, 3) := by decide +kernel
theorem dL_told_512 : decode cL_told 512 = .ok (.aload_n 0, 1) := by decide +kernel
theorem dL_told_513 : decode cL_told 513 = .ok (.bipush 13, 2) := by decide +kernel
theorem dL_told_515 : decode cL_told 515 = .ok (.invokevirtual 83, 3) := by decide +kernel
theorem dL_told_518 : decode cL_told 518 = .ok (.lload 6, 2) := by decide +kernel
theorem dL_told_520 : decode cL_told 520 = .ok (.lcmp, 1) := by decide +kernel
theorem dL_told_521 : decode cL_told 521 = .ok (.ifCond .ne 7, 3) := by decide +kernel
theorem dL_told_524 : decode cL_told 524 = .ok (.iconst 1, 1) := by decide +kernel
theorem dL_told_525 : decode cL_told 525 = .ok (.goto 4, 3) := by decide +kernel
theorem dL_told_528 : decode cL_told 528 = .ok (.iconst 0, 1) := by decide +kernel
theorem dL_told_529 : decode cL_told 529 = .ok (.ireturn, 1) := by decide +kernel
theorem dL_ahead_0 : decode cL_ahead 0 = .ok (.aload_n 3, 1) := by decide +kernel
theorem dL_ahead_1 : decode cL_ahead 1 = .ok (.iconst 1, 1) := by decide +kernel
theorem dL_ahead_2 : decode cL_ahead 2 = .ok (.iaload, 1) := by decide +kernel
theorem dL_ahead_3 : decode cL_ahead 3 = .ok (.istore 7, 2) := by decide +kernel
theorem dL_ahead_5 : decode cL_ahead 5 = .ok (.iconst (-1), 1) := by decide +kernel
theorem dL_ahead_6 : decode cL_ahead 6 = .ok (.istore 8, 2) := by decide +kernel
theorem dL_ahead_8 : decode cL_ahead 8 = .ok (.sipush 200, 3) := by decide +kernel
theorem dL_ahead_11 : decode cL_ahead 11 = .ok (.istore 9, 2) := by decide +kernel
theorem dL_ahead_13 : decode cL_ahead 13 = .ok (.iload 9, 2) := by decide +kernel
theorem dL_ahead_15 : decode cL_ahead 15 = .ok (.sipush 3000, 3) := by decide +kernel
theorem dL_ahead_18 : decode cL_ahead 18 = .ok (.if_icmp .gt 47, 3) := by decide +kernel
theorem dL_ahead_21 : decode cL_ahead 21 = .ok (.iload 8, 2) := by decide +kernel
theorem dL_ahead_23 : decode cL_ahead 23 = .ok (.ifCond .ge 42, 3) := by decide +kernel
theorem dL_ahead_26 : decode cL_ahead 26 = .ok (.aload 5, 2) := by decide +kernel
theorem dL_ahead_28 : decode cL_ahead 28 = .ok (.iconst 0, 1) := by decide +kernel
theorem dL_ahead_29 : decode cL_ahead 29 = .ok (.iaload, 1) := by decide +kernel
theorem dL_ahead_30 : decode cL_ahead 30 = .ok (.ifCond .le 35, 3) := by decide +kernel
theorem dL_ahead_33 : decode cL_ahead 33 = .ok (.aload_n 3, 1) := by decide +kernel
theorem dL_ahead_34 : decode cL_ahead 34 = .ok (.iconst 1, 1) := by decide +kernel
theorem dL_ahead_35 : decode cL_ahead 35 = .ok (.iload 9, 2) := by decide +kernel
theorem dL_ahead_37 : decode cL_ahead 37 = .ok (.iastore, 1) := by decide +kernel
theorem dL_ahead_38 : decode cL_ahead 38 = .ok (.aload_n 3, 1) := by decide +kernel
theorem dL_ahead_39 : decode cL_ahead 39 = .ok (.aload 4, 2) := by decide +kernel
theorem dL_ahead_41 : decode cL_ahead 41 = .ok (.aload 5, 2) := by decide +kernel
theorem dL_ahead_43 : decode cL_ahead 43 = .ok (.aload 6, 2) := by decide +kernel
theorem dL_ahead_45 : decode cL_ahead 45 = .ok (.invokestatic 45, 3) := by decide +kernel
theorem dL_ahead_48 : decode cL_ahead 48 = .ok (.ifCond .eq 8, 3) := by decide +kernel
theorem dL_ahead_51 : decode cL_ahead 51 = .ok (.iload 9, 2) := by decide +kernel
theorem dL_ahead_53 : decode cL_ahead 53 = .ok (.goto 4, 3) := by decide +kernel
theorem dL_ahead_56 : decode cL_ahead 56 = .ok (.iconst (-1), 1) := by decide +kernel
theorem dL_ahead_57 : decode cL_ahead 57 = .ok (.istore 8, 2) := by decide +kernel
theorem dL_ahead_59 : decode cL_ahead 59 = .ok (.iinc 9 100, 3) := by decide +kernel
theorem dL_ahead_62 : decode cL_ahead 62 = .ok (.goto (-49), 3) := by decide +kernel
theorem dL_ahead_65 : decode cL_ahead 65 = .ok (.aload_n 3, 1) := by decide +kernel
theorem dL_ahead_66 : decode cL_ahead 66 = .ok (.iconst 1, 1) := by decide +kernel
theorem dL_ahead_67 : decode cL_ahead 67 = .ok (.iload 7, 2) := by decide +kernel
theorem dL_ahead_69 : decode cL_ahead 69 = .ok (.iastore, 1) := by decide +kernel
theorem dL_ahead_70 : decode cL_ahead 70 = .ok (.aload_n 0, 1) := by decide +kernel
theorem dL_ahead_71 : decode cL_ahead 71 = .ok (.invokevirtual 93, 3) := by decide +kernel
theorem dL_ahead_74 : decode cL_ahead 74 = .ok (.iload 8, 2) := by decide +kernel
theorem dL_ahead_76 : decode cL_ahead 76 = .ok (.if_icmp .ne 10, 3) := by decide +kernel
theorem dL_ahead_79 : decode cL_ahead 79 = .ok (.aload 5, 2) := by decide +kernel
theorem dL_ahead_81 : decode cL_ahead 81 = .ok (.iconst 0, 1) := by decide +kernel
theorem dL_ahead_82 : decode cL_ahead 82 = .ok (.iaload, 1) := by decide +kernel
theorem dL_ahead_83 : decode cL_ahead 83 = .ok (.ifCond .ne 18, 3) := by decide +kernel
theorem dL_ahead_86 : decode cL_ahead 86 = .ok (.aload_n 0, 1) := by decide +kernel
theorem dL_ahead_87 : decode cL_ahead 87 = .ok (.invokevirtual 93, 3) := by decide +kernel
theorem dL_ahead_90 : decode cL_ahead 90 = .ok (.iload 8, 2) := by decide +kernel
theorem dL_ahead_92 : decode cL_ahead 92 = .ok (.if_icmp .ne 7, 3) := by decide +kernel
theorem dL_ahead_95 : decode cL_ahead 95 = .ok (.iconst 1, 1) := by decide +kernel
theorem dL_ahead_96 : decode cL_ahead 96 = .ok (.goto 4, 3) := by decide +kernel
theorem dL_ahead_99 : decode cL_ahead 99 = .ok (.iconst 0, 1) := by decide +kernel
theorem dL_ahead_100 : decode cL_ahead 100 = .ok (.ireturn, 1) := by decide +kernel
theorem dL_ahead_101 : decode cL_ahead 101 = .ok (.iload_n 1, 1) := by decide +kernel
theorem dL_ahead_102 : decode cL_ahead 102 = .ok (.iconst 5, 1) := by decide +kernel
theorem dL_ahead_103 : decode cL_ahead 103 = .ok (.invokestatic 64, 3) := by decide +kernel
theorem dL_ahead_106 : decode cL_ahead 106 = .ok (.istore 9, 2) := by decide +kernel
theorem dL_ahead_108 : decode cL_ahead 108 = .ok (.iload_n 1, 1) := by decide +kernel
theorem dL_ahead_109 : decode cL_ahead 109 = .ok (.iconst 3, 1) := by decide +kernel
theorem dL_ahead_110 : decode cL_ahead 110 = .ok (.ishr, 1) := by decide +kernel
theorem dL_ahead_111 : decode cL_ahead 111 = .ok (.aload 5, 2) := by decide +kernel
theorem dL_ahead_113 : decode cL_ahead 113 = .ok (.iconst 0, 1) := by decide +kernel
theorem dL_ahead_114 : decode cL_ahead 114 = .ok (.iaload, 1) := by decide +kernel
theorem dL_ahead_115 : decode cL_ahead 115 = .ok (.invokestatic 64, 3) := by decide +kernel
theorem dL_ahead_118 : decode cL_ahead 118 = .ok (.istore 10, 2) := by decide +kernel
theorem dL_ahead_120 : decode cL_ahead 120 = .ok (.iload_n 1, 1) := by decide +kernel
theorem dL_ahead_121 : decode cL_ahead 121 = .ok (.bipush 6, 2) := by decide +kernel
theorem dL_ahead_123 : decode cL_ahead 123 = .ok (.ishr, 1) := by decide +kernel
theorem dL_ahead_124 : decode cL_ahead 124 = .ok (.iconst 2, 1) := by decide +kernel
theorem dL_ahead_125 : decode cL_ahead 125 = .ok (.invokestatic 64, 3) := by decide +kernel
theorem dL_ahead_128 : decode cL_ahead 128 = .ok (.ifCond .ne 7, 3) := by decide +kernel
theorem dL_ahead_131 : decode cL_ahead 131 = .ok (.iconst 1, 1) := by decide +kernel
theorem dL_ahead_132 : decode cL_ahead 132 = .ok (.goto 4, 3) := by decide +kernel
theorem dL_ahead_135 : decode cL_ahead 135 = .ok (.iconst 0, 1) := by decide +kernel
theorem dL_ahead_136 : decode cL_ahead 136 = .ok (.istore 11, 2) := by decide +kernel
theorem dL_ahead_138 : decode cL_ahead 138 = .ok (.aload_n 3, 1) := by decide +kernel
theorem dL_ahead_139 : decode cL_ahead 139 = .ok (.iload 9, 2) := by decide +kernel
theorem dL_ahead_141 : decode cL_ahead 141 = .ok (.iaload, 1) := by decide +kernel
theorem dL_ahead_142 : decode cL_ahead 142 = .ok (.istore 12, 2) := by decide +kernel
theorem dL_ahead_144 : decode cL_ahead 144 = .ok (.aload_n 3, 1) := by decide +kernel
theorem dL_ahead_145 : decode cL_ahead 145 = .ok (.iload 9, 2) := by decide +kernel
theorem dL_ahead_147 : decode cL_ahead 147 = .ok (.iload 9, 2) := by decide +kernel
theorem dL_ahead_149 : decode cL_ahead 149 = .ok (.iload_n 2, 1) := by decide +kernel
theorem dL_ahead_150 : decode cL_ahead 150 = .ok (.invokestatic 97, 3) := by decide +kernel
theorem dL_ahead_153 : decode cL_ahead 153 = .ok (.iastore, 1) := by decide +kernel
theorem dL_ahead_154 : decode cL_ahead 154 = .ok (.aload_n 3, 1) := by decide +kernel
theorem dL_ahead_155 : decode cL_ahead 155 = .ok (.aload 4, 2) := by decide +kernel
theorem dL_ahead_157 : decode cL_ahead 157 = .ok (.aload 5, 2) := by decide +kernel
theorem dL_ahead_159 : decode cL_ahead 159 = .ok (.aload 6, 2) := by decide +kernel
theorem dL_ahead_161 : decode cL_ahead 161 = .ok (.invokestatic 76, 3) := by decide +kernel
theorem dL_ahead_164 : decode cL_ahead 164 = .ok (.istore 13, 2) := by decide +kernel
theorem dL_ahead_166 : decode cL_ahead 166 = .ok (.iload 13, 2) := by decide +kernel
theorem dL_ahead_168 : decode cL_ahead 168 = .ok (.ifCond .eq 9, 3) := by decide +kernel
theorem dL_ahead_171 : decode cL_ahead 171 = .ok (.iload 13, 2) := by decide +kernel
theorem dL_ahead_173 : decode cL_ahead 173 = .ok (.iconst 4, 1) := by decide +kernel
theorem dL_ahead_174 : decode cL_ahead 174 = .ok (.if_icmp .ne 20, 3) := by decide +kernel
theorem dL_ahead_177 : decode cL_ahead 177 = .ok (.iload 10, 2) := by decide +kernel
theorem dL_ahead_179 : decode cL_ahead 179 = .ok (.iload 11, 2) := by decide +kernel
theorem dL_ahead_181 : decode cL_ahead 181 = .ok (.aload_n 3, 1) := by decide +kernel
theorem dL_ahead_182 : decode cL_ahead 182 = .ok (.aload 4, 2) := by decide +kernel
theorem dL_ahead_184 : decode cL_ahead 184 = .ok (.aload 5, 2) := by decide +kernel
theorem dL_ahead_186 : decode cL_ahead 186 = .ok (.aload 6, 2) := by decide +kernel
theorem dL_ahead_188 : decode cL_ahead 188 = .ok (.invokestatic 100, 3) := by decide +kernel
theorem dL_ahead_191 : decode cL_ahead 191 = .ok (.goto 4, 3) := by decide +kernel
theorem dL_ahead_194 : decode cL_ahead 194 = .ok (.lconst 0, 1) := by decide +kernel
theorem dL_ahead_195 : decode cL_ahead 195 = .ok (.lstore 14, 2) := by decide +kernel
theorem dL_ahead_197 : decode cL_ahead 197 = .ok (.aload_n 3, 1) := by decide +kernel
theorem dL_ahead_198 : decode cL_ahead 198 = .ok (.iload 9, 2) := by decide +kernel
theorem dL_ahead_200 : decode cL_ahead 200 = .ok (.iaload, 1) := by decide +kernel
theorem dL_ahead_201 : decode cL_ahead 201 = .ok (.istore 16, 2) := by decide +kernel
theorem dL_ahead_203 : decode cL_ahead 203 = .ok (.aload_n 3, 1) := by decide +kernel
theorem dL_ahead_204 : decode cL_ahead 204 = .ok (.iload 9, 2) := by decide +kernel
theorem dL_ahead_206 : decode cL_ahead 206 = .ok (.iload 12, 2) := by decide +kernel
theorem dL_ahead_208 : decode cL_ahead 208 = .ok (.iastore, 1) := by decide +kernel
theorem dL_ahead_209 : decode cL_ahead 209 = .ok (.aload_n 0, 1) := by decide +kernel
theorem dL_ahead_210 : decode cL_ahead 210 = .ok (.iload 10, 2) := by decide +kernel
theorem dL_ahead_212 : decode cL_ahead 212 = .ok (.iload 11, 2) := by decide +kernel
theorem dL_ahead_214 : decode cL_ahead 214 = .ok (.iload 9, 2) := by decide +kernel
theorem dL_ahead_216 : decode cL_ahead 216 = .ok (.iload 16, 2) := by decide +kernel
theorem dL_ahead_218 : decode cL_ahead 218 = .ok (.invokevirtual 104, 3) := by decide +kernel
theorem dL_ahead_221 : decode cL_ahead 221 = .ok (.lload 14, 2) := by decide +kernel
theorem dL_ahead_223 : decode cL_ahead 223 = .ok (.lcmp, 1) := by decide +kernel
theorem dL_ahead_224 : decode cL_ahead 224 = .ok (.ifCond .ne 7, 3) := by decide +kernel
theorem dL_ahead_227 : decode cL_ahead 227 = .ok (.iconst 1, 1) := by decide +kernel
theorem dL_ahead_228 : decode cL_ahead 228 = .ok (.goto 4, 3) := by decide +kernel
theorem dL_ahead_231 : decode cL_ahead 231 = .ok (.iconst 0, 1) := by decide +kernel
theorem dL_ahead_232 : decode cL_ahead 232 = .ok (.ireturn, 1) := by decide +kernel
theorem dL_value_0 : decode cL_value 0 = .ok (.iload_n 0, 1) := by decide +kernel
theorem dL_value_1 : decode cL_value 1 = .ok (.iconst 2, 1) := by decide +kernel
theorem dL_value_2 : decode cL_value 2 = .ok (.if_icmp .ge 17, 3) := by decide +kernel
theorem dL_value_5 : decode cL_value 5 = .ok (.sipush 400, 3) := by decide +kernel
theorem dL_value_8 : decode cL_value 8 = .ok (.iload_n 1, 1) := by decide +kernel
theorem dL_value_9 : decode cL_value 9 = .ok (.sipush 1800, 3) := by decide +kernel
theorem dL_value_12 : decode cL_value 12 = .ok (.invokestatic 64, 3) := by decide +kernel
theorem dL_value_15 : decode cL_value 15 = .ok (.iadd, 1) := by decide +kernel
theorem dL_value_16 : decode cL_value 16 = .ok (.goto 41, 3) := by decide +kernel
theorem dL_value_19 : decode cL_value 19 = .ok (.iload_n 0, 1) := by decide +kernel
theorem dL_value_20 : decode cL_value 20 = .ok (.iconst 2, 1) := by decide +kernel
theorem dL_value_21 : decode cL_value 21 = .ok (.if_icmp .ne 16, 3) := by decide +kernel
theorem dL_value_24 : decode cL_value 24 = .ok (.bipush 40, 2) := by decide +kernel
theorem dL_value_26 : decode cL_value 26 = .ok (.iload_n 1, 1) := by decide +kernel
theorem dL_value_27 : decode cL_value 27 = .ok (.sipush 161, 3) := by decide +kernel
theorem dL_value_30 : decode cL_value 30 = .ok (.invokestatic 64, 3) := by decide +kernel
theorem dL_value_33 : decode cL_value 33 = .ok (.iadd, 1) := by decide +kernel
theorem dL_value_34 : decode cL_value 34 = .ok (.goto 23, 3) := by decide +kernel
theorem dL_value_37 : decode cL_value 37 = .ok (.iload_n 0, 1) := by decide +kernel
theorem dL_value_38 : decode cL_value 38 = .ok (.iconst 3, 1) := by decide +kernel
theorem dL_value_39 : decode cL_value 39 = .ok (.if_icmp .ne 11, 3) := by decide +kernel
theorem dL_value_42 : decode cL_value 42 = .ok (.iload_n 1, 1) := by decide +kernel
theorem dL_value_43 : decode cL_value 43 = .ok (.iconst 2, 1) := by decide +kernel
theorem dL_value_44 : decode cL_value 44 = .ok (.invokestatic 64, 3) := by decide +kernel
theorem dL_value_47 : decode cL_value 47 = .ok (.goto 10, 3) := by decide +kernel
theorem dL_value_50 : decode cL_value 50 = .ok (.iload_n 1, 1) := by decide +kernel
theorem dL_value_51 : decode cL_value 51 = .ok (.sipush 3000, 3) := by decide +kernel
theorem dL_value_54 : decode cL_value 54 = .ok (.invokestatic 64, 3) := by decide +kernel
theorem dL_value_57 : decode cL_value 57 = .ok (.ireturn, 1) := by decide +kernel
theorem dL_act_0 : decode cL_act 0 = .ok (.iload_n 2, 1) := by decide +kernel
theorem dL_act_1 : decode cL_act 1 = .ok (.iload_n 3, 1) := by decide +kernel
theorem dL_act_2 : decode cL_act 2 = .ok (.iconst 3, 1) := by decide +kernel
theorem dL_act_3 : decode cL_act 3 = .ok (.ishr, 1) := by decide +kernel
theorem dL_act_4 : decode cL_act 4 = .ok (.iconst 3, 1) := by decide +kernel
theorem dL_act_5 : decode cL_act 5 = .ok (.invokestatic 64, 3) := by decide +kernel
theorem dL_act_8 : decode cL_act 8 = .ok (.ifCond .ne 9, 3) := by decide +kernel
theorem dL_act_11 : decode cL_act 11 = .ok (.sipush 2001, 3) := by decide +kernel
theorem dL_act_14 : decode cL_act 14 = .ok (.goto 6, 3) := by decide +kernel
theorem dL_act_17 : decode cL_act 17 = .ok (.sipush 801, 3) := by decide +kernel
theorem dL_act_20 : decode cL_act 20 = .ok (.invokestatic 64, 3) := by decide +kernel
theorem dL_act_23 : decode cL_act 23 = .ok (.sipush 400, 3) := by decide +kernel
theorem dL_act_26 : decode cL_act 26 = .ok (.isub, 1) := by decide +kernel
theorem dL_act_27 : decode cL_act 27 = .ok (.istore 8, 2) := by decide +kernel
theorem dL_act_29 : decode cL_act 29 = .ok (.iload_n 3, 1) := by decide +kernel
theorem dL_act_30 : decode cL_act 30 = .ok (.sipush 801, 3) := by decide +kernel
theorem dL_act_33 : decode cL_act 33 = .ok (.invokestatic 64, 3) := by decide +kernel
theorem dL_act_36 : decode cL_act 36 = .ok (.sipush 400, 3) := by decide +kernel
theorem dL_act_39 : decode cL_act 39 = .ok (.isub, 1) := by decide +kernel
theorem dL_act_40 : decode cL_act 40 = .ok (.istore 9, 2) := by decide +kernel
theorem dL_act_42 : decode cL_act 42 = .ok (.iload 8, 2) := by decide +kernel
theorem dL_act_44 : decode cL_act 44 = .ok (.sipush 1000, 3) := by decide +kernel
theorem dL_act_47 : decode cL_act 47 = .ok (.if_icmp .le 8, 3) := by decide +kernel
theorem dL_act_50 : decode cL_act 50 = .ok (.sipush 1000, 3) := by decide +kernel
theorem dL_act_53 : decode cL_act 53 = .ok (.istore 8, 2) := by decide +kernel
theorem dL_act_55 : decode cL_act 55 = .ok (.iload_n 1, 1) := by decide +kernel
theorem dL_act_56 : decode cL_act 56 = .ok (.iconst 4, 1) := by decide +kernel
theorem dL_act_57 : decode cL_act 57 = .ok (.if_icmp .lt 11, 3) := by decide +kernel
theorem dL_act_60 : decode cL_act 60 = .ok (.aload 6, 2) := by decide +kernel
theorem dL_act_62 : decode cL_act 62 = .ok (.iconst 0, 1) := by decide +kernel
theorem dL_act_63 : decode cL_act 63 = .ok (.iaload, 1) := by decide +kernel
theorem dL_act_64 : decode cL_act 64 = .ok (.iconst 3, 1) := by decide +kernel
theorem dL_act_65 : decode cL_act 65 = .ok (.if_icmp .ge 131, 3) := by decide +kernel
theorem dL_act_68 : decode cL_act 68 = .ok (.aload 6, 2) := by decide +kernel
theorem dL_act_70 : decode cL_act 70 = .ok (.iconst 0, 1) := by decide +kernel
theorem dL_act_71 : decode cL_act 71 = .ok (.iaload, 1) := by decide +kernel
theorem dL_act_72 : decode cL_act 72 = .ok (.bipush 8, 2) := by decide +kernel
theorem dL_act_74 : decode cL_act 74 = .ok (.if_icmp .ne 5, 3) := by decide +kernel
theorem dL_act_77 : decode cL_act 77 = .ok (.iconst 1, 1) := by decide +kernel
theorem dL_act_78 : decode cL_act 78 = .ok (.ireturn, 1) := by decide +kernel
theorem dL_act_79 : decode cL_act 79 = .ok (.iload_n 2, 1) := by decide +kernel
theorem dL_act_80 : decode cL_act 80 = .ok (.iconst 4, 1) := by decide +kernel
theorem dL_act_81 : decode cL_act 81 = .ok (.ishr, 1) := by decide +kernel
theorem dL_act_82 : decode cL_act 82 = .ok (.aload 6, 2) := by decide +kernel
theorem dL_act_84 : decode cL_act 84 = .ok (.iconst 0, 1) := by decide +kernel
theorem dL_act_85 : decode cL_act 85 = .ok (.iaload, 1) := by decide +kernel
theorem dL_act_86 : decode cL_act 86 = .ok (.iconst 1, 1) := by decide +kernel
theorem dL_act_87 : decode cL_act 87 = .ok (.iadd, 1) := by decide +kernel
theorem dL_act_88 : decode cL_act 88 = .ok (.invokestatic 64, 3) := by decide +kernel
theorem dL_act_91 : decode cL_act 91 = .ok (.istore 10, 2) := by decide +kernel
theorem dL_act_93 : decode cL_act 93 = .ok (.iconst 3, 1) := by decide +kernel
theorem dL_act_94 : decode cL_act 94 = .ok (.aload 6, 2) := by decide +kernel
theorem dL_act_96 : decode cL_act 96 = .ok (.iconst 0, 1) := by decide +kernel
theorem dL_act_97 : decode cL_act 97 = .ok (.iaload, 1) := by decide +kernel
theorem dL_act_98 : decode cL_act 98 = .ok (.imul, 1) := by decide +kernel
theorem dL_act_99 : decode cL_act 99 = .ok (.iconst 1, 1) := by decide +kernel
theorem dL_act_100 : decode cL_act 100 = .ok (.isub, 1) := by decide +kernel
theorem dL_act_101 : decode cL_act 101 = .ok (.istore 11, 2) := by decide +kernel
theorem dL_act_103 : decode cL_act 103 = .ok (.iload 11, 2) := by decide +kernel
theorem dL_act_105 : decode cL_act 105 = .ok (.iconst 3, 1) := by decide +kernel
theorem dL_act_106 : decode cL_act 106 = .ok (.iload 10, 2) := by decide +kernel
theorem dL_act_108 : decode cL_act 108 = .ok (.imul, 1) := by decide +kernel
theorem dL_act_109 : decode cL_act 109 = .ok (.if_icmp .lt 21, 3) := by decide +kernel
theorem dL_act_112 : decode cL_act 112 = .ok (.aload 5, 2) := by decide +kernel
theorem dL_act_114 : decode cL_act 114 = .ok (.iload 11, 2) := by decide +kernel
theorem dL_act_116 : decode cL_act 116 = .ok (.iconst 3, 1) := by decide +kernel
theorem dL_act_117 : decode cL_act 117 = .ok (.iadd, 1) := by decide +kernel
theorem dL_act_118 : decode cL_act 118 = .ok (.aload 5, 2) := by decide +kernel
theorem dL_act_120 : decode cL_act 120 = .ok (.iload 11, 2) := by decide +kernel
theorem dL_act_122 : decode cL_act 122 = .ok (.iaload, 1) := by decide +kernel
theorem dL_act_123 : decode cL_act 123 = .ok (.iastore, 1) := by decide +kernel
theorem dL_act_124 : decode cL_act 124 = .ok (.iinc 11 (-1), 3) := by decide +kernel
theorem dL_act_127 : decode cL_act 127 = .ok (.goto (-24), 3) := by decide +kernel
theorem dL_act_130 : decode cL_act 130 = .ok (.aload 5, 2) := by decide +kernel
theorem dL_act_132 : decode cL_act 132 = .ok (.iconst 3, 1) := by decide +kernel
theorem dL_act_133 : decode cL_act 133 = .ok (.iload 10, 2) := by decide +kernel
theorem dL_act_135 : decode cL_act 135 = .ok (.imul, 1) := by decide +kernel
theorem dL_act_136 : decode cL_act 136 = .ok (.iload 8, 2) := by decide +kernel
theorem dL_act_138 : decode cL_act 138 = .ok (.iastore, 1) := by decide +kernel
theorem dL_act_139 : decode cL_act 139 = .ok (.aload 5, 2) := by decide +kernel
theorem dL_act_141 : decode cL_act 141 = .ok (.iconst 3, 1) := by decide +kernel
theorem dL_act_142 : decode cL_act 142 = .ok (.iload 10, 2) := by decide +kernel
theorem dL_act_144 : decode cL_act 144 = .ok (.imul, 1) := by decide +kernel
theorem dL_act_145 : decode cL_act 145 = .ok (.iconst 1, 1) := by decide +kernel
theorem dL_act_146 : decode cL_act 146 = .ok (.iadd, 1) := by decide +kernel
theorem dL_act_147 : decode cL_act 147 = .ok (.iload 9, 2) := by decide +kernel
theorem dL_act_149 : decode cL_act 149 = .ok (.iastore, 1) := by decide +kernel
theorem dL_act_150 : decode cL_act 150 = .ok (.aload 5, 2) := by decide +kernel
theorem dL_act_152 : decode cL_act 152 = .ok (.iconst 3, 1) := by decide +kernel
theorem dL_act_153 : decode cL_act 153 = .ok (.iload 10, 2) := by decide +kernel
theorem dL_act_155 : decode cL_act 155 = .ok (.imul, 1) := by decide +kernel
theorem dL_act_156 : decode cL_act 156 = .ok (.iconst 2, 1) := by decide +kernel
theorem dL_act_157 : decode cL_act 157 = .ok (.iadd, 1) := by decide +kernel
theorem dL_act_158 : decode cL_act 158 = .ok (.iconst 0, 1) := by decide +kernel
theorem dL_act_159 : decode cL_act 159 = .ok (.iastore, 1) := by decide +kernel
theorem dL_act_160 : decode cL_act 160 = .ok (.aload 6, 2) := by decide +kernel
theorem dL_act_162 : decode cL_act 162 = .ok (.iconst 0, 1) := by decide +kernel
theorem dL_act_163 : decode cL_act 163 = .ok (.dup2, 1) := by decide +kernel
theorem dL_act_164 : decode cL_act 164 = .ok (.iaload, 1) := by decide +kernel
theorem dL_act_165 : decode cL_act 165 = .ok (.iconst 1, 1) := by decide +kernel
theorem dL_act_166 : decode cL_act 166 = .ok (.iadd, 1) := by decide +kernel
theorem dL_act_167 : decode cL_act 167 = .ok (.iastore, 1) := by decide +kernel
theorem dL_act_168 : decode cL_act 168 = .ok (.aload 6, 2) := by decide +kernel
theorem dL_act_170 : decode cL_act 170 = .ok (.iconst 1, 1) := by decide +kernel
theorem dL_act_171 : decode cL_act 171 = .ok (.iconst 0, 1) := by decide +kernel
theorem dL_act_172 : decode cL_act 172 = .ok (.iastore, 1) := by decide +kernel
theorem dL_act_173 : decode cL_act 173 = .ok (.aload_n 0, 1) := by decide +kernel
theorem dL_act_174 : decode cL_act 174 = .ok (.iload 10, 2) := by decide +kernel
theorem dL_act_176 : decode cL_act 176 = .ok (.iload 8, 2) := by decide +kernel
theorem dL_act_178 : decode cL_act 178 = .ok (.iload 9, 2) := by decide +kernel
theorem dL_act_180 : decode cL_act 180 = .ok (.invokevirtual 108, 3) := by decide +kernel
theorem dL_act_183 : decode cL_act 183 = .ok (.aload 6, 2) := by decide +kernel
theorem dL_act_185 : decode cL_act 185 = .ok (.iconst 0, 1) := by decide +kernel
theorem dL_act_186 : decode cL_act 186 = .ok (.iaload, 1) := by decide +kernel
theorem dL_act_187 : decode cL_act 187 = .ok (.if_icmp .ne 7, 3) := by decide +kernel
theorem dL_act_190 : decode cL_act 190 = .ok (.iconst 1, 1) := by decide +kernel
theorem dL_act_191 : decode cL_act 191 = .ok (.goto 4, 3) := by decide +kernel
theorem dL_act_194 : decode cL_act 194 = .ok (.iconst 0, 1) := by decide +kernel
theorem dL_act_195 : decode cL_act 195 = .ok (.ireturn, 1) := by decide +kernel
theorem dL_act_196 : decode cL_act 196 = .ok (.iload_n 2, 1) := by decide +kernel
theorem dL_act_197 : decode cL_act 197 = .ok (.iconst 4, 1) := by decide +kernel
theorem dL_act_198 : decode cL_act 198 = .ok (.ishr, 1) := by decide +kernel
theorem dL_act_199 : decode cL_act 199 = .ok (.aload 6, 2) := by decide +kernel
theorem dL_act_201 : decode cL_act 201 = .ok (.iconst 0, 1) := by decide +kernel
theorem dL_act_202 : decode cL_act 202 = .ok (.iaload, 1) := by decide +kernel
theorem dL_act_203 : decode cL_act 203 = .ok (.invokestatic 64, 3) := by decide +kernel
theorem dL_act_206 : decode cL_act 206 = .ok (.istore 10, 2) := by decide +kernel
theorem dL_act_208 : decode cL_act 208 = .ok (.aload 6, 2) := by decide +kernel
theorem dL_act_210 : decode cL_act 210 = .ok (.iconst 1, 1) := by decide +kernel
theorem dL_act_211 : decode cL_act 211 = .ok (.iaload, 1) := by decide +kernel
theorem dL_act_212 : decode cL_act 212 = .ok (.istore 11, 2) := by decide +kernel
theorem dL_act_214 : decode cL_act 214 = .ok (.iload_n 1, 1) := by decide +kernel
theorem dL_act_215 : decode cL_act 215 = .ok (.bipush 9, 2) := by decide +kernel
theorem dL_act_217 : decode cL_act 217 = .ok (.if_icmp .ge 184, 3) := by decide +kernel
theorem dL_act_220 : decode cL_act 220 = .ok (.iload_n 3, 1) := by decide +kernel
theorem dL_act_221 : decode cL_act 221 = .ok (.iconst 5, 1) := by decide +kernel
theorem dL_act_222 : decode cL_act 222 = .ok (.ishr, 1) := by decide +kernel
theorem dL_act_223 : decode cL_act 223 = .ok (.iconst 2, 1) := by decide +kernel
theorem dL_act_224 : decode cL_act 224 = .ok (.invokestatic 64, 3) := by decide +kernel
theorem dL_act_227 : decode cL_act 227 = .ok (.ifCond .ne 7, 3) := by decide +kernel
theorem dL_act_230 : decode cL_act 230 = .ok (.iconst 1, 1) := by decide +kernel
theorem dL_act_231 : decode cL_act 231 = .ok (.goto 4, 3) := by decide +kernel
theorem dL_act_234 : decode cL_act 234 = .ok (.iconst 0, 1) := by decide +kernel
theorem dL_act_235 : decode cL_act 235 = .ok (.istore 12, 2) := by decide +kernel
theorem dL_act_237 : decode cL_act 237 = .ok (.aload 4, 2) := by decide +kernel
theorem dL_act_239 : decode cL_act 239 = .ok (.aload 5, 2) := by decide +kernel
theorem dL_act_241 : decode cL_act 241 = .ok (.aload 6, 2) := by decide +kernel
theorem dL_act_243 : decode cL_act 243 = .ok (.aload 7, 2) := by decide +kernel
theorem dL_act_245 : decode cL_act 245 = .ok (.invokestatic 76, 3) := by decide +kernel
theorem dL_act_248 : decode cL_act 248 = .ok (.ifCond .le 5, 3) := by decide +kernel
theorem dL_act_251 : decode cL_act 251 = .ok (.iconst 1, 1) := by decide +kernel
theorem dL_act_252 : decode cL_act 252 = .ok (.ireturn, 1) := by decide +kernel
theorem dL_act_253 : decode cL_act 253 = .ok (.iload 10, 2) := by decide +kernel
theorem dL_act_255 : decode cL_act 255 = .ok (.iload 12, 2) := by decide +kernel
theorem dL_act_257 : decode cL_act 257 = .ok (.aload 4, 2) := by decide +kernel
theorem dL_act_259 : decode cL_act 259 = .ok (.aload 5, 2) := by decide +kernel
theorem dL_act_261 : decode cL_act 261 = .ok (.aload 6, 2) := by decide +kernel
theorem dL_act_263 : decode cL_act 263 = .ok (.aload 7, 2) := by decide +kernel
theorem dL_act_265 : decode cL_act 265 = .ok (.invokestatic 100, 3) := by decide +kernel
theorem dL_act_268 : decode cL_act 268 = .ok (.lstore 13, 2) := by decide +kernel
theorem dL_act_270 : decode cL_act 270 = .ok (.aload 6, 2) := by decide +kernel
theorem dL_act_272 : decode cL_act 272 = .ok (.iconst 1, 1) := by decide +kernel
theorem dL_act_273 : decode cL_act 273 = .ok (.dup2, 1) := by decide +kernel
theorem dL_act_274 : decode cL_act 274 = .ok (.iaload, 1) := by decide +kernel
theorem dL_act_275 : decode cL_act 275 = .ok (.iconst 1, 1) := by decide +kernel
theorem dL_act_276 : decode cL_act 276 = .ok (.iadd, 1) := by decide +kernel
theorem dL_act_277 : decode cL_act 277 = .ok (.iastore, 1) := by decide +kernel
theorem dL_act_278 : decode cL_act 278 = .ok (.aload_n 0, 1) := by decide +kernel
theorem dL_act_279 : decode cL_act 279 = .ok (.iload 10, 2) := by decide +kernel
theorem dL_act_281 : decode cL_act 281 = .ok (.iload 12, 2) := by decide +kernel
theorem dL_act_283 : decode cL_act 283 = .ok (.invokevirtual 112, 3) := by decide +kernel
theorem dL_act_286 : decode cL_act 286 = .ok (.iload 11, 2) := by decide +kernel
theorem dL_act_288 : decode cL_act 288 = .ok (.if_icmp .ne 10, 3) := by decide +kernel
theorem dL_act_291 : decode cL_act 291 = .ok (.aload_n 0, 1) := by decide +kernel
theorem dL_act_292 : decode cL_act 292 = .ok (.invokevirtual 115, 3) := by decide +kernel
theorem dL_act_295 : decode cL_act 295 = .ok (.ifCond .eq 5, 3) := by decide +kernel
theorem dL_act_298 : decode cL_act 298 = .ok (.iconst 0, 1) := by decide +kernel
theorem dL_act_299 : decode cL_act 299 = .ok (.ireturn, 1) := by decide +kernel
theorem dL_act_300 : decode cL_act 300 = .ok (.aload_n 0, 1) := by decide +kernel
theorem dL_act_301 : decode cL_act 301 = .ok (.iload 11, 2) := by decide +kernel
theorem dL_act_303 : decode cL_act 303 = .ok (.iconst 0, 1) := by decide +kernel
theorem dL_act_304 : decode cL_act 304 = .ok (.invokevirtual 118, 3) := by decide +kernel
theorem dL_act_307 : decode cL_act 307 = .ok (.iload 10, 2) := by decide +kernel
theorem dL_act_309 : decode cL_act 309 = .ok (.i2l, 1) := by decide +kernel
theorem dL_act_310 : decode cL_act 310 = .ok (.lcmp, 1) := by decide +kernel
theorem dL_act_311 : decode cL_act 311 = .ok (.ifCond .ne 88, 3) := by decide +kernel
theorem dL_act_314 : decode cL_act 314 = .ok (.aload_n 0, 1) := by decide +kernel
theorem dL_act_315 : decode cL_act 315 = .ok (.iload 11, 2) := by decide +kernel
theorem dL_act_317 : decode cL_act 317 = .ok (.iconst 1, 1) := by decide +kernel
theorem dL_act_318 : decode cL_act 318 = .ok (.invokevirtual 118, 3) := by decide +kernel
theorem dL_act_321 : decode cL_act 321 = .ok (.iload 12, 2) := by decide +kernel
theorem dL_act_323 : decode cL_act 323 = .ok (.ifCond .eq 7, 3) := by decide +kernel
theorem dL_act_326 : decode cL_act 326 = .ok (.lconst 1, 1) := by decide +kernel
theorem dL_act_327 : decode cL_act 327 = .ok (.goto 4, 3) := by decide +kernel
theorem dL_act_330 : decode cL_act 330 = .ok (.lconst 0, 1) := by decide +kernel
theorem dL_act_331 : decode cL_act 331 = .ok (.lcmp, 1) := by decide +kernel
theorem dL_act_332 : decode cL_act 332 = .ok (.ifCond .ne 67, 3) := by decide +kernel
theorem dL_act_335 : decode cL_act 335 = .ok (.aload_n 0, 1) := by decide +kernel
theorem dL_act_336 : decode cL_act 336 = .ok (.iload 11, 2) := by decide +kernel
theorem dL_act_338 : decode cL_act 338 = .ok (.iconst 2, 1) := by decide +kernel
theorem dL_act_339 : decode cL_act 339 = .ok (.invokevirtual 118, 3) := by decide +kernel
theorem dL_act_342 : decode cL_act 342 = .ok (.lload 13, 2) := by decide +kernel
theorem dL_act_344 : decode cL_act 344 = .ok (.lcmp, 1) := by decide +kernel
theorem dL_act_345 : decode cL_act 345 = .ok (.ifCond .ne 54, 3) := by decide +kernel
theorem dL_act_348 : decode cL_act 348 = .ok (.aload_n 0, 1) := by decide +kernel
theorem dL_act_349 : decode cL_act 349 = .ok (.iload 11, 2) := by decide +kernel
theorem dL_act_351 : decode cL_act 351 = .ok (.iconst 3, 1) := by decide +kernel
theorem dL_act_352 : decode cL_act 352 = .ok (.invokevirtual 118, 3) := by decide +kernel
theorem dL_act_355 : decode cL_act 355 = .ok (.lload 13, 2) := by decide +kernel
theorem dL_act_357 : decode cL_act 357 = .ok (.ldc2_w 49, 3) := by decide +kernel
theorem dL_act_360 : decode cL_act 360 = .ok (.aload 4, 2) := by decide +kernel
theorem dL_act_362 : decode cL_act 362 = .ok (.iconst 1, 1) := by decide +kernel
theorem dL_act_363 : decode cL_act 363 = .ok (.iaload, 1) := by decide +kernel
theorem dL_act_364 : decode cL_act 364 = .ok (.i2l, 1) := by decide +kernel
theorem dL_act_365 : decode cL_act 365 = .ok (.lmul, 1) := by decide +kernel
theorem dL_act_366 : decode cL_act 366 = .ok (.ldiv, 1) := by decide +kernel
theorem dL_act_367 : decode cL_act 367 = .ok (.lcmp, 1) := by decide +kernel
theorem dL_act_368 : decode cL_act 368 = .ok (.ifCond .ne 31, 3) := by decide +kernel
theorem dL_act_371 : decode cL_act 371 = .ok (.aload_n 0, 1) := by decide +kernel
theorem dL_act_372 : decode cL_act 372 = .ok (.iload 11, 2) := by decide +kernel
theorem dL_act_374 : decode cL_act 374 = .ok (.iconst 4, 1) := by decide +kernel
theorem dL_act_375 : decode cL_act 375 = .ok (.invokevirtual 118, 3) := by decide +kernel
theorem dL_act_378 : decode cL_act 378 = .ok (.lload 13, 2) := by decide +kernel
theorem dL_act_380 : decode cL_act 380 = .ok (.ldc2_w 49, 3) := by decide +kernel
theorem dL_act_383 : decode cL_act 383 = .ok (.ldiv, 1) := by decide +kernel
theorem dL_act_384 : decode cL_act 384 = .ok (.aload_n 0, 1) := by decide +kernel
theorem dL_act_385 : decode cL_act 385 = .ok (.bipush 8, 2) := by decide +kernel
theorem dL_act_387 : decode cL_act 387 = .ok (.invokevirtual 83, 3) := by decide +kernel
theorem dL_act_390 : decode cL_act 390 = .ok (.ladd, 1) := by decide +kernel
theorem dL_act_391 : decode cL_act 391 = .ok (.lcmp, 1) := by decide +kernel
theorem dL_act_392 : decode cL_act 392 = .ok (.ifCond .ne 7, 3) := by decide +kernel
theorem dL_act_395 : decode cL_act 395 = .ok (.iconst 1, 1) := by decide +kernel
theorem dL_act_396 : decode cL_act 396 = .ok (.goto 4, 3) := by decide +kernel
theorem dL_act_399 : decode cL_act 399 = .ok (.iconst 0, 1) := by decide +kernel
theorem dL_act_400 : decode cL_act 400 = .ok (.ireturn, 1) := by decide +kernel
theorem dL_act_401 : decode cL_act 401 = .ok (.iload_n 1, 1) := by decide +kernel
theorem dL_act_402 : decode cL_act 402 = .ok (.bipush 9, 2) := by decide +kernel
theorem dL_act_404 : decode cL_act 404 = .ok (.if_icmp .ne 55, 3) := by decide +kernel
theorem dL_act_407 : decode cL_act 407 = .ok (.aload 5, 2) := by decide +kernel
theorem dL_act_409 : decode cL_act 409 = .ok (.iconst 3, 1) := by decide +kernel
theorem dL_act_410 : decode cL_act 410 = .ok (.iload 10, 2) := by decide +kernel
theorem dL_act_412 : decode cL_act 412 = .ok (.imul, 1) := by decide +kernel
theorem dL_act_413 : decode cL_act 413 = .ok (.iconst 2, 1) := by decide +kernel
theorem dL_act_414 : decode cL_act 414 = .ok (.iadd, 1) := by decide +kernel
theorem dL_act_415 : decode cL_act 415 = .ok (.iaload, 1) := by decide +kernel
theorem dL_act_416 : decode cL_act 416 = .ok (.istore 12, 2) := by decide +kernel
theorem dL_act_418 : decode cL_act 418 = .ok (.aload 5, 2) := by decide +kernel
theorem dL_act_420 : decode cL_act 420 = .ok (.iconst 3, 1) := by decide +kernel
theorem dL_act_421 : decode cL_act 421 = .ok (.iload 10, 2) := by decide +kernel
theorem dL_act_423 : decode cL_act 423 = .ok (.imul, 1) := by decide +kernel
theorem dL_act_424 : decode cL_act 424 = .ok (.iconst 2, 1) := by decide +kernel
theorem dL_act_425 : decode cL_act 425 = .ok (.iadd, 1) := by decide +kernel
theorem dL_act_426 : decode cL_act 426 = .ok (.iload_n 3, 1) := by decide +kernel
theorem dL_act_427 : decode cL_act 427 = .ok (.bipush 101, 2) := by decide +kernel
theorem dL_act_429 : decode cL_act 429 = .ok (.invokestatic 64, 3) := by decide +kernel
theorem dL_act_432 : decode cL_act 432 = .ok (.iastore, 1) := by decide +kernel
theorem dL_act_433 : decode cL_act 433 = .ok (.aload_n 0, 1) := by decide +kernel
theorem dL_act_434 : decode cL_act 434 = .ok (.iload 10, 2) := by decide +kernel
theorem dL_act_436 : decode cL_act 436 = .ok (.aload 5, 2) := by decide +kernel
theorem dL_act_438 : decode cL_act 438 = .ok (.iconst 3, 1) := by decide +kernel
theorem dL_act_439 : decode cL_act 439 = .ok (.iload 10, 2) := by decide +kernel
theorem dL_act_441 : decode cL_act 441 = .ok (.imul, 1) := by decide +kernel
theorem dL_act_442 : decode cL_act 442 = .ok (.iconst 2, 1) := by decide +kernel
theorem dL_act_443 : decode cL_act 443 = .ok (.iadd, 1) := by decide +kernel
theorem dL_act_444 : decode cL_act 444 = .ok (.iaload, 1) := by decide +kernel
theorem dL_act_445 : decode cL_act 445 = .ok (.invokevirtual 121, 3) := by decide +kernel
theorem dL_act_448 : decode cL_act 448 = .ok (.iload 12, 2) := by decide +kernel
theorem dL_act_450 : decode cL_act 450 = .ok (.if_icmp .ne 7, 3) := by decide +kernel
theorem dL_act_453 : decode cL_act 453 = .ok (.iconst 1, 1) := by decide +kernel
theorem dL_act_454 : decode cL_act 454 = .ok (.goto 4, 3) := by decide +kernel
theorem dL_act_457 : decode cL_act 457 = .ok (.iconst 0, 1) := by decide +kernel
theorem dL_act_458 : decode cL_act 458 = .ok (.ireturn, 1) := by decide +kernel
theorem dL_act_459 : decode cL_act 459 = .ok (.aload 6, 2) := by decide +kernel
theorem dL_act_461 : decode cL_act 461 = .ok (.iconst 1, 1) := by decide +kernel
theorem dL_act_462 : decode cL_act 462 = .ok (.iconst 0, 1) := by decide +kernel
theorem dL_act_463 : decode cL_act 463 = .ok (.iastore, 1) := by decide +kernel
theorem dL_act_464 : decode cL_act 464 = .ok (.iload_n 1, 1) := by decide +kernel
theorem dL_act_465 : decode cL_act 465 = .ok (.bipush 10, 2) := by decide +kernel
theorem dL_act_467 : decode cL_act 467 = .ok (.if_icmp .ne 44, 3) := by decide +kernel
theorem dL_act_470 : decode cL_act 470 = .ok (.aload 5, 2) := by decide +kernel
theorem dL_act_472 : decode cL_act 472 = .ok (.iconst 3, 1) := by decide +kernel
theorem dL_act_473 : decode cL_act 473 = .ok (.iload 10, 2) := by decide +kernel
theorem dL_act_475 : decode cL_act 475 = .ok (.imul, 1) := by decide +kernel
theorem dL_act_476 : decode cL_act 476 = .ok (.iload 8, 2) := by decide +kernel
theorem dL_act_478 : decode cL_act 478 = .ok (.iastore, 1) := by decide +kernel
theorem dL_act_479 : decode cL_act 479 = .ok (.aload 5, 2) := by decide +kernel
theorem dL_act_481 : decode cL_act 481 = .ok (.iconst 3, 1) := by decide +kernel
theorem dL_act_482 : decode cL_act 482 = .ok (.iload 10, 2) := by decide +kernel
theorem dL_act_484 : decode cL_act 484 = .ok (.imul, 1) := by decide +kernel
theorem dL_act_485 : decode cL_act 485 = .ok (.iconst 1, 1) := by decide +kernel
theorem dL_act_486 : decode cL_act 486 = .ok (.iadd, 1) := by decide +kernel
theorem dL_act_487 : decode cL_act 487 = .ok (.iload 9, 2) := by decide +kernel
theorem dL_act_489 : decode cL_act 489 = .ok (.iastore, 1) := by decide +kernel
theorem dL_act_490 : decode cL_act 490 = .ok (.aload_n 0, 1) := by decide +kernel
theorem dL_act_491 : decode cL_act 491 = .ok (.iload 10, 2) := by decide +kernel
theorem dL_act_493 : decode cL_act 493 = .ok (.iload 8, 2) := by decide +kernel
theorem dL_act_495 : decode cL_act 495 = .ok (.iload 9, 2) := by decide +kernel
theorem dL_act_497 : decode cL_act 497 = .ok (.invokevirtual 124, 3) := by decide +kernel
theorem dL_act_500 : decode cL_act 500 = .ok (.iload 11, 2) := by decide +kernel
theorem dL_act_502 : decode cL_act 502 = .ok (.if_icmp .ne 7, 3) := by decide +kernel
theorem dL_act_505 : decode cL_act 505 = .ok (.iconst 1, 1) := by decide +kernel
theorem dL_act_506 : decode cL_act 506 = .ok (.goto 4, 3) := by decide +kernel
theorem dL_act_509 : decode cL_act 509 = .ok (.iconst 0, 1) := by decide +kernel
theorem dL_act_510 : decode cL_act 510 = .ok (.ireturn, 1) := by decide +kernel
theorem dL_act_511 : decode cL_act 511 = .ok (.iload_n 1, 1) := by decide +kernel
theorem dL_act_512 : decode cL_act 512 = .ok (.bipush 11, 2) := by decide +kernel
theorem dL_act_514 : decode cL_act 514 = .ok (.if_icmp .ne 65, 3) := by decide +kernel
theorem dL_act_517 : decode cL_act 517 = .ok (.aload 6, 2) := by decide +kernel
theorem dL_act_519 : decode cL_act 519 = .ok (.iconst 0, 1) := by decide +kernel
theorem dL_act_520 : decode cL_act 520 = .ok (.dup2, 1) := by decide +kernel
theorem dL_act_521 : decode cL_act 521 = .ok (.iaload, 1) := by decide +kernel
theorem dL_act_522 : decode cL_act 522 = .ok (.iconst 1, 1) := by decide +kernel
theorem dL_act_523 : decode cL_act 523 = .ok (.isub, 1) := by decide +kernel
theorem dL_act_524 : decode cL_act 524 = .ok (.iastore, 1) := by decide +kernel
theorem dL_act_525 : decode cL_act 525 = .ok (.iconst 3, 1) := by decide +kernel
theorem dL_act_526 : decode cL_act 526 = .ok (.iload 10, 2) := by decide +kernel
theorem dL_act_528 : decode cL_act 528 = .ok (.imul, 1) := by decide +kernel
theorem dL_act_529 : decode cL_act 529 = .ok (.istore 12, 2) := by decide +kernel
theorem dL_act_531 : decode cL_act 531 = .ok (.iload 12, 2) := by decide +kernel
theorem dL_act_533 : decode cL_act 533 = .ok (.iconst 3, 1) := by decide +kernel
theorem dL_act_534 : decode cL_act 534 = .ok (.aload 6, 2) := by decide +kernel
theorem dL_act_536 : decode cL_act 536 = .ok (.iconst 0, 1) := by decide +kernel
theorem dL_act_537 : decode cL_act 537 = .ok (.iaload, 1) := by decide +kernel
theorem dL_act_538 : decode cL_act 538 = .ok (.imul, 1) := by decide +kernel
theorem dL_act_539 : decode cL_act 539 = .ok (.if_icmp .ge 21, 3) := by decide +kernel
theorem dL_act_542 : decode cL_act 542 = .ok (.aload 5, 2) := by decide +kernel
theorem dL_act_544 : decode cL_act 544 = .ok (.iload 12, 2) := by decide +kernel
theorem dL_act_546 : decode cL_act 546 = .ok (.aload 5, 2) := by decide +kernel
theorem dL_act_548 : decode cL_act 548 = .ok (.iload 12, 2) := by decide +kernel
theorem dL_act_550 : decode cL_act 550 = .ok (.iconst 3, 1) := by decide +kernel
theorem dL_act_551 : decode cL_act 551 = .ok (.iadd, 1) := by decide +kernel
theorem dL_act_552 : decode cL_act 552 = .ok (.iaload, 1) := by decide +kernel
theorem dL_act_553 : decode cL_act 553 = .ok (.iastore, 1) := by decide +kernel
theorem dL_act_554 : decode cL_act 554 = .ok (.iinc 12 1, 3) := by decide +kernel
theorem dL_act_557 : decode cL_act 557 = .ok (.goto (-26), 3) := by decide +kernel
theorem dL_act_560 : decode cL_act 560 = .ok (.aload_n 0, 1) := by decide +kernel
theorem dL_act_561 : decode cL_act 561 = .ok (.iload 10, 2) := by decide +kernel
theorem dL_act_563 : decode cL_act 563 = .ok (.invokevirtual 127, 3) := by decide +kernel
theorem dL_act_566 : decode cL_act 566 = .ok (.aload 6, 2) := by decide +kernel
theorem dL_act_568 : decode cL_act 568 = .ok (.iconst 0, 1) := by decide +kernel
theorem dL_act_569 : decode cL_act 569 = .ok (.iaload, 1) := by decide +kernel
theorem dL_act_570 : decode cL_act 570 = .ok (.if_icmp .ne 7, 3) := by decide +kernel
theorem dL_act_573 : decode cL_act 573 = .ok (.iconst 1, 1) := by decide +kernel
theorem dL_act_574 : decode cL_act 574 = .ok (.goto 4, 3) := by decide +kernel
theorem dL_act_577 : decode cL_act 577 = .ok (.iconst 0, 1) := by decide +kernel
theorem dL_act_578 : decode cL_act 578 = .ok (.ireturn, 1) := by decide +kernel
theorem dL_act_579 : decode cL_act 579 = .ok (.iload_n 1, 1) := by decide +kernel
theorem dL_act_580 : decode cL_act 580 = .ok (.bipush 12, 2) := by decide +kernel
theorem dL_act_582 : decode cL_act 582 = .ok (.if_icmp .ne 62, 3) := by decide +kernel
theorem dL_act_585 : decode cL_act 585 = .ok (.aload 4, 2) := by decide +kernel
theorem dL_act_587 : decode cL_act 587 = .ok (.iconst 5, 1) := by decide +kernel
theorem dL_act_588 : decode cL_act 588 = .ok (.iload_n 2, 1) := by decide +kernel
theorem dL_act_589 : decode cL_act 589 = .ok (.iconst 2, 1) := by decide +kernel
theorem dL_act_590 : decode cL_act 590 = .ok (.ishr, 1) := by decide +kernel
theorem dL_act_591 : decode cL_act 591 = .ok (.sipush 1401, 3) := by decide +kernel
theorem dL_act_594 : decode cL_act 594 = .ok (.invokestatic 64, 3) := by decide +kernel
theorem dL_act_597 : decode cL_act 597 = .ok (.sipush 700, 3) := by decide +kernel
theorem dL_act_600 : decode cL_act 600 = .ok (.isub, 1) := by decide +kernel
theorem dL_act_601 : decode cL_act 601 = .ok (.iastore, 1) := by decide +kernel
theorem dL_act_602 : decode cL_act 602 = .ok (.aload 4, 2) := by decide +kernel
theorem dL_act_604 : decode cL_act 604 = .ok (.bipush 6, 2) := by decide +kernel
theorem dL_act_606 : decode cL_act 606 = .ok (.iload_n 3, 1) := by decide +kernel
theorem dL_act_607 : decode cL_act 607 = .ok (.iconst 2, 1) := by decide +kernel
theorem dL_act_608 : decode cL_act 608 = .ok (.ishr, 1) := by decide +kernel
theorem dL_act_609 : decode cL_act 609 = .ok (.sipush 1401, 3) := by decide +kernel
theorem dL_act_612 : decode cL_act 612 = .ok (.invokestatic 64, 3) := by decide +kernel
theorem dL_act_615 : decode cL_act 615 = .ok (.sipush 700, 3) := by decide +kernel
theorem dL_act_618 : decode cL_act 618 = .ok (.isub, 1) := by decide +kernel
theorem dL_act_619 : decode cL_act 619 = .ok (.iastore, 1) := by decide +kernel
theorem dL_act_620 : decode cL_act 620 = .ok (.aload_n 0, 1) := by decide +kernel
theorem dL_act_621 : decode cL_act 621 = .ok (.aload 4, 2) := by decide +kernel
theorem dL_act_623 : decode cL_act 623 = .ok (.iconst 5, 1) := by decide +kernel
theorem dL_act_624 : decode cL_act 624 = .ok (.iaload, 1) := by decide +kernel
theorem dL_act_625 : decode cL_act 625 = .ok (.aload 4, 2) := by decide +kernel
theorem dL_act_627 : decode cL_act 627 = .ok (.bipush 6, 2) := by decide +kernel
theorem dL_act_629 : decode cL_act 629 = .ok (.iaload, 1) := by decide +kernel
theorem dL_act_630 : decode cL_act 630 = .ok (.invokevirtual 130, 3) := by decide +kernel
theorem dL_act_633 : decode cL_act 633 = .ok (.iload 11, 2) := by decide +kernel
theorem dL_act_635 : decode cL_act 635 = .ok (.if_icmp .ne 7, 3) := by decide +kernel
theorem dL_act_638 : decode cL_act 638 = .ok (.iconst 1, 1) := by decide +kernel
theorem dL_act_639 : decode cL_act 639 = .ok (.goto 4, 3) := by decide +kernel
theorem dL_act_642 : decode cL_act 642 = .ok (.iconst 0, 1) := by decide +kernel
theorem dL_act_643 : decode cL_act 643 = .ok (.ireturn, 1) := by decide +kernel
theorem dL_act_644 : decode cL_act 644 = .ok (.iload_n 2, 1) := by decide +kernel
theorem dL_act_645 : decode cL_act 645 = .ok (.iconst 5, 1) := by decide +kernel
theorem dL_act_646 : decode cL_act 646 = .ok (.invokestatic 64, 3) := by decide +kernel
theorem dL_act_649 : decode cL_act 649 = .ok (.istore 12, 2) := by decide +kernel
theorem dL_act_651 : decode cL_act 651 = .ok (.aload 4, 2) := by decide +kernel
theorem dL_act_653 : decode cL_act 653 = .ok (.iload 12, 2) := by decide +kernel
theorem dL_act_655 : decode cL_act 655 = .ok (.iaload, 1) := by decide +kernel
theorem dL_act_656 : decode cL_act 656 = .ok (.istore 13, 2) := by decide +kernel
theorem dL_act_658 : decode cL_act 658 = .ok (.aload 4, 2) := by decide +kernel
theorem dL_act_660 : decode cL_act 660 = .ok (.iload 12, 2) := by decide +kernel
theorem dL_act_662 : decode cL_act 662 = .ok (.iload 12, 2) := by decide +kernel
theorem dL_act_664 : decode cL_act 664 = .ok (.iload_n 3, 1) := by decide +kernel
theorem dL_act_665 : decode cL_act 665 = .ok (.invokestatic 97, 3) := by decide +kernel
theorem dL_act_668 : decode cL_act 668 = .ok (.iastore, 1) := by decide +kernel
theorem dL_act_669 : decode cL_act 669 = .ok (.aload_n 0, 1) := by decide +kernel
theorem dL_act_670 : decode cL_act 670 = .ok (.iload 12, 2) := by decide +kernel
theorem dL_act_672 : decode cL_act 672 = .ok (.aload 4, 2) := by decide +kernel
theorem dL_act_674 : decode cL_act 674 = .ok (.iload 12, 2) := by decide +kernel
theorem dL_act_676 : decode cL_act 676 = .ok (.iaload, 1) := by decide +kernel
theorem dL_act_677 : decode cL_act 677 = .ok (.invokevirtual 133, 3) := by decide +kernel
theorem dL_act_680 : decode cL_act 680 = .ok (.iload 13, 2) := by decide +kernel
theorem dL_act_682 : decode cL_act 682 = .ok (.if_icmp .ne 7, 3) := by decide +kernel
theorem dL_act_685 : decode cL_act 685 = .ok (.iconst 1, 1) := by decide +kernel
theorem dL_act_686 : decode cL_act 686 = .ok (.goto 4, 3) := by decide +kernel
theorem dL_act_689 : decode cL_act 689 = .ok (.iconst 0, 1) := by decide +kernel
theorem dL_act_690 : decode cL_act 690 = .ok (.ireturn, 1) := by decide +kernel
theorem dL_law_0 : decode cL_law 0 = .ok (.new 58, 3) := by decide +kernel
theorem dL_law_3 : decode cL_law 3 = .ok (.dup, 1) := by decide +kernel
theorem dL_law_4 : decode cL_law 4 = .ok (.invokespecial 136, 3) := by decide +kernel
theorem dL_law_7 : decode cL_law 7 = .ok (.astore_n 1, 1) := by decide +kernel
theorem dL_law_8 : decode cL_law 8 = .ok (.bipush 7, 2) := by decide +kernel
theorem dL_law_10 : decode cL_law 10 = .ok (.newarray .int, 2) := by decide +kernel
theorem dL_law_12 : decode cL_law 12 = .ok (.astore_n 2, 1) := by decide +kernel
theorem dL_law_13 : decode cL_law 13 = .ok (.bipush 27, 2) := by decide +kernel
theorem dL_law_15 : decode cL_law 15 = .ok (.newarray .int, 2) := by decide +kernel
theorem dL_law_17 : decode cL_law 17 = .ok (.astore_n 3, 1) := by decide +kernel
theorem dL_law_18 : decode cL_law 18 = .ok (.iconst 2, 1) := by decide +kernel
theorem dL_law_19 : decode cL_law 19 = .ok (.newarray .int, 2) := by decide +kernel
theorem dL_law_21 : decode cL_law 21 = .ok (.astore 4, 2) := by decide +kernel
theorem dL_law_23 : decode cL_law 23 = .ok (.iconst 3, 1) := by decide +kernel
theorem dL_law_24 : decode cL_law 24 = .ok (.newarray .long, 2) := by decide +kernel
theorem dL_law_26 : decode cL_law 26 = .ok (.astore 5, 2) := by decide +kernel
theorem dL_law_28 : decode cL_law 28 = .ok (.aload_n 2, 1) := by decide +kernel
theorem dL_law_29 : decode cL_law 29 = .ok (.iconst 0, 1) := by decide +kernel
theorem dL_law_30 : decode cL_law 30 = .ok (.sipush 1200, 3) := by decide +kernel
theorem dL_law_33 : decode cL_law 33 = .ok (.iastore, 1) := by decide +kernel
theorem dL_law_34 : decode cL_law 34 = .ok (.aload_n 2, 1) := by decide +kernel
theorem dL_law_35 : decode cL_law 35 = .ok (.iconst 1, 1) := by decide +kernel
theorem dL_law_36 : decode cL_law 36 = .ok (.sipush 1000, 3) := by decide +kernel
theorem dL_law_39 : decode cL_law 39 = .ok (.iastore, 1) := by decide +kernel
theorem dL_law_40 : decode cL_law 40 = .ok (.aload_n 2, 1) := by decide +kernel
theorem dL_law_41 : decode cL_law 41 = .ok (.iconst 2, 1) := by decide +kernel
theorem dL_law_42 : decode cL_law 42 = .ok (.bipush 50, 2) := by decide +kernel
theorem dL_law_44 : decode cL_law 44 = .ok (.iastore, 1) := by decide +kernel
theorem dL_law_45 : decode cL_law 45 = .ok (.aload_n 2, 1) := by decide +kernel
theorem dL_law_46 : decode cL_law 46 = .ok (.iconst 4, 1) := by decide +kernel
theorem dL_law_47 : decode cL_law 47 = .ok (.bipush 50, 2) := by decide +kernel
theorem dL_law_49 : decode cL_law 49 = .ok (.iastore, 1) := by decide +kernel
theorem dL_law_50 : decode cL_law 50 = .ok (.aload_n 1, 1) := by decide +kernel
theorem dL_law_51 : decode cL_law 51 = .ok (.iconst 5, 1) := by decide +kernel
theorem dL_law_52 : decode cL_law 52 = .ok (.aload_n 2, 1) := by decide +kernel
theorem dL_law_53 : decode cL_law 53 = .ok (.aload_n 3, 1) := by decide +kernel
theorem dL_law_54 : decode cL_law 54 = .ok (.aload 4, 2) := by decide +kernel
theorem dL_law_56 : decode cL_law 56 = .ok (.aload 5, 2) := by decide +kernel
theorem dL_law_58 : decode cL_law 58 = .ok (.invokestatic 137, 3) := by decide +kernel
theorem dL_law_61 : decode cL_law 61 = .ok (.ifCond .eq 24, 3) := by decide +kernel
theorem dL_law_64 : decode cL_law 64 = .ok (.aload_n 1, 1) := by decide +kernel
theorem dL_law_65 : decode cL_law 65 = .ok (.iconst 4, 1) := by decide +kernel
theorem dL_law_66 : decode cL_law 66 = .ok (.invokevirtual 83, 3) := by decide +kernel
theorem dL_law_69 : decode cL_law 69 = .ok (.ldc2_w 141, 3) := by decide +kernel
theorem dL_law_72 : decode cL_law 72 = .ok (.lcmp, 1) := by decide +kernel
theorem dL_law_73 : decode cL_law 73 = .ok (.ifCond .ne 12, 3) := by decide +kernel
theorem dL_law_76 : decode cL_law 76 = .ok (.aload_n 1, 1) := by decide +kernel
theorem dL_law_77 : decode cL_law 77 = .ok (.invokevirtual 143, 3) := by decide +kernel
theorem dL_law_80 : decode cL_law 80 = .ok (.dconst 0, 1) := by decide +kernel
theorem dL_law_81 : decode cL_law 81 = .ok (.dcmp .l, 1) := by decide +kernel
theorem dL_law_82 : decode cL_law 82 = .ok (.ifCond .eq 5, 3) := by decide +kernel
theorem dL_law_85 : decode cL_law 85 = .ok (.iconst 0, 1) := by decide +kernel
theorem dL_law_86 : decode cL_law 86 = .ok (.ireturn, 1) := by decide +kernel
theorem dL_law_87 : decode cL_law 87 = .ok (.iconst 0, 1) := by decide +kernel
theorem dL_law_88 : decode cL_law 88 = .ok (.istore 6, 2) := by decide +kernel
theorem dL_law_90 : decode cL_law 90 = .ok (.iload 6, 2) := by decide +kernel
theorem dL_law_92 : decode cL_law 92 = .ok (.bipush 20, 2) := by decide +kernel
theorem dL_law_94 : decode cL_law 94 = .ok (.if_icmp .ge 126, 3) := by decide +kernel
theorem dL_law_97 : decode cL_law 97 = .ok (.aload_n 0, 1) := by decide +kernel
theorem dL_law_98 : decode cL_law 98 = .ok (.iconst 2, 1) := by decide +kernel
theorem dL_law_99 : decode cL_law 99 = .ok (.iload 6, 2) := by decide +kernel
theorem dL_law_101 : decode cL_law 101 = .ok (.imul, 1) := by decide +kernel
theorem dL_law_102 : decode cL_law 102 = .ok (.invokestatic 147, 3) := by decide +kernel
theorem dL_law_105 : decode cL_law 105 = .ok (.ldc 151, 2) := by decide +kernel
theorem dL_law_107 : decode cL_law 107 = .ok (.iand, 1) := by decide +kernel
theorem dL_law_108 : decode cL_law 108 = .ok (.istore 7, 2) := by decide +kernel
theorem dL_law_110 : decode cL_law 110 = .ok (.aload_n 0, 1) := by decide +kernel
theorem dL_law_111 : decode cL_law 111 = .ok (.iconst 2, 1) := by decide +kernel
theorem dL_law_112 : decode cL_law 112 = .ok (.iload 6, 2) := by decide +kernel
theorem dL_law_114 : decode cL_law 114 = .ok (.imul, 1) := by decide +kernel
theorem dL_law_115 : decode cL_law 115 = .ok (.iconst 1, 1) := by decide +kernel
theorem dL_law_116 : decode cL_law 116 = .ok (.iadd, 1) := by decide +kernel
theorem dL_law_117 : decode cL_law 117 = .ok (.invokestatic 147, 3) := by decide +kernel
theorem dL_law_120 : decode cL_law 120 = .ok (.ldc 151, 2) := by decide +kernel
theorem dL_law_122 : decode cL_law 122 = .ok (.iand, 1) := by decide +kernel
theorem dL_law_123 : decode cL_law 123 = .ok (.istore 8, 2) := by decide +kernel
theorem dL_law_125 : decode cL_law 125 = .ok (.aload_n 1, 1) := by decide +kernel
theorem dL_law_126 : decode cL_law 126 = .ok (.iload 6, 2) := by decide +kernel
theorem dL_law_128 : decode cL_law 128 = .ok (.iconst 4, 1) := by decide +kernel
theorem dL_law_129 : decode cL_law 129 = .ok (.if_icmp .ge 7, 3) := by decide +kernel
theorem dL_law_132 : decode cL_law 132 = .ok (.iconst 0, 1) := by decide +kernel
theorem dL_law_133 : decode cL_law 133 = .ok (.goto 13, 3) := by decide +kernel
theorem dL_law_136 : decode cL_law 136 = .ok (.iload 7, 2) := by decide +kernel
theorem dL_law_138 : decode cL_law 138 = .ok (.bipush 13, 2) := by decide +kernel
theorem dL_law_140 : decode cL_law 140 = .ok (.ishr, 1) := by decide +kernel
theorem dL_law_141 : decode cL_law 141 = .ok (.bipush 15, 2) := by decide +kernel
theorem dL_law_143 : decode cL_law 143 = .ok (.invokestatic 64, 3) := by decide +kernel
theorem dL_law_146 : decode cL_law 146 = .ok (.iload 7, 2) := by decide +kernel
theorem dL_law_148 : decode cL_law 148 = .ok (.iload 8, 2) := by decide +kernel
theorem dL_law_150 : decode cL_law 150 = .ok (.aload_n 2, 1) := by decide +kernel
theorem dL_law_151 : decode cL_law 151 = .ok (.aload_n 3, 1) := by decide +kernel
theorem dL_law_152 : decode cL_law 152 = .ok (.aload 4, 2) := by decide +kernel
theorem dL_law_154 : decode cL_law 154 = .ok (.aload 5, 2) := by decide +kernel
theorem dL_law_156 : decode cL_law 156 = .ok (.invokestatic 152, 3) := by decide +kernel
theorem dL_law_159 : decode cL_law 159 = .ok (.ifCond .eq 20, 3) := by decide +kernel
theorem dL_law_162 : decode cL_law 162 = .ok (.aload_n 1, 1) := by decide +kernel
theorem dL_law_163 : decode cL_law 163 = .ok (.iload 8, 2) := by decide +kernel
theorem dL_law_165 : decode cL_law 165 = .ok (.iconst 2, 1) := by decide +kernel
theorem dL_law_166 : decode cL_law 166 = .ok (.ishr, 1) := by decide +kernel
theorem dL_law_167 : decode cL_law 167 = .ok (.aload_n 2, 1) := by decide +kernel
theorem dL_law_168 : decode cL_law 168 = .ok (.aload_n 3, 1) := by decide +kernel
theorem dL_law_169 : decode cL_law 169 = .ok (.aload 4, 2) := by decide +kernel
theorem dL_law_171 : decode cL_law 171 = .ok (.aload 5, 2) := by decide +kernel
theorem dL_law_173 : decode cL_law 173 = .ok (.invokestatic 137, 3) := by decide +kernel
theorem dL_law_176 : decode cL_law 176 = .ok (.ifCond .ne 5, 3) := by decide +kernel
theorem dL_law_179 : decode cL_law 179 = .ok (.iconst 0, 1) := by decide +kernel
theorem dL_law_180 : decode cL_law 180 = .ok (.ireturn, 1) := by decide +kernel
theorem dL_law_181 : decode cL_law 181 = .ok (.iload 6, 2) := by decide +kernel
theorem dL_law_183 : decode cL_law 183 = .ok (.bipush 7, 2) := by decide +kernel
theorem dL_law_185 : decode cL_law 185 = .ok (.irem, 1) := by decide +kernel
theorem dL_law_186 : decode cL_law 186 = .ok (.bipush 6, 2) := by decide +kernel
theorem dL_law_188 : decode cL_law 188 = .ok (.if_icmp .ne 26, 3) := by decide +kernel
theorem dL_law_191 : decode cL_law 191 = .ok (.aload_n 1, 1) := by decide +kernel
theorem dL_law_192 : decode cL_law 192 = .ok (.iload 8, 2) := by decide +kernel
theorem dL_law_194 : decode cL_law 194 = .ok (.iconst 2, 1) := by decide +kernel
theorem dL_law_195 : decode cL_law 195 = .ok (.ishr, 1) := by decide +kernel
theorem dL_law_196 : decode cL_law 196 = .ok (.iload 7, 2) := by decide +kernel
theorem dL_law_198 : decode cL_law 198 = .ok (.iconst 2, 1) := by decide +kernel
theorem dL_law_199 : decode cL_law 199 = .ok (.ishr, 1) := by decide +kernel
theorem dL_law_200 : decode cL_law 200 = .ok (.aload_n 2, 1) := by decide +kernel
theorem dL_law_201 : decode cL_law 201 = .ok (.aload_n 3, 1) := by decide +kernel
theorem dL_law_202 : decode cL_law 202 = .ok (.aload 4, 2) := by decide +kernel
theorem dL_law_204 : decode cL_law 204 = .ok (.aload 5, 2) := by decide +kernel
theorem dL_law_206 : decode cL_law 206 = .ok (.invokestatic 156, 3) := by decide +kernel
theorem dL_law_209 : decode cL_law 209 = .ok (.ifCond .ne 5, 3) := by decide +kernel
theorem dL_law_212 : decode cL_law 212 = .ok (.iconst 0, 1) := by decide +kernel
theorem dL_law_213 : decode cL_law 213 = .ok (.ireturn, 1) := by decide +kernel
theorem dL_law_214 : decode cL_law 214 = .ok (.iinc 6 1, 3) := by decide +kernel
theorem dL_law_217 : decode cL_law 217 = .ok (.goto (-127), 3) := by decide +kernel
theorem dL_law_220 : decode cL_law 220 = .ok (.aload_n 1, 1) := by decide +kernel
theorem dL_law_221 : decode cL_law 221 = .ok (.bipush 14, 2) := by decide +kernel
theorem dL_law_223 : decode cL_law 223 = .ok (.invokevirtual 83, 3) := by decide +kernel
theorem dL_law_226 : decode cL_law 226 = .ok (.lconst 0, 1) := by decide +kernel
theorem dL_law_227 : decode cL_law 227 = .ok (.lcmp, 1) := by decide +kernel
theorem dL_law_228 : decode cL_law 228 = .ok (.ifCond .le 7, 3) := by decide +kernel
theorem dL_law_231 : decode cL_law 231 = .ok (.iconst 1, 1) := by decide +kernel
theorem dL_law_232 : decode cL_law 232 = .ok (.goto 4, 3) := by decide +kernel
theorem dL_law_235 : decode cL_law 235 = .ok (.iconst 0, 1) := by decide +kernel
theorem dL_law_236 : decode cL_law 236 = .ok (.ireturn, 1) := by decide +kernel
