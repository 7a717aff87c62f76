theorem dX0_init_0 : decode cX0_init 0 = .ok (.aload_n 0, 1) := by decide +kernel
theorem dX0_init_1 : decode cX0_init 1 = .ok (.invokespecial 3, 3) := by decide +kernel
theorem dX0_init_4 : decode cX0_init 4 = .ok (.return_, 1) := by decide +kernel
theorem dX0_fit_0 : decode cX0_fit 0 = .ok (.aload_n 0, 1) := by decide +kernel
theorem dX0_fit_1 : decode cX0_fit 1 = .ok (.ldc2_w 9, 3) := by decide +kernel
theorem dX0_fit_4 : decode cX0_fit 4 = .ok (.aload_n 1, 1) := by decide +kernel
theorem dX0_fit_5 : decode cX0_fit 5 = .ok (.getfield 11, 3) := by decide +kernel
theorem dX0_fit_8 : decode cX0_fit 8 = .ok (.i2l, 1) := by decide +kernel
theorem dX0_fit_9 : decode cX0_fit 9 = .ok (.lmul, 1) := by decide +kernel
theorem dX0_fit_10 : decode cX0_fit 10 = .ok (.putfield 17, 3) := by decide +kernel
theorem dX0_fit_13 : decode cX0_fit 13 = .ok (.aload_n 0, 1) := by decide +kernel
theorem dX0_fit_14 : decode cX0_fit 14 = .ok (.ldc2_w 9, 3) := by decide +kernel
theorem dX0_fit_17 : decode cX0_fit 17 = .ok (.aload_n 1, 1) := by decide +kernel
theorem dX0_fit_18 : decode cX0_fit 18 = .ok (.getfield 22, 3) := by decide +kernel
theorem dX0_fit_21 : decode cX0_fit 21 = .ok (.i2l, 1) := by decide +kernel
theorem dX0_fit_22 : decode cX0_fit 22 = .ok (.lmul, 1) := by decide +kernel
theorem dX0_fit_23 : decode cX0_fit 23 = .ok (.putfield 25, 3) := by decide +kernel
theorem dX0_fit_26 : decode cX0_fit 26 = .ok (.aload_n 0, 1) := by decide +kernel
theorem dX0_fit_27 : decode cX0_fit 27 = .ok (.ldc2_w 9, 3) := by decide +kernel
theorem dX0_fit_30 : decode cX0_fit 30 = .ok (.aload_n 1, 1) := by decide +kernel
theorem dX0_fit_31 : decode cX0_fit 31 = .ok (.getfield 27, 3) := by decide +kernel
theorem dX0_fit_34 : decode cX0_fit 34 = .ok (.iconst 0, 1) := by decide +kernel
theorem dX0_fit_35 : decode cX0_fit 35 = .ok (.iaload, 1) := by decide +kernel
theorem dX0_fit_36 : decode cX0_fit 36 = .ok (.i2l, 1) := by decide +kernel
theorem dX0_fit_37 : decode cX0_fit 37 = .ok (.lmul, 1) := by decide +kernel
theorem dX0_fit_38 : decode cX0_fit 38 = .ok (.putfield 31, 3) := by decide +kernel
theorem dX0_fit_41 : decode cX0_fit 41 = .ok (.aload_n 0, 1) := by decide +kernel
theorem dX0_fit_42 : decode cX0_fit 42 = .ok (.ldc2_w 9, 3) := by decide +kernel
theorem dX0_fit_45 : decode cX0_fit 45 = .ok (.aload_n 1, 1) := by decide +kernel
theorem dX0_fit_46 : decode cX0_fit 46 = .ok (.getfield 27, 3) := by decide +kernel
theorem dX0_fit_49 : decode cX0_fit 49 = .ok (.iconst 1, 1) := by decide +kernel
theorem dX0_fit_50 : decode cX0_fit 50 = .ok (.iaload, 1) := by decide +kernel
theorem dX0_fit_51 : decode cX0_fit 51 = .ok (.i2l, 1) := by decide +kernel
theorem dX0_fit_52 : decode cX0_fit 52 = .ok (.lmul, 1) := by decide +kernel
theorem dX0_fit_53 : decode cX0_fit 53 = .ok (.putfield 34, 3) := by decide +kernel
theorem dX0_fit_56 : decode cX0_fit 56 = .ok (.aload_n 0, 1) := by decide +kernel
theorem dX0_fit_57 : decode cX0_fit 57 = .ok (.aload_n 1, 1) := by decide +kernel
theorem dX0_fit_58 : decode cX0_fit 58 = .ok (.getfield 27, 3) := by decide +kernel
theorem dX0_fit_61 : decode cX0_fit 61 = .ok (.iconst 3, 1) := by decide +kernel
theorem dX0_fit_62 : decode cX0_fit 62 = .ok (.iaload, 1) := by decide +kernel
theorem dX0_fit_63 : decode cX0_fit 63 = .ok (.iconst 1, 1) := by decide +kernel
theorem dX0_fit_64 : decode cX0_fit 64 = .ok (.if_icmp .ne 7, 3) := by decide +kernel
theorem dX0_fit_67 : decode cX0_fit 67 = .ok (.iconst 1, 1) := by decide +kernel
theorem dX0_fit_68 : decode cX0_fit 68 = .ok (.goto 4, 3) := by decide +kernel
theorem dX0_fit_71 : decode cX0_fit 71 = .ok (.iconst 0, 1) := by decide +kernel
theorem dX0_fit_72 : decode cX0_fit 72 = .ok (.putfield 37, 3) := by decide +kernel
theorem dX0_fit_75 : decode cX0_fit 75 = .ok (.return_, 1) := by decide +kernel
theorem dX0_squareTo_0 : decode cX0_squareTo 0 = .ok (.lload_n 1, 1) := by decide +kernel
theorem dX0_squareTo_1 : decode cX0_squareTo 1 = .ok (.aload_n 0, 1) := by decide +kernel
theorem dX0_squareTo_2 : decode cX0_squareTo 2 = .ok (.getfield 17, 3) := by decide +kernel
theorem dX0_squareTo_5 : decode cX0_squareTo 5 = .ok (.lsub, 1) := by decide +kernel
theorem dX0_squareTo_6 : decode cX0_squareTo 6 = .ok (.lstore 5, 2) := by decide +kernel
theorem dX0_squareTo_8 : decode cX0_squareTo 8 = .ok (.lload_n 3, 1) := by decide +kernel
theorem dX0_squareTo_9 : decode cX0_squareTo 9 = .ok (.aload_n 0, 1) := by decide +kernel
theorem dX0_squareTo_10 : decode cX0_squareTo 10 = .ok (.getfield 25, 3) := by decide +kernel
theorem dX0_squareTo_13 : decode cX0_squareTo 13 = .ok (.lsub, 1) := by decide +kernel
theorem dX0_squareTo_14 : decode cX0_squareTo 14 = .ok (.lstore 7, 2) := by decide +kernel
theorem dX0_squareTo_16 : decode cX0_squareTo 16 = .ok (.lload 5, 2) := by decide +kernel
theorem dX0_squareTo_18 : decode cX0_squareTo 18 = .ok (.lload 5, 2) := by decide +kernel
theorem dX0_squareTo_20 : decode cX0_squareTo 20 = .ok (.lmul, 1) := by decide +kernel
theorem dX0_squareTo_21 : decode cX0_squareTo 21 = .ok (.lload 7, 2) := by decide +kernel
theorem dX0_squareTo_23 : decode cX0_squareTo 23 = .ok (.lload 7, 2) := by decide +kernel
theorem dX0_squareTo_25 : decode cX0_squareTo 25 = .ok (.lmul, 1) := by decide +kernel
theorem dX0_squareTo_26 : decode cX0_squareTo 26 = .ok (.ladd, 1) := by decide +kernel
theorem dX0_squareTo_27 : decode cX0_squareTo 27 = .ok (.lreturn, 1) := by decide +kernel
theorem dX0_spans_0 : decode cX0_spans 0 = .ok (.lload_n 1, 1) := by decide +kernel
theorem dX0_spans_1 : decode cX0_spans 1 = .ok (.lconst 0, 1) := by decide +kernel
theorem dX0_spans_2 : decode cX0_spans 2 = .ok (.lcmp, 1) := by decide +kernel
theorem dX0_spans_3 : decode cX0_spans 3 = .ok (.ifCond .le 38, 3) := by decide +kernel
theorem dX0_spans_6 : decode cX0_spans 6 = .ok (.lload_n 1, 1) := by decide +kernel
theorem dX0_spans_7 : decode cX0_spans 7 = .ok (.aload_n 0, 1) := by decide +kernel
theorem dX0_spans_8 : decode cX0_spans 8 = .ok (.getfield 31, 3) := by decide +kernel
theorem dX0_spans_11 : decode cX0_spans 11 = .ok (.aload_n 0, 1) := by decide +kernel
theorem dX0_spans_12 : decode cX0_spans 12 = .ok (.getfield 34, 3) := by decide +kernel
theorem dX0_spans_15 : decode cX0_spans 15 = .ok (.ladd, 1) := by decide +kernel
theorem dX0_spans_16 : decode cX0_spans 16 = .ok (.lcmp, 1) := by decide +kernel
theorem dX0_spans_17 : decode cX0_spans 17 = .ok (.ifCond .gt 24, 3) := by decide +kernel
theorem dX0_spans_20 : decode cX0_spans 20 = .ok (.lload_n 1, 1) := by decide +kernel
theorem dX0_spans_21 : decode cX0_spans 21 = .ok (.aload_n 0, 1) := by decide +kernel
theorem dX0_spans_22 : decode cX0_spans 22 = .ok (.getfield 31, 3) := by decide +kernel
theorem dX0_spans_25 : decode cX0_spans 25 = .ok (.aload_n 0, 1) := by decide +kernel
theorem dX0_spans_26 : decode cX0_spans 26 = .ok (.getfield 34, 3) := by decide +kernel
theorem dX0_spans_29 : decode cX0_spans 29 = .ok (.lsub, 1) := by decide +kernel
theorem dX0_spans_30 : decode cX0_spans 30 = .ok (.invokestatic 41, 3) := by decide +kernel
theorem dX0_spans_33 : decode cX0_spans 33 = .ok (.lcmp, 1) := by decide +kernel
theorem dX0_spans_34 : decode cX0_spans 34 = .ok (.ifCond .lt 7, 3) := by decide +kernel
theorem dX0_spans_37 : decode cX0_spans 37 = .ok (.iconst 1, 1) := by decide +kernel
theorem dX0_spans_38 : decode cX0_spans 38 = .ok (.goto 4, 3) := by decide +kernel
theorem dX0_spans_41 : decode cX0_spans 41 = .ok (.iconst 0, 1) := by decide +kernel
theorem dX0_spans_42 : decode cX0_spans 42 = .ok (.ireturn, 1) := by decide +kernel
theorem dX0_place_0 : decode cX0_place 0 = .ok (.aload_n 0, 1) := by decide +kernel
theorem dX0_place_1 : decode cX0_place 1 = .ok (.lload_n 1, 1) := by decide +kernel
theorem dX0_place_2 : decode cX0_place 2 = .ok (.putfield 47, 3) := by decide +kernel
theorem dX0_place_5 : decode cX0_place 5 = .ok (.aload_n 0, 1) := by decide +kernel
theorem dX0_place_6 : decode cX0_place 6 = .ok (.lload_n 3, 1) := by decide +kernel
theorem dX0_place_7 : decode cX0_place 7 = .ok (.putfield 50, 3) := by decide +kernel
theorem dX0_place_10 : decode cX0_place 10 = .ok (.aload_n 0, 1) := by decide +kernel
theorem dX0_place_11 : decode cX0_place 11 = .ok (.lconst 0, 1) := by decide +kernel
theorem dX0_place_12 : decode cX0_place 12 = .ok (.putfield 53, 3) := by decide +kernel
theorem dX0_place_15 : decode cX0_place 15 = .ok (.aload_n 0, 1) := by decide +kernel
theorem dX0_place_16 : decode cX0_place 16 = .ok (.lconst 0, 1) := by decide +kernel
theorem dX0_place_17 : decode cX0_place 17 = .ok (.putfield 56, 3) := by decide +kernel
theorem dX0_place_20 : decode cX0_place 20 = .ok (.aload_n 0, 1) := by decide +kernel
theorem dX0_place_21 : decode cX0_place 21 = .ok (.lload_n 1, 1) := by decide +kernel
theorem dX0_place_22 : decode cX0_place 22 = .ok (.lload_n 3, 1) := by decide +kernel
theorem dX0_place_23 : decode cX0_place 23 = .ok (.invokevirtual 59, 3) := by decide +kernel
theorem dX0_place_26 : decode cX0_place 26 = .ok (.lstore 5, 2) := by decide +kernel
theorem dX0_place_28 : decode cX0_place 28 = .ok (.lload 5, 2) := by decide +kernel
theorem dX0_place_30 : decode cX0_place 30 = .ok (.invokestatic 63, 3) := by decide +kernel
theorem dX0_place_33 : decode cX0_place 33 = .ok (.lstore 7, 2) := by decide +kernel
theorem dX0_place_35 : decode cX0_place 35 = .ok (.aload_n 0, 1) := by decide +kernel
theorem dX0_place_36 : decode cX0_place 36 = .ok (.lload 7, 2) := by decide +kernel
theorem dX0_place_38 : decode cX0_place 38 = .ok (.invokevirtual 66, 3) := by decide +kernel
theorem dX0_place_41 : decode cX0_place 41 = .ok (.ifCond .ne 5, 3) := by decide +kernel
theorem dX0_place_44 : decode cX0_place 44 = .ok (.iconst 0, 1) := by decide +kernel
theorem dX0_place_45 : decode cX0_place 45 = .ok (.ireturn, 1) := by decide +kernel
theorem dX0_place_46 : decode cX0_place 46 = .ok (.lload 5, 2) := by decide +kernel
theorem dX0_place_48 : decode cX0_place 48 = .ok (.aload_n 0, 1) := by decide +kernel
theorem dX0_place_49 : decode cX0_place 49 = .ok (.getfield 31, 3) := by decide +kernel
theorem dX0_place_52 : decode cX0_place 52 = .ok (.aload_n 0, 1) := by decide +kernel
theorem dX0_place_53 : decode cX0_place 53 = .ok (.getfield 31, 3) := by decide +kernel
theorem dX0_place_56 : decode cX0_place 56 = .ok (.lmul, 1) := by decide +kernel
theorem dX0_place_57 : decode cX0_place 57 = .ok (.ladd, 1) := by decide +kernel
theorem dX0_place_58 : decode cX0_place 58 = .ok (.aload_n 0, 1) := by decide +kernel
theorem dX0_place_59 : decode cX0_place 59 = .ok (.getfield 34, 3) := by decide +kernel
theorem dX0_place_62 : decode cX0_place 62 = .ok (.aload_n 0, 1) := by decide +kernel
theorem dX0_place_63 : decode cX0_place 63 = .ok (.getfield 34, 3) := by decide +kernel
theorem dX0_place_66 : decode cX0_place 66 = .ok (.lmul, 1) := by decide +kernel
theorem dX0_place_67 : decode cX0_place 67 = .ok (.lsub, 1) := by decide +kernel
theorem dX0_place_68 : decode cX0_place 68 = .ok (.ldc2_w 70, 3) := by decide +kernel
theorem dX0_place_71 : decode cX0_place 71 = .ok (.lload 7, 2) := by decide +kernel
theorem dX0_place_73 : decode cX0_place 73 = .ok (.lmul, 1) := by decide +kernel
theorem dX0_place_74 : decode cX0_place 74 = .ok (.invokestatic 72, 3) := by decide +kernel
theorem dX0_place_77 : decode cX0_place 77 = .ok (.lstore 9, 2) := by decide +kernel
theorem dX0_place_79 : decode cX0_place 79 = .ok (.lconst 0, 1) := by decide +kernel
theorem dX0_place_80 : decode cX0_place 80 = .ok (.aload_n 0, 1) := by decide +kernel
theorem dX0_place_81 : decode cX0_place 81 = .ok (.getfield 31, 3) := by decide +kernel
theorem dX0_place_84 : decode cX0_place 84 = .ok (.aload_n 0, 1) := by decide +kernel
theorem dX0_place_85 : decode cX0_place 85 = .ok (.getfield 31, 3) := by decide +kernel
theorem dX0_place_88 : decode cX0_place 88 = .ok (.lmul, 1) := by decide +kernel
theorem dX0_place_89 : decode cX0_place 89 = .ok (.lload 9, 2) := by decide +kernel
theorem dX0_place_91 : decode cX0_place 91 = .ok (.lload 9, 2) := by decide +kernel
theorem dX0_place_93 : decode cX0_place 93 = .ok (.lmul, 1) := by decide +kernel
theorem dX0_place_94 : decode cX0_place 94 = .ok (.lsub, 1) := by decide +kernel
theorem dX0_place_95 : decode cX0_place 95 = .ok (.invokestatic 75, 3) := by decide +kernel
theorem dX0_place_98 : decode cX0_place 98 = .ok (.invokestatic 63, 3) := by decide +kernel
theorem dX0_place_101 : decode cX0_place 101 = .ok (.lstore 11, 2) := by decide +kernel
theorem dX0_place_103 : decode cX0_place 103 = .ok (.aload_n 0, 1) := by decide +kernel
theorem dX0_place_104 : decode cX0_place 104 = .ok (.getfield 37, 3) := by decide +kernel
theorem dX0_place_107 : decode cX0_place 107 = .ok (.ifCond .eq 8, 3) := by decide +kernel
theorem dX0_place_110 : decode cX0_place 110 = .ok (.lload 11, 2) := by decide +kernel
theorem dX0_place_112 : decode cX0_place 112 = .ok (.lneg, 1) := by decide +kernel
theorem dX0_place_113 : decode cX0_place 113 = .ok (.lstore 11, 2) := by decide +kernel
theorem dX0_place_115 : decode cX0_place 115 = .ok (.lload_n 1, 1) := by decide +kernel
theorem dX0_place_116 : decode cX0_place 116 = .ok (.aload_n 0, 1) := by decide +kernel
theorem dX0_place_117 : decode cX0_place 117 = .ok (.getfield 17, 3) := by decide +kernel
theorem dX0_place_120 : decode cX0_place 120 = .ok (.lsub, 1) := by decide +kernel
theorem dX0_place_121 : decode cX0_place 121 = .ok (.lstore 13, 2) := by decide +kernel
theorem dX0_place_123 : decode cX0_place 123 = .ok (.lload_n 3, 1) := by decide +kernel
theorem dX0_place_124 : decode cX0_place 124 = .ok (.aload_n 0, 1) := by decide +kernel
theorem dX0_place_125 : decode cX0_place 125 = .ok (.getfield 25, 3) := by decide +kernel
theorem dX0_place_128 : decode cX0_place 128 = .ok (.lsub, 1) := by decide +kernel
theorem dX0_place_129 : decode cX0_place 129 = .ok (.lstore 15, 2) := by decide +kernel
theorem dX0_place_131 : decode cX0_place 131 = .ok (.aload_n 0, 1) := by decide +kernel
theorem dX0_place_132 : decode cX0_place 132 = .ok (.aload_n 0, 1) := by decide +kernel
theorem dX0_place_133 : decode cX0_place 133 = .ok (.getfield 17, 3) := by decide +kernel
theorem dX0_place_136 : decode cX0_place 136 = .ok (.lload 13, 2) := by decide +kernel
theorem dX0_place_138 : decode cX0_place 138 = .ok (.lload 9, 2) := by decide +kernel
theorem dX0_place_140 : decode cX0_place 140 = .ok (.lmul, 1) := by decide +kernel
theorem dX0_place_141 : decode cX0_place 141 = .ok (.lload 15, 2) := by decide +kernel
theorem dX0_place_143 : decode cX0_place 143 = .ok (.lload 11, 2) := by decide +kernel
theorem dX0_place_145 : decode cX0_place 145 = .ok (.lmul, 1) := by decide +kernel
theorem dX0_place_146 : decode cX0_place 146 = .ok (.lsub, 1) := by decide +kernel
theorem dX0_place_147 : decode cX0_place 147 = .ok (.lload 7, 2) := by decide +kernel
theorem dX0_place_149 : decode cX0_place 149 = .ok (.invokestatic 72, 3) := by decide +kernel
theorem dX0_place_152 : decode cX0_place 152 = .ok (.ladd, 1) := by decide +kernel
theorem dX0_place_153 : decode cX0_place 153 = .ok (.putfield 53, 3) := by decide +kernel
theorem dX0_place_156 : decode cX0_place 156 = .ok (.aload_n 0, 1) := by decide +kernel
theorem dX0_place_157 : decode cX0_place 157 = .ok (.aload_n 0, 1) := by decide +kernel
theorem dX0_place_158 : decode cX0_place 158 = .ok (.getfield 25, 3) := by decide +kernel
theorem dX0_place_161 : decode cX0_place 161 = .ok (.lload 15, 2) := by decide +kernel
theorem dX0_place_163 : decode cX0_place 163 = .ok (.lload 9, 2) := by decide +kernel
theorem dX0_place_165 : decode cX0_place 165 = .ok (.lmul, 1) := by decide +kernel
theorem dX0_place_166 : decode cX0_place 166 = .ok (.lload 13, 2) := by decide +kernel
theorem dX0_place_168 : decode cX0_place 168 = .ok (.lload 11, 2) := by decide +kernel
theorem dX0_place_170 : decode cX0_place 170 = .ok (.lmul, 1) := by decide +kernel
theorem dX0_place_171 : decode cX0_place 171 = .ok (.ladd, 1) := by decide +kernel
theorem dX0_place_172 : decode cX0_place 172 = .ok (.lload 7, 2) := by decide +kernel
theorem dX0_place_174 : decode cX0_place 174 = .ok (.invokestatic 72, 3) := by decide +kernel
theorem dX0_place_177 : decode cX0_place 177 = .ok (.ladd, 1) := by decide +kernel
theorem dX0_place_178 : decode cX0_place 178 = .ok (.putfield 56, 3) := by decide +kernel
theorem dX0_place_181 : decode cX0_place 181 = .ok (.iconst 1, 1) := by decide +kernel
theorem dX0_place_182 : decode cX0_place 182 = .ok (.ireturn, 1) := by decide +kernel
theorem dX0_sweepTo_0 : decode cX0_sweepTo 0 = .ok (.aload_n 0, 1) := by decide +kernel
theorem dX0_sweepTo_1 : decode cX0_sweepTo 1 = .ok (.getfield 47, 3) := by decide +kernel
theorem dX0_sweepTo_4 : decode cX0_sweepTo 4 = .ok (.lstore 5, 2) := by decide +kernel
theorem dX0_sweepTo_6 : decode cX0_sweepTo 6 = .ok (.aload_n 0, 1) := by decide +kernel
theorem dX0_sweepTo_7 : decode cX0_sweepTo 7 = .ok (.getfield 50, 3) := by decide +kernel
theorem dX0_sweepTo_10 : decode cX0_sweepTo 10 = .ok (.lstore 7, 2) := by decide +kernel
theorem dX0_sweepTo_12 : decode cX0_sweepTo 12 = .ok (.aload_n 0, 1) := by decide +kernel
theorem dX0_sweepTo_13 : decode cX0_sweepTo 13 = .ok (.getfield 53, 3) := by decide +kernel
theorem dX0_sweepTo_16 : decode cX0_sweepTo 16 = .ok (.lstore 9, 2) := by decide +kernel
theorem dX0_sweepTo_18 : decode cX0_sweepTo 18 = .ok (.aload_n 0, 1) := by decide +kernel
theorem dX0_sweepTo_19 : decode cX0_sweepTo 19 = .ok (.getfield 56, 3) := by decide +kernel
theorem dX0_sweepTo_22 : decode cX0_sweepTo 22 = .ok (.lstore 11, 2) := by decide +kernel
theorem dX0_sweepTo_24 : decode cX0_sweepTo 24 = .ok (.aload_n 0, 1) := by decide +kernel
theorem dX0_sweepTo_25 : decode cX0_sweepTo 25 = .ok (.lload_n 1, 1) := by decide +kernel
theorem dX0_sweepTo_26 : decode cX0_sweepTo 26 = .ok (.lload_n 3, 1) := by decide +kernel
theorem dX0_sweepTo_27 : decode cX0_sweepTo 27 = .ok (.invokevirtual 78, 3) := by decide +kernel
theorem dX0_sweepTo_30 : decode cX0_sweepTo 30 = .ok (.pop, 1) := by decide +kernel
theorem dX0_sweepTo_31 : decode cX0_sweepTo 31 = .ok (.lload 9, 2) := by decide +kernel
theorem dX0_sweepTo_33 : decode cX0_sweepTo 33 = .ok (.lload 11, 2) := by decide +kernel
theorem dX0_sweepTo_35 : decode cX0_sweepTo 35 = .ok (.lload 5, 2) := by decide +kernel
theorem dX0_sweepTo_37 : decode cX0_sweepTo 37 = .ok (.lload 7, 2) := by decide +kernel
theorem dX0_sweepTo_39 : decode cX0_sweepTo 39 = .ok (.lload_n 1, 1) := by decide +kernel
theorem dX0_sweepTo_40 : decode cX0_sweepTo 40 = .ok (.lload_n 3, 1) := by decide +kernel
theorem dX0_sweepTo_41 : decode cX0_sweepTo 41 = .ok (.invokestatic 82, 3) := by decide +kernel
theorem dX0_sweepTo_44 : decode cX0_sweepTo 44 = .ok (.lload 9, 2) := by decide +kernel
theorem dX0_sweepTo_46 : decode cX0_sweepTo 46 = .ok (.lload 11, 2) := by decide +kernel
theorem dX0_sweepTo_48 : decode cX0_sweepTo 48 = .ok (.lload_n 1, 1) := by decide +kernel
theorem dX0_sweepTo_49 : decode cX0_sweepTo 49 = .ok (.lload_n 3, 1) := by decide +kernel
theorem dX0_sweepTo_50 : decode cX0_sweepTo 50 = .ok (.aload_n 0, 1) := by decide +kernel
theorem dX0_sweepTo_51 : decode cX0_sweepTo 51 = .ok (.getfield 53, 3) := by decide +kernel
theorem dX0_sweepTo_54 : decode cX0_sweepTo 54 = .ok (.aload_n 0, 1) := by decide +kernel
theorem dX0_sweepTo_55 : decode cX0_sweepTo 55 = .ok (.getfield 56, 3) := by decide +kernel
theorem dX0_sweepTo_58 : decode cX0_sweepTo 58 = .ok (.invokestatic 82, 3) := by decide +kernel
theorem dX0_sweepTo_61 : decode cX0_sweepTo 61 = .ok (.ladd, 1) := by decide +kernel
theorem dX0_sweepTo_62 : decode cX0_sweepTo 62 = .ok (.lreturn, 1) := by decide +kernel
theorem dX1_init_0 : decode cX1_init 0 = .ok (.aload_n 0, 1) := by decide +kernel
theorem dX1_init_1 : decode cX1_init 1 = .ok (.invokespecial 3, 3) := by decide +kernel
theorem dX1_init_4 : decode cX1_init 4 = .ok (.aload_n 0, 1) := by decide +kernel
theorem dX1_init_5 : decode cX1_init 5 = .ok (.new 9, 3) := by decide +kernel
theorem dX1_init_8 : decode cX1_init 8 = .ok (.dup, 1) := by decide +kernel
theorem dX1_init_9 : decode cX1_init 9 = .ok (.invokespecial 11, 3) := by decide +kernel
theorem dX1_init_12 : decode cX1_init 12 = .ok (.putfield 12, 3) := by decide +kernel
theorem dX1_init_15 : decode cX1_init 15 = .ok (.aload_n 0, 1) := by decide +kernel
theorem dX1_init_16 : decode cX1_init 16 = .ok (.new 18, 3) := by decide +kernel
theorem dX1_init_19 : decode cX1_init 19 = .ok (.dup, 1) := by decide +kernel
theorem dX1_init_20 : decode cX1_init 20 = .ok (.invokespecial 20, 3) := by decide +kernel
theorem dX1_init_23 : decode cX1_init 23 = .ok (.putfield 21, 3) := by decide +kernel
theorem dX1_init_26 : decode cX1_init 26 = .ok (.return_, 1) := by decide +kernel
theorem dX1_measureAll_0 : decode cX1_measureAll 0 = .ok (.aload_n 0, 1) := by decide +kernel
theorem dX1_measureAll_1 : decode cX1_measureAll 1 = .ok (.aload_n 1, 1) := by decide +kernel
theorem dX1_measureAll_2 : decode cX1_measureAll 2 = .ok (.invokevirtual 25, 3) := by decide +kernel
theorem dX1_measureAll_5 : decode cX1_measureAll 5 = .ok (.iconst 0, 1) := by decide +kernel
theorem dX1_measureAll_6 : decode cX1_measureAll 6 = .ok (.istore_n 2, 1) := by decide +kernel
theorem dX1_measureAll_7 : decode cX1_measureAll 7 = .ok (.iload_n 2, 1) := by decide +kernel
theorem dX1_measureAll_8 : decode cX1_measureAll 8 = .ok (.aload_n 1, 1) := by decide +kernel
theorem dX1_measureAll_9 : decode cX1_measureAll 9 = .ok (.getfield 29, 3) := by decide +kernel
theorem dX1_measureAll_12 : decode cX1_measureAll 12 = .ok (.getfield 35, 3) := by decide +kernel
theorem dX1_measureAll_15 : decode cX1_measureAll 15 = .ok (.if_icmp .ge 15, 3) := by decide +kernel
theorem dX1_measureAll_18 : decode cX1_measureAll 18 = .ok (.aload_n 0, 1) := by decide +kernel
theorem dX1_measureAll_19 : decode cX1_measureAll 19 = .ok (.aload_n 1, 1) := by decide +kernel
theorem dX1_measureAll_20 : decode cX1_measureAll 20 = .ok (.iload_n 2, 1) := by decide +kernel
theorem dX1_measureAll_21 : decode cX1_measureAll 21 = .ok (.invokevirtual 41, 3) := by decide +kernel
theorem dX1_measureAll_24 : decode cX1_measureAll 24 = .ok (.iinc 2 1, 3) := by decide +kernel
theorem dX1_measureAll_27 : decode cX1_measureAll 27 = .ok (.goto (-20), 3) := by decide +kernel
theorem dX1_measureAll_30 : decode cX1_measureAll 30 = .ok (.return_, 1) := by decide +kernel
theorem dX1_reachesSegment_0 : decode cX1_reachesSegment 0 = .ok (.aload_n 0, 1) := by decide +kernel
theorem dX1_reachesSegment_1 : decode cX1_reachesSegment 1 = .ok (.aload_n 1, 1) := by decide +kernel
theorem dX1_reachesSegment_2 : decode cX1_reachesSegment 2 = .ok (.invokevirtual 25, 3) := by decide +kernel
theorem dX1_reachesSegment_5 : decode cX1_reachesSegment 5 = .ok (.aload_n 0, 1) := by decide +kernel
theorem dX1_reachesSegment_6 : decode cX1_reachesSegment 6 = .ok (.aload_n 1, 1) := by decide +kernel
theorem dX1_reachesSegment_7 : decode cX1_reachesSegment 7 = .ok (.iload_n 2, 1) := by decide +kernel
theorem dX1_reachesSegment_8 : decode cX1_reachesSegment 8 = .ok (.invokevirtual 41, 3) := by decide +kernel
theorem dX1_reachesSegment_11 : decode cX1_reachesSegment 11 = .ok (.aload_n 0, 1) := by decide +kernel
theorem dX1_reachesSegment_12 : decode cX1_reachesSegment 12 = .ok (.invokevirtual 45, 3) := by decide +kernel
theorem dX1_reachesSegment_15 : decode cX1_reachesSegment 15 = .ok (.ireturn, 1) := by decide +kernel
theorem dX1_beginMeasuring_0 : decode cX1_beginMeasuring 0 = .ok (.aload_n 0, 1) := by decide +kernel
theorem dX1_beginMeasuring_1 : decode cX1_beginMeasuring 1 = .ok (.getfield 12, 3) := by decide +kernel
theorem dX1_beginMeasuring_4 : decode cX1_beginMeasuring 4 = .ok (.aload_n 1, 1) := by decide +kernel
theorem dX1_beginMeasuring_5 : decode cX1_beginMeasuring 5 = .ok (.invokevirtual 49, 3) := by decide +kernel
theorem dX1_beginMeasuring_8 : decode cX1_beginMeasuring 8 = .ok (.aload_n 0, 1) := by decide +kernel
theorem dX1_beginMeasuring_9 : decode cX1_beginMeasuring 9 = .ok (.ldc2_w 52, 3) := by decide +kernel
theorem dX1_beginMeasuring_12 : decode cX1_beginMeasuring 12 = .ok (.putfield 54, 3) := by decide +kernel
theorem dX1_beginMeasuring_15 : decode cX1_beginMeasuring 15 = .ok (.aload_n 0, 1) := by decide +kernel
theorem dX1_beginMeasuring_16 : decode cX1_beginMeasuring 16 = .ok (.lconst 0, 1) := by decide +kernel
theorem dX1_beginMeasuring_17 : decode cX1_beginMeasuring 17 = .ok (.putfield 58, 3) := by decide +kernel
theorem dX1_beginMeasuring_20 : decode cX1_beginMeasuring 20 = .ok (.return_, 1) := by decide +kernel
theorem dX1_measure_0 : decode cX1_measure 0 = .ok (.aload_n 1, 1) := by decide +kernel
theorem dX1_measure_1 : decode cX1_measure 1 = .ok (.getfield 29, 3) := by decide +kernel
theorem dX1_measure_4 : decode cX1_measure 4 = .ok (.astore_n 3, 1) := by decide +kernel
theorem dX1_measure_5 : decode cX1_measure 5 = .ok (.aload_n 3, 1) := by decide +kernel
theorem dX1_measure_6 : decode cX1_measure 6 = .ok (.iload_n 2, 1) := by decide +kernel
theorem dX1_measure_7 : decode cX1_measure 7 = .ok (.aload_n 1, 1) := by decide +kernel
theorem dX1_measure_8 : decode cX1_measure 8 = .ok (.getfield 61, 3) := by decide +kernel
theorem dX1_measure_11 : decode cX1_measure 11 = .ok (.iconst 2, 1) := by decide +kernel
theorem dX1_measure_12 : decode cX1_measure 12 = .ok (.iaload, 1) := by decide +kernel
theorem dX1_measure_13 : decode cX1_measure 13 = .ok (.invokevirtual 65, 3) := by decide +kernel
theorem dX1_measure_16 : decode cX1_measure 16 = .ok (.istore 4, 2) := by decide +kernel
theorem dX1_measure_18 : decode cX1_measure 18 = .ok (.iconst 0, 1) := by decide +kernel
theorem dX1_measure_19 : decode cX1_measure 19 = .ok (.istore 5, 2) := by decide +kernel
theorem dX1_measure_21 : decode cX1_measure 21 = .ok (.iload 5, 2) := by decide +kernel
theorem dX1_measure_23 : decode cX1_measure 23 = .ok (.iload 4, 2) := by decide +kernel
theorem dX1_measure_25 : decode cX1_measure 25 = .ok (.if_icmp .gt 62, 3) := by decide +kernel
theorem dX1_measure_28 : decode cX1_measure 28 = .ok (.aload_n 0, 1) := by decide +kernel
theorem dX1_measure_29 : decode cX1_measure 29 = .ok (.getfield 12, 3) := by decide +kernel
theorem dX1_measure_32 : decode cX1_measure 32 = .ok (.aload_n 3, 1) := by decide +kernel
theorem dX1_measure_33 : decode cX1_measure 33 = .ok (.iload_n 2, 1) := by decide +kernel
theorem dX1_measure_34 : decode cX1_measure 34 = .ok (.iload 5, 2) := by decide +kernel
theorem dX1_measure_36 : decode cX1_measure 36 = .ok (.iload 4, 2) := by decide +kernel
theorem dX1_measure_38 : decode cX1_measure 38 = .ok (.invokevirtual 69, 3) := by decide +kernel
theorem dX1_measure_41 : decode cX1_measure 41 = .ok (.aload_n 3, 1) := by decide +kernel
theorem dX1_measure_42 : decode cX1_measure 42 = .ok (.iload_n 2, 1) := by decide +kernel
theorem dX1_measure_43 : decode cX1_measure 43 = .ok (.iload 5, 2) := by decide +kernel
theorem dX1_measure_45 : decode cX1_measure 45 = .ok (.iload 4, 2) := by decide +kernel
theorem dX1_measure_47 : decode cX1_measure 47 = .ok (.invokevirtual 73, 3) := by decide +kernel
theorem dX1_measure_50 : decode cX1_measure 50 = .ok (.invokevirtual 76, 3) := by decide +kernel
theorem dX1_measure_53 : decode cX1_measure 53 = .ok (.lstore 6, 2) := by decide +kernel
theorem dX1_measure_55 : decode cX1_measure 55 = .ok (.aload_n 0, 1) := by decide +kernel
theorem dX1_measure_56 : decode cX1_measure 56 = .ok (.aload_n 0, 1) := by decide +kernel
theorem dX1_measure_57 : decode cX1_measure 57 = .ok (.getfield 54, 3) := by decide +kernel
theorem dX1_measure_60 : decode cX1_measure 60 = .ok (.lload 6, 2) := by decide +kernel
theorem dX1_measure_62 : decode cX1_measure 62 = .ok (.invokestatic 80, 3) := by decide +kernel
theorem dX1_measure_65 : decode cX1_measure 65 = .ok (.putfield 54, 3) := by decide +kernel
theorem dX1_measure_68 : decode cX1_measure 68 = .ok (.aload_n 0, 1) := by decide +kernel
theorem dX1_measure_69 : decode cX1_measure 69 = .ok (.aload_n 0, 1) := by decide +kernel
theorem dX1_measure_70 : decode cX1_measure 70 = .ok (.getfield 58, 3) := by decide +kernel
theorem dX1_measure_73 : decode cX1_measure 73 = .ok (.lload 6, 2) := by decide +kernel
theorem dX1_measure_75 : decode cX1_measure 75 = .ok (.invokestatic 85, 3) := by decide +kernel
theorem dX1_measure_78 : decode cX1_measure 78 = .ok (.putfield 58, 3) := by decide +kernel
theorem dX1_measure_81 : decode cX1_measure 81 = .ok (.iinc 5 1, 3) := by decide +kernel
theorem dX1_measure_84 : decode cX1_measure 84 = .ok (.goto (-63), 3) := by decide +kernel
theorem dX1_measure_87 : decode cX1_measure 87 = .ok (.return_, 1) := by decide +kernel
theorem dX1_reachesMeasured_0 : decode cX1_reachesMeasured 0 = .ok (.aload_n 0, 1) := by decide +kernel
theorem dX1_reachesMeasured_1 : decode cX1_reachesMeasured 1 = .ok (.getfield 12, 3) := by decide +kernel
theorem dX1_reachesMeasured_4 : decode cX1_reachesMeasured 4 = .ok (.aload_n 0, 1) := by decide +kernel
theorem dX1_reachesMeasured_5 : decode cX1_reachesMeasured 5 = .ok (.getfield 54, 3) := by decide +kernel
theorem dX1_reachesMeasured_8 : decode cX1_reachesMeasured 8 = .ok (.invokestatic 88, 3) := by decide +kernel
theorem dX1_reachesMeasured_11 : decode cX1_reachesMeasured 11 = .ok (.invokevirtual 92, 3) := by decide +kernel
theorem dX1_reachesMeasured_14 : decode cX1_reachesMeasured 14 = .ok (.ifCond .eq 24, 3) := by decide +kernel
theorem dX1_reachesMeasured_17 : decode cX1_reachesMeasured 17 = .ok (.aload_n 0, 1) := by decide +kernel
theorem dX1_reachesMeasured_18 : decode cX1_reachesMeasured 18 = .ok (.getfield 12, 3) := by decide +kernel
theorem dX1_reachesMeasured_21 : decode cX1_reachesMeasured 21 = .ok (.aload_n 0, 1) := by decide +kernel
theorem dX1_reachesMeasured_22 : decode cX1_reachesMeasured 22 = .ok (.getfield 58, 3) := by decide +kernel
theorem dX1_reachesMeasured_25 : decode cX1_reachesMeasured 25 = .ok (.invokestatic 88, 3) := by decide +kernel
theorem dX1_reachesMeasured_28 : decode cX1_reachesMeasured 28 = .ok (.invokevirtual 92, 3) := by decide +kernel
theorem dX1_reachesMeasured_31 : decode cX1_reachesMeasured 31 = .ok (.ifCond .eq 7, 3) := by decide +kernel
theorem dX1_reachesMeasured_34 : decode cX1_reachesMeasured 34 = .ok (.iconst 1, 1) := by decide +kernel
theorem dX1_reachesMeasured_35 : decode cX1_reachesMeasured 35 = .ok (.goto 4, 3) := by decide +kernel
theorem dX1_reachesMeasured_38 : decode cX1_reachesMeasured 38 = .ok (.iconst 0, 1) := by decide +kernel
theorem dX1_reachesMeasured_39 : decode cX1_reachesMeasured 39 = .ok (.ireturn, 1) := by decide +kernel
theorem dX1_reachesMeasuredWith_0 : decode cX1_reachesMeasuredWith 0 = .ok (.aload_n 0, 1) := by decide +kernel
theorem dX1_reachesMeasuredWith_1 : decode cX1_reachesMeasuredWith 1 = .ok (.getfield 12, 3) := by decide +kernel
theorem dX1_reachesMeasuredWith_4 : decode cX1_reachesMeasuredWith 4 = .ok (.ldc2_w 96, 3) := by decide +kernel
theorem dX1_reachesMeasuredWith_7 : decode cX1_reachesMeasuredWith 7 = .ok (.iload_n 1, 1) := by decide +kernel
theorem dX1_reachesMeasuredWith_8 : decode cX1_reachesMeasuredWith 8 = .ok (.i2l, 1) := by decide +kernel
theorem dX1_reachesMeasuredWith_9 : decode cX1_reachesMeasuredWith 9 = .ok (.lmul, 1) := by decide +kernel
theorem dX1_reachesMeasuredWith_10 : decode cX1_reachesMeasuredWith 10 = .ok (.putfield 98, 3) := by decide +kernel
theorem dX1_reachesMeasuredWith_13 : decode cX1_reachesMeasuredWith 13 = .ok (.aload_n 0, 1) := by decide +kernel
theorem dX1_reachesMeasuredWith_14 : decode cX1_reachesMeasuredWith 14 = .ok (.invokevirtual 45, 3) := by decide +kernel
theorem dX1_reachesMeasuredWith_17 : decode cX1_reachesMeasuredWith 17 = .ok (.ireturn, 1) := by decide +kernel
theorem dX1_roll_0 : decode cX1_roll 0 = .ok (.aload_n 1, 1) := by decide +kernel
theorem dX1_roll_1 : decode cX1_roll 1 = .ok (.getfield 29, 3) := by decide +kernel
theorem dX1_roll_4 : decode cX1_roll 4 = .ok (.astore_n 3, 1) := by decide +kernel
theorem dX1_roll_5 : decode cX1_roll 5 = .ok (.aload_n 3, 1) := by decide +kernel
theorem dX1_roll_6 : decode cX1_roll 6 = .ok (.iload_n 2, 1) := by decide +kernel
theorem dX1_roll_7 : decode cX1_roll 7 = .ok (.aload_n 1, 1) := by decide +kernel
theorem dX1_roll_8 : decode cX1_roll 8 = .ok (.getfield 61, 3) := by decide +kernel
theorem dX1_roll_11 : decode cX1_roll 11 = .ok (.iconst 2, 1) := by decide +kernel
theorem dX1_roll_12 : decode cX1_roll 12 = .ok (.iaload, 1) := by decide +kernel
theorem dX1_roll_13 : decode cX1_roll 13 = .ok (.invokevirtual 65, 3) := by decide +kernel
theorem dX1_roll_16 : decode cX1_roll 16 = .ok (.istore 4, 2) := by decide +kernel
theorem dX1_roll_18 : decode cX1_roll 18 = .ok (.aload_n 0, 1) := by decide +kernel
theorem dX1_roll_19 : decode cX1_roll 19 = .ok (.getfield 12, 3) := by decide +kernel
theorem dX1_roll_22 : decode cX1_roll 22 = .ok (.aload_n 1, 1) := by decide +kernel
theorem dX1_roll_23 : decode cX1_roll 23 = .ok (.invokevirtual 49, 3) := by decide +kernel
theorem dX1_roll_26 : decode cX1_roll 26 = .ok (.aload_n 0, 1) := by decide +kernel
theorem dX1_roll_27 : decode cX1_roll 27 = .ok (.getfield 12, 3) := by decide +kernel
theorem dX1_roll_30 : decode cX1_roll 30 = .ok (.aload_n 3, 1) := by decide +kernel
theorem dX1_roll_31 : decode cX1_roll 31 = .ok (.iload_n 2, 1) := by decide +kernel
theorem dX1_roll_32 : decode cX1_roll 32 = .ok (.iconst 0, 1) := by decide +kernel
theorem dX1_roll_33 : decode cX1_roll 33 = .ok (.iload 4, 2) := by decide +kernel
theorem dX1_roll_35 : decode cX1_roll 35 = .ok (.invokevirtual 69, 3) := by decide +kernel
theorem dX1_roll_38 : decode cX1_roll 38 = .ok (.aload_n 3, 1) := by decide +kernel
theorem dX1_roll_39 : decode cX1_roll 39 = .ok (.iload_n 2, 1) := by decide +kernel
theorem dX1_roll_40 : decode cX1_roll 40 = .ok (.iconst 0, 1) := by decide +kernel
theorem dX1_roll_41 : decode cX1_roll 41 = .ok (.iload 4, 2) := by decide +kernel
theorem dX1_roll_43 : decode cX1_roll 43 = .ok (.invokevirtual 73, 3) := by decide +kernel
theorem dX1_roll_46 : decode cX1_roll 46 = .ok (.invokevirtual 101, 3) := by decide +kernel
theorem dX1_roll_49 : decode cX1_roll 49 = .ok (.pop, 1) := by decide +kernel
theorem dX1_roll_50 : decode cX1_roll 50 = .ok (.lconst 0, 1) := by decide +kernel
theorem dX1_roll_51 : decode cX1_roll 51 = .ok (.lstore 5, 2) := by decide +kernel
theorem dX1_roll_53 : decode cX1_roll 53 = .ok (.iconst 1, 1) := by decide +kernel
theorem dX1_roll_54 : decode cX1_roll 54 = .ok (.istore 7, 2) := by decide +kernel
theorem dX1_roll_56 : decode cX1_roll 56 = .ok (.iload 7, 2) := by decide +kernel
theorem dX1_roll_58 : decode cX1_roll 58 = .ok (.iload 4, 2) := by decide +kernel
theorem dX1_roll_60 : decode cX1_roll 60 = .ok (.if_icmp .gt 39, 3) := by decide +kernel
theorem dX1_roll_63 : decode cX1_roll 63 = .ok (.lload 5, 2) := by decide +kernel
theorem dX1_roll_65 : decode cX1_roll 65 = .ok (.aload_n 0, 1) := by decide +kernel
theorem dX1_roll_66 : decode cX1_roll 66 = .ok (.getfield 12, 3) := by decide +kernel
theorem dX1_roll_69 : decode cX1_roll 69 = .ok (.aload_n 3, 1) := by decide +kernel
theorem dX1_roll_70 : decode cX1_roll 70 = .ok (.iload_n 2, 1) := by decide +kernel
theorem dX1_roll_71 : decode cX1_roll 71 = .ok (.iload 7, 2) := by decide +kernel
theorem dX1_roll_73 : decode cX1_roll 73 = .ok (.iload 4, 2) := by decide +kernel
theorem dX1_roll_75 : decode cX1_roll 75 = .ok (.invokevirtual 69, 3) := by decide +kernel
theorem dX1_roll_78 : decode cX1_roll 78 = .ok (.aload_n 3, 1) := by decide +kernel
theorem dX1_roll_79 : decode cX1_roll 79 = .ok (.iload_n 2, 1) := by decide +kernel
theorem dX1_roll_80 : decode cX1_roll 80 = .ok (.iload 7, 2) := by decide +kernel
theorem dX1_roll_82 : decode cX1_roll 82 = .ok (.iload 4, 2) := by decide +kernel
theorem dX1_roll_84 : decode cX1_roll 84 = .ok (.invokevirtual 73, 3) := by decide +kernel
theorem dX1_roll_87 : decode cX1_roll 87 = .ok (.invokevirtual 105, 3) := by decide +kernel
theorem dX1_roll_90 : decode cX1_roll 90 = .ok (.ladd, 1) := by decide +kernel
theorem dX1_roll_91 : decode cX1_roll 91 = .ok (.lstore 5, 2) := by decide +kernel
theorem dX1_roll_93 : decode cX1_roll 93 = .ok (.iinc 7 1, 3) := by decide +kernel
theorem dX1_roll_96 : decode cX1_roll 96 = .ok (.goto (-40), 3) := by decide +kernel
theorem dX1_roll_99 : decode cX1_roll 99 = .ok (.lload 5, 2) := by decide +kernel
theorem dX1_roll_101 : decode cX1_roll 101 = .ok (.lreturn, 1) := by decide +kernel
theorem dX1_sum_0 : decode cX1_sum 0 = .ok (.aload_n 1, 1) := by decide +kernel
theorem dX1_sum_1 : decode cX1_sum 1 = .ok (.getfield 29, 3) := by decide +kernel
theorem dX1_sum_4 : decode cX1_sum 4 = .ok (.astore 4, 2) := by decide +kernel
theorem dX1_sum_6 : decode cX1_sum 6 = .ok (.aload_n 0, 1) := by decide +kernel
theorem dX1_sum_7 : decode cX1_sum 7 = .ok (.getfield 12, 3) := by decide +kernel
theorem dX1_sum_10 : decode cX1_sum 10 = .ok (.aload_n 1, 1) := by decide +kernel
theorem dX1_sum_11 : decode cX1_sum 11 = .ok (.invokevirtual 49, 3) := by decide +kernel
theorem dX1_sum_14 : decode cX1_sum 14 = .ok (.aload_n 0, 1) := by decide +kernel
theorem dX1_sum_15 : decode cX1_sum 15 = .ok (.getfield 12, 3) := by decide +kernel
theorem dX1_sum_18 : decode cX1_sum 18 = .ok (.ldc2_w 96, 3) := by decide +kernel
theorem dX1_sum_21 : decode cX1_sum 21 = .ok (.aload 4, 2) := by decide +kernel
theorem dX1_sum_23 : decode cX1_sum 23 = .ok (.getfield 108, 3) := by decide +kernel
theorem dX1_sum_26 : decode cX1_sum 26 = .ok (.iload_n 2, 1) := by decide +kernel
theorem dX1_sum_27 : decode cX1_sum 27 = .ok (.iaload, 1) := by decide +kernel
theorem dX1_sum_28 : decode cX1_sum 28 = .ok (.i2l, 1) := by decide +kernel
theorem dX1_sum_29 : decode cX1_sum 29 = .ok (.lmul, 1) := by decide +kernel
theorem dX1_sum_30 : decode cX1_sum 30 = .ok (.ldc2_w 96, 3) := by decide +kernel
theorem dX1_sum_33 : decode cX1_sum 33 = .ok (.aload 4, 2) := by decide +kernel
theorem dX1_sum_35 : decode cX1_sum 35 = .ok (.getfield 111, 3) := by decide +kernel
theorem dX1_sum_38 : decode cX1_sum 38 = .ok (.iload_n 2, 1) := by decide +kernel
theorem dX1_sum_39 : decode cX1_sum 39 = .ok (.iaload, 1) := by decide +kernel
theorem dX1_sum_40 : decode cX1_sum 40 = .ok (.i2l, 1) := by decide +kernel
theorem dX1_sum_41 : decode cX1_sum 41 = .ok (.lmul, 1) := by decide +kernel
theorem dX1_sum_42 : decode cX1_sum 42 = .ok (.invokevirtual 101, 3) := by decide +kernel
theorem dX1_sum_45 : decode cX1_sum 45 = .ok (.pop, 1) := by decide +kernel
theorem dX1_sum_46 : decode cX1_sum 46 = .ok (.aload_n 0, 1) := by decide +kernel
theorem dX1_sum_47 : decode cX1_sum 47 = .ok (.getfield 21, 3) := by decide +kernel
theorem dX1_sum_50 : decode cX1_sum 50 = .ok (.aload_n 1, 1) := by decide +kernel
theorem dX1_sum_51 : decode cX1_sum 51 = .ok (.getfield 61, 3) := by decide +kernel
theorem dX1_sum_54 : decode cX1_sum 54 = .ok (.iconst 4, 1) := by decide +kernel
theorem dX1_sum_55 : decode cX1_sum 55 = .ok (.iaload, 1) := by decide +kernel
theorem dX1_sum_56 : decode cX1_sum 56 = .ok (.invokevirtual 114, 3) := by decide +kernel
theorem dX1_sum_59 : decode cX1_sum 59 = .ok (.iload_n 3, 1) := by decide +kernel
theorem dX1_sum_60 : decode cX1_sum 60 = .ok (.ifCond .eq 12, 3) := by decide +kernel
theorem dX1_sum_63 : decode cX1_sum 63 = .ok (.aload 4, 2) := by decide +kernel
theorem dX1_sum_65 : decode cX1_sum 65 = .ok (.iload_n 2, 1) := by decide +kernel
theorem dX1_sum_66 : decode cX1_sum 66 = .ok (.invokevirtual 118, 3) := by decide +kernel
theorem dX1_sum_69 : decode cX1_sum 69 = .ok (.goto 4, 3) := by decide +kernel
theorem dX1_sum_72 : decode cX1_sum 72 = .ok (.iload_n 2, 1) := by decide +kernel
theorem dX1_sum_73 : decode cX1_sum 73 = .ok (.istore 5, 2) := by decide +kernel
theorem dX1_sum_75 : decode cX1_sum 75 = .ok (.iconst 0, 1) := by decide +kernel
theorem dX1_sum_76 : decode cX1_sum 76 = .ok (.istore 6, 2) := by decide +kernel
theorem dX1_sum_78 : decode cX1_sum 78 = .ok (.iload 6, 2) := by decide +kernel
theorem dX1_sum_80 : decode cX1_sum 80 = .ok (.aload 4, 2) := by decide +kernel
theorem dX1_sum_82 : decode cX1_sum 82 = .ok (.getfield 35, 3) := by decide +kernel
theorem dX1_sum_85 : decode cX1_sum 85 = .ok (.if_icmp .ge 54, 3) := by decide +kernel
theorem dX1_sum_88 : decode cX1_sum 88 = .ok (.aload_n 0, 1) := by decide +kernel
theorem dX1_sum_89 : decode cX1_sum 89 = .ok (.aload 4, 2) := by decide +kernel
theorem dX1_sum_91 : decode cX1_sum 91 = .ok (.iload 5, 2) := by decide +kernel
theorem dX1_sum_93 : decode cX1_sum 93 = .ok (.aload 4, 2) := by decide +kernel
theorem dX1_sum_95 : decode cX1_sum 95 = .ok (.iload 5, 2) := by decide +kernel
theorem dX1_sum_97 : decode cX1_sum 97 = .ok (.aload_n 1, 1) := by decide +kernel
theorem dX1_sum_98 : decode cX1_sum 98 = .ok (.getfield 61, 3) := by decide +kernel
theorem dX1_sum_101 : decode cX1_sum 101 = .ok (.iconst 2, 1) := by decide +kernel
theorem dX1_sum_102 : decode cX1_sum 102 = .ok (.iaload, 1) := by decide +kernel
theorem dX1_sum_103 : decode cX1_sum 103 = .ok (.invokevirtual 65, 3) := by decide +kernel
theorem dX1_sum_106 : decode cX1_sum 106 = .ok (.iload_n 3, 1) := by decide +kernel
theorem dX1_sum_107 : decode cX1_sum 107 = .ok (.invokevirtual 122, 3) := by decide +kernel
theorem dX1_sum_110 : decode cX1_sum 110 = .ok (.iload_n 3, 1) := by decide +kernel
theorem dX1_sum_111 : decode cX1_sum 111 = .ok (.ifCond .eq 13, 3) := by decide +kernel
theorem dX1_sum_114 : decode cX1_sum 114 = .ok (.aload 4, 2) := by decide +kernel
theorem dX1_sum_116 : decode cX1_sum 116 = .ok (.iload 5, 2) := by decide +kernel
theorem dX1_sum_118 : decode cX1_sum 118 = .ok (.invokevirtual 118, 3) := by decide +kernel
theorem dX1_sum_121 : decode cX1_sum 121 = .ok (.goto 10, 3) := by decide +kernel
theorem dX1_sum_124 : decode cX1_sum 124 = .ok (.aload 4, 2) := by decide +kernel
theorem dX1_sum_126 : decode cX1_sum 126 = .ok (.iload 5, 2) := by decide +kernel
theorem dX1_sum_128 : decode cX1_sum 128 = .ok (.invokevirtual 126, 3) := by decide +kernel
theorem dX1_sum_131 : decode cX1_sum 131 = .ok (.istore 5, 2) := by decide +kernel
theorem dX1_sum_133 : decode cX1_sum 133 = .ok (.iinc 6 1, 3) := by decide +kernel
theorem dX1_sum_136 : decode cX1_sum 136 = .ok (.goto (-58), 3) := by decide +kernel
theorem dX1_sum_139 : decode cX1_sum 139 = .ok (.iload_n 3, 1) := by decide +kernel
theorem dX1_sum_140 : decode cX1_sum 140 = .ok (.ifCond .eq 14, 3) := by decide +kernel
theorem dX1_sum_143 : decode cX1_sum 143 = .ok (.aload_n 0, 1) := by decide +kernel
theorem dX1_sum_144 : decode cX1_sum 144 = .ok (.getfield 21, 3) := by decide +kernel
theorem dX1_sum_147 : decode cX1_sum 147 = .ok (.getfield 129, 3) := by decide +kernel
theorem dX1_sum_150 : decode cX1_sum 150 = .ok (.lneg, 1) := by decide +kernel
theorem dX1_sum_151 : decode cX1_sum 151 = .ok (.goto 10, 3) := by decide +kernel
theorem dX1_sum_154 : decode cX1_sum 154 = .ok (.aload_n 0, 1) := by decide +kernel
theorem dX1_sum_155 : decode cX1_sum 155 = .ok (.getfield 21, 3) := by decide +kernel
theorem dX1_sum_158 : decode cX1_sum 158 = .ok (.getfield 129, 3) := by decide +kernel
theorem dX1_sum_161 : decode cX1_sum 161 = .ok (.lreturn, 1) := by decide +kernel
theorem dX1_follow_0 : decode cX1_follow 0 = .ok (.iconst 1, 1) := by decide +kernel
theorem dX1_follow_1 : decode cX1_follow 1 = .ok (.istore 5, 2) := by decide +kernel
theorem dX1_follow_3 : decode cX1_follow 3 = .ok (.iload 5, 2) := by decide +kernel
theorem dX1_follow_5 : decode cX1_follow 5 = .ok (.iload_n 3, 1) := by decide +kernel
theorem dX1_follow_6 : decode cX1_follow 6 = .ok (.if_icmp .gt 65, 3) := by decide +kernel
theorem dX1_follow_9 : decode cX1_follow 9 = .ok (.iload 4, 2) := by decide +kernel
theorem dX1_follow_11 : decode cX1_follow 11 = .ok (.ifCond .eq 10, 3) := by decide +kernel
theorem dX1_follow_14 : decode cX1_follow 14 = .ok (.iload_n 3, 1) := by decide +kernel
theorem dX1_follow_15 : decode cX1_follow 15 = .ok (.iload 5, 2) := by decide +kernel
theorem dX1_follow_17 : decode cX1_follow 17 = .ok (.isub, 1) := by decide +kernel
theorem dX1_follow_18 : decode cX1_follow 18 = .ok (.goto 5, 3) := by decide +kernel
theorem dX1_follow_21 : decode cX1_follow 21 = .ok (.iload 5, 2) := by decide +kernel
theorem dX1_follow_23 : decode cX1_follow 23 = .ok (.istore 6, 2) := by decide +kernel
theorem dX1_follow_25 : decode cX1_follow 25 = .ok (.aload_n 0, 1) := by decide +kernel
theorem dX1_follow_26 : decode cX1_follow 26 = .ok (.getfield 12, 3) := by decide +kernel
theorem dX1_follow_29 : decode cX1_follow 29 = .ok (.aload_n 1, 1) := by decide +kernel
theorem dX1_follow_30 : decode cX1_follow 30 = .ok (.iload_n 2, 1) := by decide +kernel
theorem dX1_follow_31 : decode cX1_follow 31 = .ok (.iload 6, 2) := by decide +kernel
theorem dX1_follow_33 : decode cX1_follow 33 = .ok (.iload_n 3, 1) := by decide +kernel
theorem dX1_follow_34 : decode cX1_follow 34 = .ok (.invokevirtual 69, 3) := by decide +kernel
theorem dX1_follow_37 : decode cX1_follow 37 = .ok (.aload_n 1, 1) := by decide +kernel
theorem dX1_follow_38 : decode cX1_follow 38 = .ok (.iload_n 2, 1) := by decide +kernel
theorem dX1_follow_39 : decode cX1_follow 39 = .ok (.iload 6, 2) := by decide +kernel
theorem dX1_follow_41 : decode cX1_follow 41 = .ok (.iload_n 3, 1) := by decide +kernel
theorem dX1_follow_42 : decode cX1_follow 42 = .ok (.invokevirtual 73, 3) := by decide +kernel
theorem dX1_follow_45 : decode cX1_follow 45 = .ok (.invokevirtual 105, 3) := by decide +kernel
theorem dX1_follow_48 : decode cX1_follow 48 = .ok (.lstore 7, 2) := by decide +kernel
theorem dX1_follow_50 : decode cX1_follow 50 = .ok (.aload_n 0, 1) := by decide +kernel
theorem dX1_follow_51 : decode cX1_follow 51 = .ok (.getfield 21, 3) := by decide +kernel
theorem dX1_follow_54 : decode cX1_follow 54 = .ok (.lload 7, 2) := by decide +kernel
theorem dX1_follow_56 : decode cX1_follow 56 = .ok (.aload_n 1, 1) := by decide +kernel
theorem dX1_follow_57 : decode cX1_follow 57 = .ok (.getfield 132, 3) := by decide +kernel
theorem dX1_follow_60 : decode cX1_follow 60 = .ok (.iload_n 2, 1) := by decide +kernel
theorem dX1_follow_61 : decode cX1_follow 61 = .ok (.iaload, 1) := by decide +kernel
theorem dX1_follow_62 : decode cX1_follow 62 = .ok (.invokevirtual 135, 3) := by decide +kernel
theorem dX1_follow_65 : decode cX1_follow 65 = .ok (.iinc 5 1, 3) := by decide +kernel
theorem dX1_follow_68 : decode cX1_follow 68 = .ok (.goto (-65), 3) := by decide +kernel
theorem dX1_follow_71 : decode cX1_follow 71 = .ok (.return_, 1) := by decide +kernel
theorem dX2_init_0 : decode cX2_init 0 = .ok (.aload_n 0, 1) := by decide +kernel
theorem dX2_init_1 : decode cX2_init 1 = .ok (.invokespecial 3, 3) := by decide +kernel
theorem dX2_init_4 : decode cX2_init 4 = .ok (.aload_n 0, 1) := by decide +kernel
theorem dX2_init_5 : decode cX2_init 5 = .ok (.bipush 6, 2) := by decide +kernel
theorem dX2_init_7 : decode cX2_init 7 = .ok (.anewarray 9, 3) := by decide +kernel
theorem dX2_init_10 : decode cX2_init 10 = .ok (.putfield 11, 3) := by decide +kernel
theorem dX2_init_13 : decode cX2_init 13 = .ok (.iconst 0, 1) := by decide +kernel
theorem dX2_init_14 : decode cX2_init 14 = .ok (.istore_n 1, 1) := by decide +kernel
theorem dX2_init_15 : decode cX2_init 15 = .ok (.iload_n 1, 1) := by decide +kernel
theorem dX2_init_16 : decode cX2_init 16 = .ok (.bipush 6, 2) := by decide +kernel
theorem dX2_init_18 : decode cX2_init 18 = .ok (.if_icmp .ge 22, 3) := by decide +kernel
theorem dX2_init_21 : decode cX2_init 21 = .ok (.aload_n 0, 1) := by decide +kernel
theorem dX2_init_22 : decode cX2_init 22 = .ok (.getfield 11, 3) := by decide +kernel
theorem dX2_init_25 : decode cX2_init 25 = .ok (.iload_n 1, 1) := by decide +kernel
theorem dX2_init_26 : decode cX2_init 26 = .ok (.new 9, 3) := by decide +kernel
theorem dX2_init_29 : decode cX2_init 29 = .ok (.dup, 1) := by decide +kernel
theorem dX2_init_30 : decode cX2_init 30 = .ok (.invokespecial 17, 3) := by decide +kernel
theorem dX2_init_33 : decode cX2_init 33 = .ok (.aastore, 1) := by decide +kernel
theorem dX2_init_34 : decode cX2_init 34 = .ok (.iinc 1 1, 3) := by decide +kernel
theorem dX2_init_37 : decode cX2_init 37 = .ok (.goto (-22), 3) := by decide +kernel
theorem dX2_init_40 : decode cX2_init 40 = .ok (.return_, 1) := by decide +kernel
theorem dX2_save_0 : decode cX2_save 0 = .ok (.aload_n 0, 1) := by decide +kernel
theorem dX2_save_1 : decode cX2_save 1 = .ok (.getfield 18, 3) := by decide +kernel
theorem dX2_save_4 : decode cX2_save 4 = .ok (.bipush 6, 2) := by decide +kernel
theorem dX2_save_6 : decode cX2_save 6 = .ok (.if_icmp .ne 7, 3) := by decide +kernel
theorem dX2_save_9 : decode cX2_save 9 = .ok (.aload_n 0, 1) := by decide +kernel
theorem dX2_save_10 : decode cX2_save 10 = .ok (.invokevirtual 22, 3) := by decide +kernel
theorem dX2_save_13 : decode cX2_save 13 = .ok (.aload_n 0, 1) := by decide +kernel
theorem dX2_save_14 : decode cX2_save 14 = .ok (.getfield 11, 3) := by decide +kernel
theorem dX2_save_17 : decode cX2_save 17 = .ok (.aload_n 0, 1) := by decide +kernel
theorem dX2_save_18 : decode cX2_save 18 = .ok (.getfield 18, 3) := by decide +kernel
theorem dX2_save_21 : decode cX2_save 21 = .ok (.aaload, 1) := by decide +kernel
theorem dX2_save_22 : decode cX2_save 22 = .ok (.aload_n 1, 1) := by decide +kernel
theorem dX2_save_23 : decode cX2_save 23 = .ok (.invokevirtual 25, 3) := by decide +kernel
theorem dX2_save_26 : decode cX2_save 26 = .ok (.aload_n 0, 1) := by decide +kernel
theorem dX2_save_27 : decode cX2_save 27 = .ok (.dup, 1) := by decide +kernel
theorem dX2_save_28 : decode cX2_save 28 = .ok (.getfield 18, 3) := by decide +kernel
theorem dX2_save_31 : decode cX2_save 31 = .ok (.iconst 1, 1) := by decide +kernel
theorem dX2_save_32 : decode cX2_save 32 = .ok (.iadd, 1) := by decide +kernel
theorem dX2_save_33 : decode cX2_save 33 = .ok (.putfield 18, 3) := by decide +kernel
theorem dX2_save_36 : decode cX2_save 36 = .ok (.return_, 1) := by decide +kernel
theorem dX2_dropOldest_0 : decode cX2_dropOldest 0 = .ok (.aload_n 0, 1) := by decide +kernel
theorem dX2_dropOldest_1 : decode cX2_dropOldest 1 = .ok (.getfield 11, 3) := by decide +kernel
theorem dX2_dropOldest_4 : decode cX2_dropOldest 4 = .ok (.iconst 0, 1) := by decide +kernel
theorem dX2_dropOldest_5 : decode cX2_dropOldest 5 = .ok (.aaload, 1) := by decide +kernel
theorem dX2_dropOldest_6 : decode cX2_dropOldest 6 = .ok (.astore_n 1, 1) := by decide +kernel
theorem dX2_dropOldest_7 : decode cX2_dropOldest 7 = .ok (.iconst 1, 1) := by decide +kernel
theorem dX2_dropOldest_8 : decode cX2_dropOldest 8 = .ok (.istore_n 2, 1) := by decide +kernel
theorem dX2_dropOldest_9 : decode cX2_dropOldest 9 = .ok (.iload_n 2, 1) := by decide +kernel
theorem dX2_dropOldest_10 : decode cX2_dropOldest 10 = .ok (.bipush 6, 2) := by decide +kernel
theorem dX2_dropOldest_12 : decode cX2_dropOldest 12 = .ok (.if_icmp .ge 23, 3) := by decide +kernel
theorem dX2_dropOldest_15 : decode cX2_dropOldest 15 = .ok (.aload_n 0, 1) := by decide +kernel
theorem dX2_dropOldest_16 : decode cX2_dropOldest 16 = .ok (.getfield 11, 3) := by decide +kernel
theorem dX2_dropOldest_19 : decode cX2_dropOldest 19 = .ok (.iload_n 2, 1) := by decide +kernel
theorem dX2_dropOldest_20 : decode cX2_dropOldest 20 = .ok (.iconst 1, 1) := by decide +kernel
theorem dX2_dropOldest_21 : decode cX2_dropOldest 21 = .ok (.isub, 1) := by decide +kernel
theorem dX2_dropOldest_22 : decode cX2_dropOldest 22 = .ok (.aload_n 0, 1) := by decide +kernel
theorem dX2_dropOldest_23 : decode cX2_dropOldest 23 = .ok (.getfield 11, 3) := by decide +kernel
theorem dX2_dropOldest_26 : decode cX2_dropOldest 26 = .ok (.iload_n 2, 1) := by decide +kernel
theorem dX2_dropOldest_27 : decode cX2_dropOldest 27 = .ok (.aaload, 1) := by decide +kernel
theorem dX2_dropOldest_28 : decode cX2_dropOldest 28 = .ok (.aastore, 1) := by decide +kernel
theorem dX2_dropOldest_29 : decode cX2_dropOldest 29 = .ok (.iinc 2 1, 3) := by decide +kernel
theorem dX2_dropOldest_32 : decode cX2_dropOldest 32 = .ok (.goto (-23), 3) := by decide +kernel
theorem dX2_dropOldest_35 : decode cX2_dropOldest 35 = .ok (.aload_n 0, 1) := by decide +kernel
theorem dX2_dropOldest_36 : decode cX2_dropOldest 36 = .ok (.getfield 11, 3) := by decide +kernel
theorem dX2_dropOldest_39 : decode cX2_dropOldest 39 = .ok (.iconst 5, 1) := by decide +kernel
theorem dX2_dropOldest_40 : decode cX2_dropOldest 40 = .ok (.aload_n 1, 1) := by decide +kernel
theorem dX2_dropOldest_41 : decode cX2_dropOldest 41 = .ok (.aastore, 1) := by decide +kernel
theorem dX2_dropOldest_42 : decode cX2_dropOldest 42 = .ok (.aload_n 0, 1) := by decide +kernel
theorem dX2_dropOldest_43 : decode cX2_dropOldest 43 = .ok (.dup, 1) := by decide +kernel
theorem dX2_dropOldest_44 : decode cX2_dropOldest 44 = .ok (.getfield 18, 3) := by decide +kernel
theorem dX2_dropOldest_47 : decode cX2_dropOldest 47 = .ok (.iconst 1, 1) := by decide +kernel
theorem dX2_dropOldest_48 : decode cX2_dropOldest 48 = .ok (.isub, 1) := by decide +kernel
theorem dX2_dropOldest_49 : decode cX2_dropOldest 49 = .ok (.putfield 18, 3) := by decide +kernel
theorem dX2_dropOldest_52 : decode cX2_dropOldest 52 = .ok (.return_, 1) := by decide +kernel
theorem dX3_init_0 : decode cX3_init 0 = .ok (.aload_n 0, 1) := by decide +kernel
theorem dX3_init_1 : decode cX3_init 1 = .ok (.invokespecial 3, 3) := by decide +kernel
theorem dX3_init_4 : decode cX3_init 4 = .ok (.aload_n 0, 1) := by decide +kernel
theorem dX3_init_5 : decode cX3_init 5 = .ok (.bipush 12, 2) := by decide +kernel
theorem dX3_init_7 : decode cX3_init 7 = .ok (.newarray .long, 2) := by decide +kernel
theorem dX3_init_9 : decode cX3_init 9 = .ok (.putfield 9, 3) := by decide +kernel
theorem dX3_init_12 : decode cX3_init 12 = .ok (.aload_n 0, 1) := by decide +kernel
theorem dX3_init_13 : decode cX3_init 13 = .ok (.bipush 12, 2) := by decide +kernel
theorem dX3_init_15 : decode cX3_init 15 = .ok (.newarray .long, 2) := by decide +kernel
theorem dX3_init_17 : decode cX3_init 17 = .ok (.putfield 15, 3) := by decide +kernel
theorem dX3_init_20 : decode cX3_init 20 = .ok (.aload_n 0, 1) := by decide +kernel
theorem dX3_init_21 : decode cX3_init 21 = .ok (.bipush 12, 2) := by decide +kernel
theorem dX3_init_23 : decode cX3_init 23 = .ok (.newarray .boolean, 2) := by decide +kernel
theorem dX3_init_25 : decode cX3_init 25 = .ok (.putfield 18, 3) := by decide +kernel
theorem dX3_init_28 : decode cX3_init 28 = .ok (.return_, 1) := by decide +kernel
theorem dX3_take_0 : decode cX3_take 0 = .ok (.aload_n 0, 1) := by decide +kernel
theorem dX3_take_1 : decode cX3_take 1 = .ok (.aload_n 1, 1) := by decide +kernel
theorem dX3_take_2 : decode cX3_take 2 = .ok (.getfield 22, 3) := by decide +kernel
theorem dX3_take_5 : decode cX3_take 5 = .ok (.getfield 28, 3) := by decide +kernel
theorem dX3_take_8 : decode cX3_take 8 = .ok (.putfield 34, 3) := by decide +kernel
theorem dX3_take_11 : decode cX3_take 11 = .ok (.aload_n 0, 1) := by decide +kernel
theorem dX3_take_12 : decode cX3_take 12 = .ok (.aload_n 0, 1) := by decide +kernel
theorem dX3_take_13 : decode cX3_take 13 = .ok (.getfield 34, 3) := by decide +kernel
theorem dX3_take_16 : decode cX3_take 16 = .ok (.putfield 36, 3) := by decide +kernel
theorem dX3_take_19 : decode cX3_take 19 = .ok (.aload_n 1, 1) := by decide +kernel
theorem dX3_take_20 : decode cX3_take 20 = .ok (.invokevirtual 39, 3) := by decide +kernel
theorem dX3_take_23 : decode cX3_take 23 = .ok (.lstore_n 2, 1) := by decide +kernel
theorem dX3_take_24 : decode cX3_take 24 = .ok (.iconst 0, 1) := by decide +kernel
theorem dX3_take_25 : decode cX3_take 25 = .ok (.istore 4, 2) := by decide +kernel
theorem dX3_take_27 : decode cX3_take 27 = .ok (.iload 4, 2) := by decide +kernel
theorem dX3_take_29 : decode cX3_take 29 = .ok (.aload_n 0, 1) := by decide +kernel
theorem dX3_take_30 : decode cX3_take 30 = .ok (.getfield 34, 3) := by decide +kernel
theorem dX3_take_33 : decode cX3_take 33 = .ok (.if_icmp .ge 34, 3) := by decide +kernel
theorem dX3_take_36 : decode cX3_take 36 = .ok (.aload_n 0, 1) := by decide +kernel
theorem dX3_take_37 : decode cX3_take 37 = .ok (.getfield 9, 3) := by decide +kernel
theorem dX3_take_40 : decode cX3_take 40 = .ok (.iload 4, 2) := by decide +kernel
theorem dX3_take_42 : decode cX3_take 42 = .ok (.aload_n 1, 1) := by decide +kernel
theorem dX3_take_43 : decode cX3_take 43 = .ok (.getfield 22, 3) := by decide +kernel
theorem dX3_take_46 : decode cX3_take 46 = .ok (.iload 4, 2) := by decide +kernel
theorem dX3_take_48 : decode cX3_take 48 = .ok (.lload_n 2, 1) := by decide +kernel
theorem dX3_take_49 : decode cX3_take 49 = .ok (.invokevirtual 43, 3) := by decide +kernel
theorem dX3_take_52 : decode cX3_take 52 = .ok (.lastore, 1) := by decide +kernel
theorem dX3_take_53 : decode cX3_take 53 = .ok (.aload_n 0, 1) := by decide +kernel
theorem dX3_take_54 : decode cX3_take 54 = .ok (.getfield 18, 3) := by decide +kernel
theorem dX3_take_57 : decode cX3_take 57 = .ok (.iload 4, 2) := by decide +kernel
theorem dX3_take_59 : decode cX3_take 59 = .ok (.iconst 0, 1) := by decide +kernel
theorem dX3_take_60 : decode cX3_take 60 = .ok (.bastore, 1) := by decide +kernel
theorem dX3_take_61 : decode cX3_take 61 = .ok (.iinc 4 1, 3) := by decide +kernel
theorem dX3_take_64 : decode cX3_take 64 = .ok (.goto (-37), 3) := by decide +kernel
theorem dX3_take_67 : decode cX3_take 67 = .ok (.aload_n 0, 1) := by decide +kernel
theorem dX3_take_68 : decode cX3_take 68 = .ok (.aload_n 1, 1) := by decide +kernel
theorem dX3_take_69 : decode cX3_take 69 = .ok (.getfield 47, 3) := by decide +kernel
theorem dX3_take_72 : decode cX3_take 72 = .ok (.invokevirtual 50, 3) := by decide +kernel
theorem dX3_take_75 : decode cX3_take 75 = .ok (.aload_n 0, 1) := by decide +kernel
theorem dX3_take_76 : decode cX3_take 76 = .ok (.aload_n 0, 1) := by decide +kernel
theorem dX3_take_77 : decode cX3_take 77 = .ok (.invokevirtual 54, 3) := by decide +kernel
theorem dX3_take_80 : decode cX3_take 80 = .ok (.aload_n 0, 1) := by decide +kernel
theorem dX3_take_81 : decode cX3_take 81 = .ok (.getfield 36, 3) := by decide +kernel
theorem dX3_take_84 : decode cX3_take 84 = .ok (.i2l, 1) := by decide +kernel
theorem dX3_take_85 : decode cX3_take 85 = .ok (.invokestatic 57, 3) := by decide +kernel
theorem dX3_take_88 : decode cX3_take 88 = .ok (.putfield 61, 3) := by decide +kernel
theorem dX3_take_91 : decode cX3_take 91 = .ok (.return_, 1) := by decide +kernel
theorem dX3_leaveOut_0 : decode cX3_leaveOut 0 = .ok (.iconst 0, 1) := by decide +kernel
theorem dX3_leaveOut_1 : decode cX3_leaveOut 1 = .ok (.istore_n 2, 1) := by decide +kernel
theorem dX3_leaveOut_2 : decode cX3_leaveOut 2 = .ok (.iload_n 2, 1) := by decide +kernel
theorem dX3_leaveOut_3 : decode cX3_leaveOut 3 = .ok (.bipush 12, 2) := by decide +kernel
theorem dX3_leaveOut_5 : decode cX3_leaveOut 5 = .ok (.if_icmp .ge 68, 3) := by decide +kernel
theorem dX3_leaveOut_8 : decode cX3_leaveOut 8 = .ok (.aload_n 0, 1) := by decide +kernel
theorem dX3_leaveOut_9 : decode cX3_leaveOut 9 = .ok (.getfield 36, 3) := by decide +kernel
theorem dX3_leaveOut_12 : decode cX3_leaveOut 12 = .ok (.iconst 2, 1) := by decide +kernel
theorem dX3_leaveOut_13 : decode cX3_leaveOut 13 = .ok (.if_icmp .le 60, 3) := by decide +kernel
theorem dX3_leaveOut_16 : decode cX3_leaveOut 16 = .ok (.aload_n 0, 1) := by decide +kernel
theorem dX3_leaveOut_17 : decode cX3_leaveOut 17 = .ok (.invokevirtual 65, 3) := by decide +kernel
theorem dX3_leaveOut_20 : decode cX3_leaveOut 20 = .ok (.lstore_n 3, 1) := by decide +kernel
theorem dX3_leaveOut_21 : decode cX3_leaveOut 21 = .ok (.aload_n 0, 1) := by decide +kernel
theorem dX3_leaveOut_22 : decode cX3_leaveOut 22 = .ok (.lload_n 3, 1) := by decide +kernel
theorem dX3_leaveOut_23 : decode cX3_leaveOut 23 = .ok (.invokevirtual 68, 3) := by decide +kernel
theorem dX3_leaveOut_26 : decode cX3_leaveOut 26 = .ok (.istore 5, 2) := by decide +kernel
theorem dX3_leaveOut_28 : decode cX3_leaveOut 28 = .ok (.aload_n 0, 1) := by decide +kernel
theorem dX3_leaveOut_29 : decode cX3_leaveOut 29 = .ok (.getfield 9, 3) := by decide +kernel
theorem dX3_leaveOut_32 : decode cX3_leaveOut 32 = .ok (.iload 5, 2) := by decide +kernel
theorem dX3_leaveOut_34 : decode cX3_leaveOut 34 = .ok (.laload, 1) := by decide +kernel
theorem dX3_leaveOut_35 : decode cX3_leaveOut 35 = .ok (.lload_n 3, 1) := by decide +kernel
theorem dX3_leaveOut_36 : decode cX3_leaveOut 36 = .ok (.lsub, 1) := by decide +kernel
theorem dX3_leaveOut_37 : decode cX3_leaveOut 37 = .ok (.invokestatic 72, 3) := by decide +kernel
theorem dX3_leaveOut_40 : decode cX3_leaveOut 40 = .ok (.iload_n 1, 1) := by decide +kernel
theorem dX3_leaveOut_41 : decode cX3_leaveOut 41 = .ok (.i2l, 1) := by decide +kernel
theorem dX3_leaveOut_42 : decode cX3_leaveOut 42 = .ok (.lcmp, 1) := by decide +kernel
theorem dX3_leaveOut_43 : decode cX3_leaveOut 43 = .ok (.ifCond .gt 6, 3) := by decide +kernel
theorem dX3_leaveOut_46 : decode cX3_leaveOut 46 = .ok (.goto 27, 3) := by decide +kernel
theorem dX3_leaveOut_49 : decode cX3_leaveOut 49 = .ok (.aload_n 0, 1) := by decide +kernel
theorem dX3_leaveOut_50 : decode cX3_leaveOut 50 = .ok (.getfield 18, 3) := by decide +kernel
theorem dX3_leaveOut_53 : decode cX3_leaveOut 53 = .ok (.iload 5, 2) := by decide +kernel
theorem dX3_leaveOut_55 : decode cX3_leaveOut 55 = .ok (.iconst 1, 1) := by decide +kernel
theorem dX3_leaveOut_56 : decode cX3_leaveOut 56 = .ok (.bastore, 1) := by decide +kernel
theorem dX3_leaveOut_57 : decode cX3_leaveOut 57 = .ok (.aload_n 0, 1) := by decide +kernel
theorem dX3_leaveOut_58 : decode cX3_leaveOut 58 = .ok (.dup, 1) := by decide +kernel
theorem dX3_leaveOut_59 : decode cX3_leaveOut 59 = .ok (.getfield 36, 3) := by decide +kernel
theorem dX3_leaveOut_62 : decode cX3_leaveOut 62 = .ok (.iconst 1, 1) := by decide +kernel
theorem dX3_leaveOut_63 : decode cX3_leaveOut 63 = .ok (.isub, 1) := by decide +kernel
theorem dX3_leaveOut_64 : decode cX3_leaveOut 64 = .ok (.putfield 36, 3) := by decide +kernel
theorem dX3_leaveOut_67 : decode cX3_leaveOut 67 = .ok (.iinc 2 1, 3) := by decide +kernel
theorem dX3_leaveOut_70 : decode cX3_leaveOut 70 = .ok (.goto (-68), 3) := by decide +kernel
theorem dX3_leaveOut_73 : decode cX3_leaveOut 73 = .ok (.return_, 1) := by decide +kernel
theorem dX3_middleOfKept_0 : decode cX3_middleOfKept 0 = .ok (.iconst 0, 1) := by decide +kernel
theorem dX3_middleOfKept_1 : decode cX3_middleOfKept 1 = .ok (.istore_n 1, 1) := by decide +kernel
theorem dX3_middleOfKept_2 : decode cX3_middleOfKept 2 = .ok (.iconst 0, 1) := by decide +kernel
theorem dX3_middleOfKept_3 : decode cX3_middleOfKept 3 = .ok (.istore_n 2, 1) := by decide +kernel
theorem dX3_middleOfKept_4 : decode cX3_middleOfKept 4 = .ok (.iload_n 2, 1) := by decide +kernel
theorem dX3_middleOfKept_5 : decode cX3_middleOfKept 5 = .ok (.aload_n 0, 1) := by decide +kernel
theorem dX3_middleOfKept_6 : decode cX3_middleOfKept 6 = .ok (.getfield 34, 3) := by decide +kernel
theorem dX3_middleOfKept_9 : decode cX3_middleOfKept 9 = .ok (.if_icmp .ge 32, 3) := by decide +kernel
theorem dX3_middleOfKept_12 : decode cX3_middleOfKept 12 = .ok (.aload_n 0, 1) := by decide +kernel
theorem dX3_middleOfKept_13 : decode cX3_middleOfKept 13 = .ok (.getfield 18, 3) := by decide +kernel
theorem dX3_middleOfKept_16 : decode cX3_middleOfKept 16 = .ok (.iload_n 2, 1) := by decide +kernel
theorem dX3_middleOfKept_17 : decode cX3_middleOfKept 17 = .ok (.baload, 1) := by decide +kernel
theorem dX3_middleOfKept_18 : decode cX3_middleOfKept 18 = .ok (.ifCond .ne 17, 3) := by decide +kernel
theorem dX3_middleOfKept_21 : decode cX3_middleOfKept 21 = .ok (.aload_n 0, 1) := by decide +kernel
theorem dX3_middleOfKept_22 : decode cX3_middleOfKept 22 = .ok (.aload_n 0, 1) := by decide +kernel
theorem dX3_middleOfKept_23 : decode cX3_middleOfKept 23 = .ok (.getfield 9, 3) := by decide +kernel
theorem dX3_middleOfKept_26 : decode cX3_middleOfKept 26 = .ok (.iload_n 2, 1) := by decide +kernel
theorem dX3_middleOfKept_27 : decode cX3_middleOfKept 27 = .ok (.laload, 1) := by decide +kernel
theorem dX3_middleOfKept_28 : decode cX3_middleOfKept 28 = .ok (.iload_n 1, 1) := by decide +kernel
theorem dX3_middleOfKept_29 : decode cX3_middleOfKept 29 = .ok (.invokevirtual 78, 3) := by decide +kernel
theorem dX3_middleOfKept_32 : decode cX3_middleOfKept 32 = .ok (.iinc 1 1, 3) := by decide +kernel
theorem dX3_middleOfKept_35 : decode cX3_middleOfKept 35 = .ok (.iinc 2 1, 3) := by decide +kernel
theorem dX3_middleOfKept_38 : decode cX3_middleOfKept 38 = .ok (.goto (-34), 3) := by decide +kernel
theorem dX3_middleOfKept_41 : decode cX3_middleOfKept 41 = .ok (.aload_n 0, 1) := by decide +kernel
theorem dX3_middleOfKept_42 : decode cX3_middleOfKept 42 = .ok (.getfield 15, 3) := by decide +kernel
theorem dX3_middleOfKept_45 : decode cX3_middleOfKept 45 = .ok (.iconst 0, 1) := by decide +kernel
theorem dX3_middleOfKept_46 : decode cX3_middleOfKept 46 = .ok (.iload_n 1, 1) := by decide +kernel
theorem dX3_middleOfKept_47 : decode cX3_middleOfKept 47 = .ok (.iconst 1, 1) := by decide +kernel
theorem dX3_middleOfKept_48 : decode cX3_middleOfKept 48 = .ok (.isub, 1) := by decide +kernel
theorem dX3_middleOfKept_49 : decode cX3_middleOfKept 49 = .ok (.invokestatic 82, 3) := by decide +kernel
theorem dX3_middleOfKept_52 : decode cX3_middleOfKept 52 = .ok (.iconst 2, 1) := by decide +kernel
theorem dX3_middleOfKept_53 : decode cX3_middleOfKept 53 = .ok (.idiv, 1) := by decide +kernel
theorem dX3_middleOfKept_54 : decode cX3_middleOfKept 54 = .ok (.laload, 1) := by decide +kernel
theorem dX3_middleOfKept_55 : decode cX3_middleOfKept 55 = .ok (.lreturn, 1) := by decide +kernel
theorem dX3_sortIn_0 : decode cX3_sortIn 0 = .ok (.iload_n 3, 1) := by decide +kernel
theorem dX3_sortIn_1 : decode cX3_sortIn 1 = .ok (.istore 4, 2) := by decide +kernel
theorem dX3_sortIn_3 : decode cX3_sortIn 3 = .ok (.iload 4, 2) := by decide +kernel
theorem dX3_sortIn_5 : decode cX3_sortIn 5 = .ok (.ifCond .le 39, 3) := by decide +kernel
theorem dX3_sortIn_8 : decode cX3_sortIn 8 = .ok (.aload_n 0, 1) := by decide +kernel
theorem dX3_sortIn_9 : decode cX3_sortIn 9 = .ok (.getfield 15, 3) := by decide +kernel
theorem dX3_sortIn_12 : decode cX3_sortIn 12 = .ok (.iload 4, 2) := by decide +kernel
theorem dX3_sortIn_14 : decode cX3_sortIn 14 = .ok (.iconst 1, 1) := by decide +kernel
theorem dX3_sortIn_15 : decode cX3_sortIn 15 = .ok (.isub, 1) := by decide +kernel
theorem dX3_sortIn_16 : decode cX3_sortIn 16 = .ok (.laload, 1) := by decide +kernel
theorem dX3_sortIn_17 : decode cX3_sortIn 17 = .ok (.lload_n 1, 1) := by decide +kernel
theorem dX3_sortIn_18 : decode cX3_sortIn 18 = .ok (.lcmp, 1) := by decide +kernel
theorem dX3_sortIn_19 : decode cX3_sortIn 19 = .ok (.ifCond .le 25, 3) := by decide +kernel
theorem dX3_sortIn_22 : decode cX3_sortIn 22 = .ok (.aload_n 0, 1) := by decide +kernel
theorem dX3_sortIn_23 : decode cX3_sortIn 23 = .ok (.getfield 15, 3) := by decide +kernel
theorem dX3_sortIn_26 : decode cX3_sortIn 26 = .ok (.iload 4, 2) := by decide +kernel
theorem dX3_sortIn_28 : decode cX3_sortIn 28 = .ok (.aload_n 0, 1) := by decide +kernel
theorem dX3_sortIn_29 : decode cX3_sortIn 29 = .ok (.getfield 15, 3) := by decide +kernel
theorem dX3_sortIn_32 : decode cX3_sortIn 32 = .ok (.iload 4, 2) := by decide +kernel
theorem dX3_sortIn_34 : decode cX3_sortIn 34 = .ok (.iconst 1, 1) := by decide +kernel
theorem dX3_sortIn_35 : decode cX3_sortIn 35 = .ok (.isub, 1) := by decide +kernel
theorem dX3_sortIn_36 : decode cX3_sortIn 36 = .ok (.laload, 1) := by decide +kernel
theorem dX3_sortIn_37 : decode cX3_sortIn 37 = .ok (.lastore, 1) := by decide +kernel
theorem dX3_sortIn_38 : decode cX3_sortIn 38 = .ok (.iinc 4 (-1), 3) := by decide +kernel
theorem dX3_sortIn_41 : decode cX3_sortIn 41 = .ok (.goto (-38), 3) := by decide +kernel
theorem dX3_sortIn_44 : decode cX3_sortIn 44 = .ok (.aload_n 0, 1) := by decide +kernel
theorem dX3_sortIn_45 : decode cX3_sortIn 45 = .ok (.getfield 15, 3) := by decide +kernel
theorem dX3_sortIn_48 : decode cX3_sortIn 48 = .ok (.iload 4, 2) := by decide +kernel
theorem dX3_sortIn_50 : decode cX3_sortIn 50 = .ok (.lload_n 1, 1) := by decide +kernel
theorem dX3_sortIn_51 : decode cX3_sortIn 51 = .ok (.lastore, 1) := by decide +kernel
theorem dX3_sortIn_52 : decode cX3_sortIn 52 = .ok (.return_, 1) := by decide +kernel
theorem dX3_farthestFrom_0 : decode cX3_farthestFrom 0 = .ok (.iconst 0, 1) := by decide +kernel
theorem dX3_farthestFrom_1 : decode cX3_farthestFrom 1 = .ok (.istore_n 3, 1) := by decide +kernel
theorem dX3_farthestFrom_2 : decode cX3_farthestFrom 2 = .ok (.ldc2_w 86, 3) := by decide +kernel
theorem dX3_farthestFrom_5 : decode cX3_farthestFrom 5 = .ok (.lstore 4, 2) := by decide +kernel
theorem dX3_farthestFrom_7 : decode cX3_farthestFrom 7 = .ok (.iconst 0, 1) := by decide +kernel
theorem dX3_farthestFrom_8 : decode cX3_farthestFrom 8 = .ok (.istore 6, 2) := by decide +kernel
theorem dX3_farthestFrom_10 : decode cX3_farthestFrom 10 = .ok (.iload 6, 2) := by decide +kernel
theorem dX3_farthestFrom_12 : decode cX3_farthestFrom 12 = .ok (.aload_n 0, 1) := by decide +kernel
theorem dX3_farthestFrom_13 : decode cX3_farthestFrom 13 = .ok (.getfield 34, 3) := by decide +kernel
theorem dX3_farthestFrom_16 : decode cX3_farthestFrom 16 = .ok (.if_icmp .ge 48, 3) := by decide +kernel
theorem dX3_farthestFrom_19 : decode cX3_farthestFrom 19 = .ok (.aload_n 0, 1) := by decide +kernel
theorem dX3_farthestFrom_20 : decode cX3_farthestFrom 20 = .ok (.getfield 9, 3) := by decide +kernel
theorem dX3_farthestFrom_23 : decode cX3_farthestFrom 23 = .ok (.iload 6, 2) := by decide +kernel
theorem dX3_farthestFrom_25 : decode cX3_farthestFrom 25 = .ok (.laload, 1) := by decide +kernel
theorem dX3_farthestFrom_26 : decode cX3_farthestFrom 26 = .ok (.lload_n 1, 1) := by decide +kernel
theorem dX3_farthestFrom_27 : decode cX3_farthestFrom 27 = .ok (.lsub, 1) := by decide +kernel
theorem dX3_farthestFrom_28 : decode cX3_farthestFrom 28 = .ok (.invokestatic 72, 3) := by decide +kernel
theorem dX3_farthestFrom_31 : decode cX3_farthestFrom 31 = .ok (.lstore 7, 2) := by decide +kernel
theorem dX3_farthestFrom_33 : decode cX3_farthestFrom 33 = .ok (.aload_n 0, 1) := by decide +kernel
theorem dX3_farthestFrom_34 : decode cX3_farthestFrom 34 = .ok (.getfield 18, 3) := by decide +kernel
theorem dX3_farthestFrom_37 : decode cX3_farthestFrom 37 = .ok (.iload 6, 2) := by decide +kernel
theorem dX3_farthestFrom_39 : decode cX3_farthestFrom 39 = .ok (.baload, 1) := by decide +kernel
theorem dX3_farthestFrom_40 : decode cX3_farthestFrom 40 = .ok (.ifCond .ne 18, 3) := by decide +kernel
theorem dX3_farthestFrom_43 : decode cX3_farthestFrom 43 = .ok (.lload 7, 2) := by decide +kernel
theorem dX3_farthestFrom_45 : decode cX3_farthestFrom 45 = .ok (.lload 4, 2) := by decide +kernel
theorem dX3_farthestFrom_47 : decode cX3_farthestFrom 47 = .ok (.lcmp, 1) := by decide +kernel
theorem dX3_farthestFrom_48 : decode cX3_farthestFrom 48 = .ok (.ifCond .le 10, 3) := by decide +kernel
theorem dX3_farthestFrom_51 : decode cX3_farthestFrom 51 = .ok (.lload 7, 2) := by decide +kernel
theorem dX3_farthestFrom_53 : decode cX3_farthestFrom 53 = .ok (.lstore 4, 2) := by decide +kernel
theorem dX3_farthestFrom_55 : decode cX3_farthestFrom 55 = .ok (.iload 6, 2) := by decide +kernel
theorem dX3_farthestFrom_57 : decode cX3_farthestFrom 57 = .ok (.istore_n 3, 1) := by decide +kernel
theorem dX3_farthestFrom_58 : decode cX3_farthestFrom 58 = .ok (.iinc 6 1, 3) := by decide +kernel
theorem dX3_farthestFrom_61 : decode cX3_farthestFrom 61 = .ok (.goto (-51), 3) := by decide +kernel
theorem dX3_farthestFrom_64 : decode cX3_farthestFrom 64 = .ok (.iload_n 3, 1) := by decide +kernel
theorem dX3_farthestFrom_65 : decode cX3_farthestFrom 65 = .ok (.ireturn, 1) := by decide +kernel
theorem dX3_sumOfKept_0 : decode cX3_sumOfKept 0 = .ok (.lconst 0, 1) := by decide +kernel
theorem dX3_sumOfKept_1 : decode cX3_sumOfKept 1 = .ok (.lstore_n 1, 1) := by decide +kernel
theorem dX3_sumOfKept_2 : decode cX3_sumOfKept 2 = .ok (.iconst 0, 1) := by decide +kernel
theorem dX3_sumOfKept_3 : decode cX3_sumOfKept 3 = .ok (.istore_n 3, 1) := by decide +kernel
theorem dX3_sumOfKept_4 : decode cX3_sumOfKept 4 = .ok (.iload_n 3, 1) := by decide +kernel
theorem dX3_sumOfKept_5 : decode cX3_sumOfKept 5 = .ok (.aload_n 0, 1) := by decide +kernel
theorem dX3_sumOfKept_6 : decode cX3_sumOfKept 6 = .ok (.getfield 34, 3) := by decide +kernel
theorem dX3_sumOfKept_9 : decode cX3_sumOfKept 9 = .ok (.if_icmp .ge 27, 3) := by decide +kernel
theorem dX3_sumOfKept_12 : decode cX3_sumOfKept 12 = .ok (.aload_n 0, 1) := by decide +kernel
theorem dX3_sumOfKept_13 : decode cX3_sumOfKept 13 = .ok (.getfield 18, 3) := by decide +kernel
theorem dX3_sumOfKept_16 : decode cX3_sumOfKept 16 = .ok (.iload_n 3, 1) := by decide +kernel
theorem dX3_sumOfKept_17 : decode cX3_sumOfKept 17 = .ok (.baload, 1) := by decide +kernel
theorem dX3_sumOfKept_18 : decode cX3_sumOfKept 18 = .ok (.ifCond .ne 12, 3) := by decide +kernel
theorem dX3_sumOfKept_21 : decode cX3_sumOfKept 21 = .ok (.lload_n 1, 1) := by decide +kernel
theorem dX3_sumOfKept_22 : decode cX3_sumOfKept 22 = .ok (.aload_n 0, 1) := by decide +kernel
theorem dX3_sumOfKept_23 : decode cX3_sumOfKept 23 = .ok (.getfield 9, 3) := by decide +kernel
theorem dX3_sumOfKept_26 : decode cX3_sumOfKept 26 = .ok (.iload_n 3, 1) := by decide +kernel
theorem dX3_sumOfKept_27 : decode cX3_sumOfKept 27 = .ok (.laload, 1) := by decide +kernel
theorem dX3_sumOfKept_28 : decode cX3_sumOfKept 28 = .ok (.ladd, 1) := by decide +kernel
theorem dX3_sumOfKept_29 : decode cX3_sumOfKept 29 = .ok (.lstore_n 1, 1) := by decide +kernel
theorem dX3_sumOfKept_30 : decode cX3_sumOfKept 30 = .ok (.iinc 3 1, 3) := by decide +kernel
theorem dX3_sumOfKept_33 : decode cX3_sumOfKept 33 = .ok (.goto (-29), 3) := by decide +kernel
theorem dX3_sumOfKept_36 : decode cX3_sumOfKept 36 = .ok (.lload_n 1, 1) := by decide +kernel
theorem dX3_sumOfKept_37 : decode cX3_sumOfKept 37 = .ok (.lreturn, 1) := by decide +kernel
theorem dX4_init_0 : decode cX4_init 0 = .ok (.aload_n 0, 1) := by decide +kernel
theorem dX4_init_1 : decode cX4_init 1 = .ok (.invokespecial 3, 3) := by decide +kernel
theorem dX4_init_4 : decode cX4_init 4 = .ok (.aload_n 0, 1) := by decide +kernel
theorem dX4_init_5 : decode cX4_init 5 = .ok (.bipush 20, 2) := by decide +kernel
theorem dX4_init_7 : decode cX4_init 7 = .ok (.newarray .int, 2) := by decide +kernel
theorem dX4_init_9 : decode cX4_init 9 = .ok (.putfield 9, 3) := by decide +kernel
theorem dX4_init_12 : decode cX4_init 12 = .ok (.aload_n 0, 1) := by decide +kernel
theorem dX4_init_13 : decode cX4_init 13 = .ok (.bipush 20, 2) := by decide +kernel
theorem dX4_init_15 : decode cX4_init 15 = .ok (.newarray .int, 2) := by decide +kernel
theorem dX4_init_17 : decode cX4_init 17 = .ok (.putfield 15, 3) := by decide +kernel
theorem dX4_init_20 : decode cX4_init 20 = .ok (.aload_n 0, 1) := by decide +kernel
theorem dX4_init_21 : decode cX4_init 21 = .ok (.bipush 20, 2) := by decide +kernel
theorem dX4_init_23 : decode cX4_init 23 = .ok (.newarray .int, 2) := by decide +kernel
theorem dX4_init_25 : decode cX4_init 25 = .ok (.putfield 18, 3) := by decide +kernel
theorem dX4_init_28 : decode cX4_init 28 = .ok (.return_, 1) := by decide +kernel
theorem dX4_copy_0 : decode cX4_copy 0 = .ok (.aload_n 0, 1) := by decide +kernel
theorem dX4_copy_1 : decode cX4_copy 1 = .ok (.aload_n 1, 1) := by decide +kernel
theorem dX4_copy_2 : decode cX4_copy 2 = .ok (.getfield 21, 3) := by decide +kernel
theorem dX4_copy_5 : decode cX4_copy 5 = .ok (.putfield 21, 3) := by decide +kernel
theorem dX4_copy_8 : decode cX4_copy 8 = .ok (.aload_n 1, 1) := by decide +kernel
theorem dX4_copy_9 : decode cX4_copy 9 = .ok (.getfield 9, 3) := by decide +kernel
theorem dX4_copy_12 : decode cX4_copy 12 = .ok (.iconst 0, 1) := by decide +kernel
theorem dX4_copy_13 : decode cX4_copy 13 = .ok (.aload_n 0, 1) := by decide +kernel
theorem dX4_copy_14 : decode cX4_copy 14 = .ok (.getfield 9, 3) := by decide +kernel
theorem dX4_copy_17 : decode cX4_copy 17 = .ok (.iconst 0, 1) := by decide +kernel
theorem dX4_copy_18 : decode cX4_copy 18 = .ok (.bipush 20, 2) := by decide +kernel
theorem dX4_copy_20 : decode cX4_copy 20 = .ok (.invokestatic 25, 3) := by decide +kernel
theorem dX4_copy_23 : decode cX4_copy 23 = .ok (.aload_n 1, 1) := by decide +kernel
theorem dX4_copy_24 : decode cX4_copy 24 = .ok (.getfield 15, 3) := by decide +kernel
theorem dX4_copy_27 : decode cX4_copy 27 = .ok (.iconst 0, 1) := by decide +kernel
theorem dX4_copy_28 : decode cX4_copy 28 = .ok (.aload_n 0, 1) := by decide +kernel
theorem dX4_copy_29 : decode cX4_copy 29 = .ok (.getfield 15, 3) := by decide +kernel
theorem dX4_copy_32 : decode cX4_copy 32 = .ok (.iconst 0, 1) := by decide +kernel
theorem dX4_copy_33 : decode cX4_copy 33 = .ok (.bipush 20, 2) := by decide +kernel
theorem dX4_copy_35 : decode cX4_copy 35 = .ok (.invokestatic 25, 3) := by decide +kernel
theorem dX4_copy_38 : decode cX4_copy 38 = .ok (.aload_n 1, 1) := by decide +kernel
theorem dX4_copy_39 : decode cX4_copy 39 = .ok (.getfield 18, 3) := by decide +kernel
theorem dX4_copy_42 : decode cX4_copy 42 = .ok (.iconst 0, 1) := by decide +kernel
theorem dX4_copy_43 : decode cX4_copy 43 = .ok (.aload_n 0, 1) := by decide +kernel
theorem dX4_copy_44 : decode cX4_copy 44 = .ok (.getfield 18, 3) := by decide +kernel
theorem dX4_copy_47 : decode cX4_copy 47 = .ok (.iconst 0, 1) := by decide +kernel
theorem dX4_copy_48 : decode cX4_copy 48 = .ok (.bipush 20, 2) := by decide +kernel
theorem dX4_copy_50 : decode cX4_copy 50 = .ok (.invokestatic 25, 3) := by decide +kernel
theorem dX4_copy_53 : decode cX4_copy 53 = .ok (.return_, 1) := by decide +kernel
theorem dX4_open_0 : decode cX4_open 0 = .ok (.aload_n 0, 1) := by decide +kernel
theorem dX4_open_1 : decode cX4_open 1 = .ok (.getfield 21, 3) := by decide +kernel
theorem dX4_open_4 : decode cX4_open 4 = .ok (.istore 4, 2) := by decide +kernel
theorem dX4_open_6 : decode cX4_open 6 = .ok (.iload 4, 2) := by decide +kernel
theorem dX4_open_8 : decode cX4_open 8 = .ok (.iload_n 1, 1) := by decide +kernel
theorem dX4_open_9 : decode cX4_open 9 = .ok (.if_icmp .le 42, 3) := by decide +kernel
theorem dX4_open_12 : decode cX4_open 12 = .ok (.aload_n 0, 1) := by decide +kernel
theorem dX4_open_13 : decode cX4_open 13 = .ok (.iload 4, 2) := by decide +kernel
theorem dX4_open_15 : decode cX4_open 15 = .ok (.aload_n 0, 1) := by decide +kernel
theorem dX4_open_16 : decode cX4_open 16 = .ok (.getfield 9, 3) := by decide +kernel
theorem dX4_open_19 : decode cX4_open 19 = .ok (.iload 4, 2) := by decide +kernel
theorem dX4_open_21 : decode cX4_open 21 = .ok (.iconst 1, 1) := by decide +kernel
theorem dX4_open_22 : decode cX4_open 22 = .ok (.isub, 1) := by decide +kernel
theorem dX4_open_23 : decode cX4_open 23 = .ok (.iaload, 1) := by decide +kernel
theorem dX4_open_24 : decode cX4_open 24 = .ok (.aload_n 0, 1) := by decide +kernel
theorem dX4_open_25 : decode cX4_open 25 = .ok (.getfield 15, 3) := by decide +kernel
theorem dX4_open_28 : decode cX4_open 28 = .ok (.iload 4, 2) := by decide +kernel
theorem dX4_open_30 : decode cX4_open 30 = .ok (.iconst 1, 1) := by decide +kernel
theorem dX4_open_31 : decode cX4_open 31 = .ok (.isub, 1) := by decide +kernel
theorem dX4_open_32 : decode cX4_open 32 = .ok (.iaload, 1) := by decide +kernel
theorem dX4_open_33 : decode cX4_open 33 = .ok (.aload_n 0, 1) := by decide +kernel
theorem dX4_open_34 : decode cX4_open 34 = .ok (.getfield 18, 3) := by decide +kernel
theorem dX4_open_37 : decode cX4_open 37 = .ok (.iload 4, 2) := by decide +kernel
theorem dX4_open_39 : decode cX4_open 39 = .ok (.iconst 1, 1) := by decide +kernel
theorem dX4_open_40 : decode cX4_open 40 = .ok (.isub, 1) := by decide +kernel
theorem dX4_open_41 : decode cX4_open 41 = .ok (.iaload, 1) := by decide +kernel
theorem dX4_open_42 : decode cX4_open 42 = .ok (.invokevirtual 31, 3) := by decide +kernel
theorem dX4_open_45 : decode cX4_open 45 = .ok (.iinc 4 (-1), 3) := by decide +kernel
theorem dX4_open_48 : decode cX4_open 48 = .ok (.goto (-42), 3) := by decide +kernel
theorem dX4_open_51 : decode cX4_open 51 = .ok (.aload_n 0, 1) := by decide +kernel
theorem dX4_open_52 : decode cX4_open 52 = .ok (.iload_n 1, 1) := by decide +kernel
theorem dX4_open_53 : decode cX4_open 53 = .ok (.iload_n 2, 1) := by decide +kernel
theorem dX4_open_54 : decode cX4_open 54 = .ok (.iload_n 3, 1) := by decide +kernel
theorem dX4_open_55 : decode cX4_open 55 = .ok (.iconst 0, 1) := by decide +kernel
theorem dX4_open_56 : decode cX4_open 56 = .ok (.invokevirtual 31, 3) := by decide +kernel
theorem dX4_open_59 : decode cX4_open 59 = .ok (.aload_n 0, 1) := by decide +kernel
theorem dX4_open_60 : decode cX4_open 60 = .ok (.dup, 1) := by decide +kernel
theorem dX4_open_61 : decode cX4_open 61 = .ok (.getfield 21, 3) := by decide +kernel
theorem dX4_open_64 : decode cX4_open 64 = .ok (.iconst 1, 1) := by decide +kernel
theorem dX4_open_65 : decode cX4_open 65 = .ok (.iadd, 1) := by decide +kernel
theorem dX4_open_66 : decode cX4_open 66 = .ok (.putfield 21, 3) := by decide +kernel
theorem dX4_open_69 : decode cX4_open 69 = .ok (.return_, 1) := by decide +kernel
theorem dX4_close_0 : decode cX4_close 0 = .ok (.aload_n 0, 1) := by decide +kernel
theorem dX4_close_1 : decode cX4_close 1 = .ok (.dup, 1) := by decide +kernel
theorem dX4_close_2 : decode cX4_close 2 = .ok (.getfield 21, 3) := by decide +kernel
theorem dX4_close_5 : decode cX4_close 5 = .ok (.iconst 1, 1) := by decide +kernel
theorem dX4_close_6 : decode cX4_close 6 = .ok (.isub, 1) := by decide +kernel
theorem dX4_close_7 : decode cX4_close 7 = .ok (.putfield 21, 3) := by decide +kernel
theorem dX4_close_10 : decode cX4_close 10 = .ok (.iload_n 1, 1) := by decide +kernel
theorem dX4_close_11 : decode cX4_close 11 = .ok (.istore_n 2, 1) := by decide +kernel
theorem dX4_close_12 : decode cX4_close 12 = .ok (.iload_n 2, 1) := by decide +kernel
theorem dX4_close_13 : decode cX4_close 13 = .ok (.aload_n 0, 1) := by decide +kernel
theorem dX4_close_14 : decode cX4_close 14 = .ok (.getfield 21, 3) := by decide +kernel
theorem dX4_close_17 : decode cX4_close 17 = .ok (.if_icmp .ge 38, 3) := by decide +kernel
theorem dX4_close_20 : decode cX4_close 20 = .ok (.aload_n 0, 1) := by decide +kernel
theorem dX4_close_21 : decode cX4_close 21 = .ok (.iload_n 2, 1) := by decide +kernel
theorem dX4_close_22 : decode cX4_close 22 = .ok (.aload_n 0, 1) := by decide +kernel
theorem dX4_close_23 : decode cX4_close 23 = .ok (.getfield 9, 3) := by decide +kernel
theorem dX4_close_26 : decode cX4_close 26 = .ok (.iload_n 2, 1) := by decide +kernel
theorem dX4_close_27 : decode cX4_close 27 = .ok (.iconst 1, 1) := by decide +kernel
theorem dX4_close_28 : decode cX4_close 28 = .ok (.iadd, 1) := by decide +kernel
theorem dX4_close_29 : decode cX4_close 29 = .ok (.iaload, 1) := by decide +kernel
theorem dX4_close_30 : decode cX4_close 30 = .ok (.aload_n 0, 1) := by decide +kernel
theorem dX4_close_31 : decode cX4_close 31 = .ok (.getfield 15, 3) := by decide +kernel
theorem dX4_close_34 : decode cX4_close 34 = .ok (.iload_n 2, 1) := by decide +kernel
theorem dX4_close_35 : decode cX4_close 35 = .ok (.iconst 1, 1) := by decide +kernel
theorem dX4_close_36 : decode cX4_close 36 = .ok (.iadd, 1) := by decide +kernel
theorem dX4_close_37 : decode cX4_close 37 = .ok (.iaload, 1) := by decide +kernel
theorem dX4_close_38 : decode cX4_close 38 = .ok (.aload_n 0, 1) := by decide +kernel
theorem dX4_close_39 : decode cX4_close 39 = .ok (.getfield 18, 3) := by decide +kernel
theorem dX4_close_42 : decode cX4_close 42 = .ok (.iload_n 2, 1) := by decide +kernel
theorem dX4_close_43 : decode cX4_close 43 = .ok (.iconst 1, 1) := by decide +kernel
theorem dX4_close_44 : decode cX4_close 44 = .ok (.iadd, 1) := by decide +kernel
theorem dX4_close_45 : decode cX4_close 45 = .ok (.iaload, 1) := by decide +kernel
theorem dX4_close_46 : decode cX4_close 46 = .ok (.invokevirtual 31, 3) := by decide +kernel
theorem dX4_close_49 : decode cX4_close 49 = .ok (.iinc 2 1, 3) := by decide +kernel
theorem dX4_close_52 : decode cX4_close 52 = .ok (.goto (-40), 3) := by decide +kernel
theorem dX4_close_55 : decode cX4_close 55 = .ok (.return_, 1) := by decide +kernel
theorem dX4_put_0 : decode cX4_put 0 = .ok (.aload_n 0, 1) := by decide +kernel
theorem dX4_put_1 : decode cX4_put 1 = .ok (.getfield 9, 3) := by decide +kernel
theorem dX4_put_4 : decode cX4_put 4 = .ok (.iload_n 1, 1) := by decide +kernel
theorem dX4_put_5 : decode cX4_put 5 = .ok (.iload_n 2, 1) := by decide +kernel
theorem dX4_put_6 : decode cX4_put 6 = .ok (.iastore, 1) := by decide +kernel
theorem dX4_put_7 : decode cX4_put 7 = .ok (.aload_n 0, 1) := by decide +kernel
theorem dX4_put_8 : decode cX4_put 8 = .ok (.getfield 15, 3) := by decide +kernel
theorem dX4_put_11 : decode cX4_put 11 = .ok (.iload_n 1, 1) := by decide +kernel
theorem dX4_put_12 : decode cX4_put 12 = .ok (.iload_n 3, 1) := by decide +kernel
theorem dX4_put_13 : decode cX4_put 13 = .ok (.iastore, 1) := by decide +kernel
theorem dX4_put_14 : decode cX4_put 14 = .ok (.aload_n 0, 1) := by decide +kernel
theorem dX4_put_15 : decode cX4_put 15 = .ok (.getfield 18, 3) := by decide +kernel
theorem dX4_put_18 : decode cX4_put 18 = .ok (.iload_n 1, 1) := by decide +kernel
theorem dX4_put_19 : decode cX4_put 19 = .ok (.iload 4, 2) := by decide +kernel
theorem dX4_put_21 : decode cX4_put 21 = .ok (.iastore, 1) := by decide +kernel
theorem dX4_put_22 : decode cX4_put 22 = .ok (.return_, 1) := by decide +kernel
theorem dX4_next_0 : decode cX4_next 0 = .ok (.iload_n 1, 1) := by decide +kernel
theorem dX4_next_1 : decode cX4_next 1 = .ok (.iconst 1, 1) := by decide +kernel
theorem dX4_next_2 : decode cX4_next 2 = .ok (.iadd, 1) := by decide +kernel
theorem dX4_next_3 : decode cX4_next 3 = .ok (.aload_n 0, 1) := by decide +kernel
theorem dX4_next_4 : decode cX4_next 4 = .ok (.getfield 21, 3) := by decide +kernel
theorem dX4_next_7 : decode cX4_next 7 = .ok (.if_icmp .ge 9, 3) := by decide +kernel
theorem dX4_next_10 : decode cX4_next 10 = .ok (.iload_n 1, 1) := by decide +kernel
theorem dX4_next_11 : decode cX4_next 11 = .ok (.iconst 1, 1) := by decide +kernel
theorem dX4_next_12 : decode cX4_next 12 = .ok (.iadd, 1) := by decide +kernel
theorem dX4_next_13 : decode cX4_next 13 = .ok (.goto 4, 3) := by decide +kernel
theorem dX4_next_16 : decode cX4_next 16 = .ok (.iconst 0, 1) := by decide +kernel
theorem dX4_next_17 : decode cX4_next 17 = .ok (.ireturn, 1) := by decide +kernel
theorem dX4_previous_0 : decode cX4_previous 0 = .ok (.iload_n 1, 1) := by decide +kernel
theorem dX4_previous_1 : decode cX4_previous 1 = .ok (.ifCond .le 9, 3) := by decide +kernel
theorem dX4_previous_4 : decode cX4_previous 4 = .ok (.iload_n 1, 1) := by decide +kernel
theorem dX4_previous_5 : decode cX4_previous 5 = .ok (.iconst 1, 1) := by decide +kernel
theorem dX4_previous_6 : decode cX4_previous 6 = .ok (.isub, 1) := by decide +kernel
theorem dX4_previous_7 : decode cX4_previous 7 = .ok (.goto 9, 3) := by decide +kernel
theorem dX4_previous_10 : decode cX4_previous 10 = .ok (.aload_n 0, 1) := by decide +kernel
theorem dX4_previous_11 : decode cX4_previous 11 = .ok (.getfield 21, 3) := by decide +kernel
theorem dX4_previous_14 : decode cX4_previous 14 = .ok (.iconst 1, 1) := by decide +kernel
theorem dX4_previous_15 : decode cX4_previous 15 = .ok (.isub, 1) := by decide +kernel
theorem dX4_previous_16 : decode cX4_previous 16 = .ok (.ireturn, 1) := by decide +kernel
theorem dX4_steps_0 : decode cX4_steps 0 = .ok (.aload_n 0, 1) := by decide +kernel
theorem dX4_steps_1 : decode cX4_steps 1 = .ok (.iload_n 1, 1) := by decide +kernel
theorem dX4_steps_2 : decode cX4_steps 2 = .ok (.invokevirtual 35, 3) := by decide +kernel
theorem dX4_steps_5 : decode cX4_steps 5 = .ok (.istore_n 3, 1) := by decide +kernel
theorem dX4_steps_6 : decode cX4_steps 6 = .ok (.aload_n 0, 1) := by decide +kernel
theorem dX4_steps_7 : decode cX4_steps 7 = .ok (.getfield 9, 3) := by decide +kernel
theorem dX4_steps_10 : decode cX4_steps 10 = .ok (.iload_n 3, 1) := by decide +kernel
theorem dX4_steps_11 : decode cX4_steps 11 = .ok (.iaload, 1) := by decide +kernel
theorem dX4_steps_12 : decode cX4_steps 12 = .ok (.aload_n 0, 1) := by decide +kernel
theorem dX4_steps_13 : decode cX4_steps 13 = .ok (.getfield 9, 3) := by decide +kernel
theorem dX4_steps_16 : decode cX4_steps 16 = .ok (.iload_n 1, 1) := by decide +kernel
theorem dX4_steps_17 : decode cX4_steps 17 = .ok (.iaload, 1) := by decide +kernel
theorem dX4_steps_18 : decode cX4_steps 18 = .ok (.isub, 1) := by decide +kernel
theorem dX4_steps_19 : decode cX4_steps 19 = .ok (.invokestatic 39, 3) := by decide +kernel
theorem dX4_steps_22 : decode cX4_steps 22 = .ok (.aload_n 0, 1) := by decide +kernel
theorem dX4_steps_23 : decode cX4_steps 23 = .ok (.getfield 15, 3) := by decide +kernel
theorem dX4_steps_26 : decode cX4_steps 26 = .ok (.iload_n 3, 1) := by decide +kernel
theorem dX4_steps_27 : decode cX4_steps 27 = .ok (.iaload, 1) := by decide +kernel
theorem dX4_steps_28 : decode cX4_steps 28 = .ok (.aload_n 0, 1) := by decide +kernel
theorem dX4_steps_29 : decode cX4_steps 29 = .ok (.getfield 15, 3) := by decide +kernel
theorem dX4_steps_32 : decode cX4_steps 32 = .ok (.iload_n 1, 1) := by decide +kernel
theorem dX4_steps_33 : decode cX4_steps 33 = .ok (.iaload, 1) := by decide +kernel
theorem dX4_steps_34 : decode cX4_steps 34 = .ok (.isub, 1) := by decide +kernel
theorem dX4_steps_35 : decode cX4_steps 35 = .ok (.invokestatic 39, 3) := by decide +kernel
theorem dX4_steps_38 : decode cX4_steps 38 = .ok (.invokestatic 44, 3) := by decide +kernel
theorem dX4_steps_41 : decode cX4_steps 41 = .ok (.istore 4, 2) := by decide +kernel
theorem dX4_steps_43 : decode cX4_steps 43 = .ok (.lconst 1, 1) := by decide +kernel
theorem dX4_steps_44 : decode cX4_steps 44 = .ok (.iload 4, 2) := by decide +kernel
theorem dX4_steps_46 : decode cX4_steps 46 = .ok (.iload_n 2, 1) := by decide +kernel
theorem dX4_steps_47 : decode cX4_steps 47 = .ok (.iadd, 1) := by decide +kernel
theorem dX4_steps_48 : decode cX4_steps 48 = .ok (.iconst 1, 1) := by decide +kernel
theorem dX4_steps_49 : decode cX4_steps 49 = .ok (.isub, 1) := by decide +kernel
theorem dX4_steps_50 : decode cX4_steps 50 = .ok (.i2l, 1) := by decide +kernel
theorem dX4_steps_51 : decode cX4_steps 51 = .ok (.iload_n 2, 1) := by decide +kernel
theorem dX4_steps_52 : decode cX4_steps 52 = .ok (.i2l, 1) := by decide +kernel
theorem dX4_steps_53 : decode cX4_steps 53 = .ok (.invokestatic 48, 3) := by decide +kernel
theorem dX4_steps_56 : decode cX4_steps 56 = .ok (.invokestatic 52, 3) := by decide +kernel
theorem dX4_steps_59 : decode cX4_steps 59 = .ok (.l2i, 1) := by decide +kernel
theorem dX4_steps_60 : decode cX4_steps 60 = .ok (.ireturn, 1) := by decide +kernel
theorem dX4_allSteps_0 : decode cX4_allSteps 0 = .ok (.lconst 0, 1) := by decide +kernel
theorem dX4_allSteps_1 : decode cX4_allSteps 1 = .ok (.lstore_n 2, 1) := by decide +kernel
theorem dX4_allSteps_2 : decode cX4_allSteps 2 = .ok (.iconst 0, 1) := by decide +kernel
theorem dX4_allSteps_3 : decode cX4_allSteps 3 = .ok (.istore 4, 2) := by decide +kernel
theorem dX4_allSteps_5 : decode cX4_allSteps 5 = .ok (.iload 4, 2) := by decide +kernel
theorem dX4_allSteps_7 : decode cX4_allSteps 7 = .ok (.aload_n 0, 1) := by decide +kernel
theorem dX4_allSteps_8 : decode cX4_allSteps 8 = .ok (.getfield 21, 3) := by decide +kernel
theorem dX4_allSteps_11 : decode cX4_allSteps 11 = .ok (.if_icmp .ge 20, 3) := by decide +kernel
theorem dX4_allSteps_14 : decode cX4_allSteps 14 = .ok (.lload_n 2, 1) := by decide +kernel
theorem dX4_allSteps_15 : decode cX4_allSteps 15 = .ok (.aload_n 0, 1) := by decide +kernel
theorem dX4_allSteps_16 : decode cX4_allSteps 16 = .ok (.iload 4, 2) := by decide +kernel
theorem dX4_allSteps_18 : decode cX4_allSteps 18 = .ok (.iload_n 1, 1) := by decide +kernel
theorem dX4_allSteps_19 : decode cX4_allSteps 19 = .ok (.invokevirtual 54, 3) := by decide +kernel
theorem dX4_allSteps_22 : decode cX4_allSteps 22 = .ok (.i2l, 1) := by decide +kernel
theorem dX4_allSteps_23 : decode cX4_allSteps 23 = .ok (.ladd, 1) := by decide +kernel
theorem dX4_allSteps_24 : decode cX4_allSteps 24 = .ok (.lstore_n 2, 1) := by decide +kernel
theorem dX4_allSteps_25 : decode cX4_allSteps 25 = .ok (.iinc 4 1, 3) := by decide +kernel
theorem dX4_allSteps_28 : decode cX4_allSteps 28 = .ok (.goto (-23), 3) := by decide +kernel
theorem dX4_allSteps_31 : decode cX4_allSteps 31 = .ok (.lload_n 2, 1) := by decide +kernel
theorem dX4_allSteps_32 : decode cX4_allSteps 32 = .ok (.lreturn, 1) := by decide +kernel
theorem dX4_twiceArea_0 : decode cX4_twiceArea 0 = .ok (.lconst 0, 1) := by decide +kernel
theorem dX4_twiceArea_1 : decode cX4_twiceArea 1 = .ok (.lstore_n 1, 1) := by decide +kernel
theorem dX4_twiceArea_2 : decode cX4_twiceArea 2 = .ok (.iconst 0, 1) := by decide +kernel
theorem dX4_twiceArea_3 : decode cX4_twiceArea 3 = .ok (.istore_n 3, 1) := by decide +kernel
theorem dX4_twiceArea_4 : decode cX4_twiceArea 4 = .ok (.iload_n 3, 1) := by decide +kernel
theorem dX4_twiceArea_5 : decode cX4_twiceArea 5 = .ok (.aload_n 0, 1) := by decide +kernel
theorem dX4_twiceArea_6 : decode cX4_twiceArea 6 = .ok (.getfield 21, 3) := by decide +kernel
theorem dX4_twiceArea_9 : decode cX4_twiceArea 9 = .ok (.if_icmp .ge 52, 3) := by decide +kernel
theorem dX4_twiceArea_12 : decode cX4_twiceArea 12 = .ok (.aload_n 0, 1) := by decide +kernel
theorem dX4_twiceArea_13 : decode cX4_twiceArea 13 = .ok (.iload_n 3, 1) := by decide +kernel
theorem dX4_twiceArea_14 : decode cX4_twiceArea 14 = .ok (.invokevirtual 35, 3) := by decide +kernel
theorem dX4_twiceArea_17 : decode cX4_twiceArea 17 = .ok (.istore 4, 2) := by decide +kernel
theorem dX4_twiceArea_19 : decode cX4_twiceArea 19 = .ok (.lload_n 1, 1) := by decide +kernel
theorem dX4_twiceArea_20 : decode cX4_twiceArea 20 = .ok (.aload_n 0, 1) := by decide +kernel
theorem dX4_twiceArea_21 : decode cX4_twiceArea 21 = .ok (.getfield 9, 3) := by decide +kernel
theorem dX4_twiceArea_24 : decode cX4_twiceArea 24 = .ok (.iload_n 3, 1) := by decide +kernel
theorem dX4_twiceArea_25 : decode cX4_twiceArea 25 = .ok (.iaload, 1) := by decide +kernel
theorem dX4_twiceArea_26 : decode cX4_twiceArea 26 = .ok (.i2l, 1) := by decide +kernel
theorem dX4_twiceArea_27 : decode cX4_twiceArea 27 = .ok (.aload_n 0, 1) := by decide +kernel
theorem dX4_twiceArea_28 : decode cX4_twiceArea 28 = .ok (.getfield 15, 3) := by decide +kernel
theorem dX4_twiceArea_31 : decode cX4_twiceArea 31 = .ok (.iload 4, 2) := by decide +kernel
theorem dX4_twiceArea_33 : decode cX4_twiceArea 33 = .ok (.iaload, 1) := by decide +kernel
theorem dX4_twiceArea_34 : decode cX4_twiceArea 34 = .ok (.i2l, 1) := by decide +kernel
theorem dX4_twiceArea_35 : decode cX4_twiceArea 35 = .ok (.lmul, 1) := by decide +kernel
theorem dX4_twiceArea_36 : decode cX4_twiceArea 36 = .ok (.aload_n 0, 1) := by decide +kernel
theorem dX4_twiceArea_37 : decode cX4_twiceArea 37 = .ok (.getfield 9, 3) := by decide +kernel
theorem dX4_twiceArea_40 : decode cX4_twiceArea 40 = .ok (.iload 4, 2) := by decide +kernel
theorem dX4_twiceArea_42 : decode cX4_twiceArea 42 = .ok (.iaload, 1) := by decide +kernel
theorem dX4_twiceArea_43 : decode cX4_twiceArea 43 = .ok (.i2l, 1) := by decide +kernel
theorem dX4_twiceArea_44 : decode cX4_twiceArea 44 = .ok (.aload_n 0, 1) := by decide +kernel
theorem dX4_twiceArea_45 : decode cX4_twiceArea 45 = .ok (.getfield 15, 3) := by decide +kernel
theorem dX4_twiceArea_48 : decode cX4_twiceArea 48 = .ok (.iload_n 3, 1) := by decide +kernel
theorem dX4_twiceArea_49 : decode cX4_twiceArea 49 = .ok (.iaload, 1) := by decide +kernel
theorem dX4_twiceArea_50 : decode cX4_twiceArea 50 = .ok (.i2l, 1) := by decide +kernel
theorem dX4_twiceArea_51 : decode cX4_twiceArea 51 = .ok (.lmul, 1) := by decide +kernel
theorem dX4_twiceArea_52 : decode cX4_twiceArea 52 = .ok (.lsub, 1) := by decide +kernel
theorem dX4_twiceArea_53 : decode cX4_twiceArea 53 = .ok (.ladd, 1) := by decide +kernel
theorem dX4_twiceArea_54 : decode cX4_twiceArea 54 = .ok (.lstore_n 1, 1) := by decide +kernel
theorem dX4_twiceArea_55 : decode cX4_twiceArea 55 = .ok (.iinc 3 1, 3) := by decide +kernel
theorem dX4_twiceArea_58 : decode cX4_twiceArea 58 = .ok (.goto (-54), 3) := by decide +kernel
theorem dX4_twiceArea_61 : decode cX4_twiceArea 61 = .ok (.lload_n 1, 1) := by decide +kernel
theorem dX4_twiceArea_62 : decode cX4_twiceArea 62 = .ok (.lreturn, 1) := by decide +kernel
theorem dX4_area_0 : decode cX4_area 0 = .ok (.aload_n 0, 1) := by decide +kernel
theorem dX4_area_1 : decode cX4_area 1 = .ok (.invokevirtual 57, 3) := by decide +kernel
theorem dX4_area_4 : decode cX4_area 4 = .ok (.ldc2_w 61, 3) := by decide +kernel
theorem dX4_area_7 : decode cX4_area 7 = .ok (.ldiv, 1) := by decide +kernel
theorem dX4_area_8 : decode cX4_area 8 = .ok (.lreturn, 1) := by decide +kernel
theorem dX4_windingAround_0 : decode cX4_windingAround 0 = .ok (.lconst 0, 1) := by decide +kernel
theorem dX4_windingAround_1 : decode cX4_windingAround 1 = .ok (.lstore_n 3, 1) := by decide +kernel
theorem dX4_windingAround_2 : decode cX4_windingAround 2 = .ok (.iconst 0, 1) := by decide +kernel
theorem dX4_windingAround_3 : decode cX4_windingAround 3 = .ok (.istore 5, 2) := by decide +kernel
theorem dX4_windingAround_5 : decode cX4_windingAround 5 = .ok (.iload 5, 2) := by decide +kernel
theorem dX4_windingAround_7 : decode cX4_windingAround 7 = .ok (.aload_n 0, 1) := by decide +kernel
theorem dX4_windingAround_8 : decode cX4_windingAround 8 = .ok (.getfield 21, 3) := by decide +kernel
theorem dX4_windingAround_11 : decode cX4_windingAround 11 = .ok (.if_icmp .ge 21, 3) := by decide +kernel
theorem dX4_windingAround_14 : decode cX4_windingAround 14 = .ok (.lload_n 3, 1) := by decide +kernel
theorem dX4_windingAround_15 : decode cX4_windingAround 15 = .ok (.aload_n 0, 1) := by decide +kernel
theorem dX4_windingAround_16 : decode cX4_windingAround 16 = .ok (.iload 5, 2) := by decide +kernel
theorem dX4_windingAround_18 : decode cX4_windingAround 18 = .ok (.iload_n 1, 1) := by decide +kernel
theorem dX4_windingAround_19 : decode cX4_windingAround 19 = .ok (.iload_n 2, 1) := by decide +kernel
theorem dX4_windingAround_20 : decode cX4_windingAround 20 = .ok (.invokevirtual 63, 3) := by decide +kernel
theorem dX4_windingAround_23 : decode cX4_windingAround 23 = .ok (.i2l, 1) := by decide +kernel
theorem dX4_windingAround_24 : decode cX4_windingAround 24 = .ok (.ladd, 1) := by decide +kernel
theorem dX4_windingAround_25 : decode cX4_windingAround 25 = .ok (.lstore_n 3, 1) := by decide +kernel
theorem dX4_windingAround_26 : decode cX4_windingAround 26 = .ok (.iinc 5 1, 3) := by decide +kernel
theorem dX4_windingAround_29 : decode cX4_windingAround 29 = .ok (.goto (-24), 3) := by decide +kernel
theorem dX4_windingAround_32 : decode cX4_windingAround 32 = .ok (.lload_n 3, 1) := by decide +kernel
theorem dX4_windingAround_33 : decode cX4_windingAround 33 = .ok (.lreturn, 1) := by decide +kernel
theorem dX4_crossing_0 : decode cX4_crossing 0 = .ok (.aload_n 0, 1) := by decide +kernel
theorem dX4_crossing_1 : decode cX4_crossing 1 = .ok (.iload_n 1, 1) := by decide +kernel
theorem dX4_crossing_2 : decode cX4_crossing 2 = .ok (.invokevirtual 35, 3) := by decide +kernel
theorem dX4_crossing_5 : decode cX4_crossing 5 = .ok (.istore 4, 2) := by decide +kernel
theorem dX4_crossing_7 : decode cX4_crossing 7 = .ok (.aload_n 0, 1) := by decide +kernel
theorem dX4_crossing_8 : decode cX4_crossing 8 = .ok (.getfield 9, 3) := by decide +kernel
theorem dX4_crossing_11 : decode cX4_crossing 11 = .ok (.iload_n 1, 1) := by decide +kernel
theorem dX4_crossing_12 : decode cX4_crossing 12 = .ok (.iaload, 1) := by decide +kernel
theorem dX4_crossing_13 : decode cX4_crossing 13 = .ok (.i2l, 1) := by decide +kernel
theorem dX4_crossing_14 : decode cX4_crossing 14 = .ok (.aload_n 0, 1) := by decide +kernel
theorem dX4_crossing_15 : decode cX4_crossing 15 = .ok (.getfield 15, 3) := by decide +kernel
theorem dX4_crossing_18 : decode cX4_crossing 18 = .ok (.iload_n 1, 1) := by decide +kernel
theorem dX4_crossing_19 : decode cX4_crossing 19 = .ok (.iaload, 1) := by decide +kernel
theorem dX4_crossing_20 : decode cX4_crossing 20 = .ok (.i2l, 1) := by decide +kernel
theorem dX4_crossing_21 : decode cX4_crossing 21 = .ok (.aload_n 0, 1) := by decide +kernel
theorem dX4_crossing_22 : decode cX4_crossing 22 = .ok (.getfield 9, 3) := by decide +kernel
theorem dX4_crossing_25 : decode cX4_crossing 25 = .ok (.iload 4, 2) := by decide +kernel
theorem dX4_crossing_27 : decode cX4_crossing 27 = .ok (.iaload, 1) := by decide +kernel
theorem dX4_crossing_28 : decode cX4_crossing 28 = .ok (.i2l, 1) := by decide +kernel
theorem dX4_crossing_29 : decode cX4_crossing 29 = .ok (.aload_n 0, 1) := by decide +kernel
theorem dX4_crossing_30 : decode cX4_crossing 30 = .ok (.getfield 15, 3) := by decide +kernel
theorem dX4_crossing_33 : decode cX4_crossing 33 = .ok (.iload 4, 2) := by decide +kernel
theorem dX4_crossing_35 : decode cX4_crossing 35 = .ok (.iaload, 1) := by decide +kernel
theorem dX4_crossing_36 : decode cX4_crossing 36 = .ok (.i2l, 1) := by decide +kernel
theorem dX4_crossing_37 : decode cX4_crossing 37 = .ok (.iload_n 2, 1) := by decide +kernel
theorem dX4_crossing_38 : decode cX4_crossing 38 = .ok (.i2l, 1) := by decide +kernel
theorem dX4_crossing_39 : decode cX4_crossing 39 = .ok (.iload_n 3, 1) := by decide +kernel
theorem dX4_crossing_40 : decode cX4_crossing 40 = .ok (.i2l, 1) := by decide +kernel
theorem dX4_crossing_41 : decode cX4_crossing 41 = .ok (.invokestatic 67, 3) := by decide +kernel
theorem dX4_crossing_44 : decode cX4_crossing 44 = .ok (.lstore 5, 2) := by decide +kernel
theorem dX4_crossing_46 : decode cX4_crossing 46 = .ok (.aload_n 0, 1) := by decide +kernel
theorem dX4_crossing_47 : decode cX4_crossing 47 = .ok (.getfield 15, 3) := by decide +kernel
theorem dX4_crossing_50 : decode cX4_crossing 50 = .ok (.iload_n 1, 1) := by decide +kernel
theorem dX4_crossing_51 : decode cX4_crossing 51 = .ok (.iaload, 1) := by decide +kernel
theorem dX4_crossing_52 : decode cX4_crossing 52 = .ok (.iload_n 3, 1) := by decide +kernel
theorem dX4_crossing_53 : decode cX4_crossing 53 = .ok (.if_icmp .gt 23, 3) := by decide +kernel
theorem dX4_crossing_56 : decode cX4_crossing 56 = .ok (.aload_n 0, 1) := by decide +kernel
theorem dX4_crossing_57 : decode cX4_crossing 57 = .ok (.getfield 15, 3) := by decide +kernel
theorem dX4_crossing_60 : decode cX4_crossing 60 = .ok (.iload 4, 2) := by decide +kernel
theorem dX4_crossing_62 : decode cX4_crossing 62 = .ok (.iaload, 1) := by decide +kernel
theorem dX4_crossing_63 : decode cX4_crossing 63 = .ok (.iload_n 3, 1) := by decide +kernel
theorem dX4_crossing_64 : decode cX4_crossing 64 = .ok (.if_icmp .le 12, 3) := by decide +kernel
theorem dX4_crossing_67 : decode cX4_crossing 67 = .ok (.lload 5, 2) := by decide +kernel
theorem dX4_crossing_69 : decode cX4_crossing 69 = .ok (.lconst 0, 1) := by decide +kernel
theorem dX4_crossing_70 : decode cX4_crossing 70 = .ok (.lcmp, 1) := by decide +kernel
theorem dX4_crossing_71 : decode cX4_crossing 71 = .ok (.ifCond .le 5, 3) := by decide +kernel
theorem dX4_crossing_74 : decode cX4_crossing 74 = .ok (.iconst 1, 1) := by decide +kernel
theorem dX4_crossing_75 : decode cX4_crossing 75 = .ok (.ireturn, 1) := by decide +kernel
theorem dX4_crossing_76 : decode cX4_crossing 76 = .ok (.aload_n 0, 1) := by decide +kernel
theorem dX4_crossing_77 : decode cX4_crossing 77 = .ok (.getfield 15, 3) := by decide +kernel
theorem dX4_crossing_80 : decode cX4_crossing 80 = .ok (.iload_n 1, 1) := by decide +kernel
theorem dX4_crossing_81 : decode cX4_crossing 81 = .ok (.iaload, 1) := by decide +kernel
theorem dX4_crossing_82 : decode cX4_crossing 82 = .ok (.iload_n 3, 1) := by decide +kernel
theorem dX4_crossing_83 : decode cX4_crossing 83 = .ok (.if_icmp .le 23, 3) := by decide +kernel
theorem dX4_crossing_86 : decode cX4_crossing 86 = .ok (.aload_n 0, 1) := by decide +kernel
theorem dX4_crossing_87 : decode cX4_crossing 87 = .ok (.getfield 15, 3) := by decide +kernel
theorem dX4_crossing_90 : decode cX4_crossing 90 = .ok (.iload 4, 2) := by decide +kernel
theorem dX4_crossing_92 : decode cX4_crossing 92 = .ok (.iaload, 1) := by decide +kernel
theorem dX4_crossing_93 : decode cX4_crossing 93 = .ok (.iload_n 3, 1) := by decide +kernel
theorem dX4_crossing_94 : decode cX4_crossing 94 = .ok (.if_icmp .gt 12, 3) := by decide +kernel
theorem dX4_crossing_97 : decode cX4_crossing 97 = .ok (.lload 5, 2) := by decide +kernel
theorem dX4_crossing_99 : decode cX4_crossing 99 = .ok (.lconst 0, 1) := by decide +kernel
theorem dX4_crossing_100 : decode cX4_crossing 100 = .ok (.lcmp, 1) := by decide +kernel
theorem dX4_crossing_101 : decode cX4_crossing 101 = .ok (.ifCond .ge 5, 3) := by decide +kernel
theorem dX4_crossing_104 : decode cX4_crossing 104 = .ok (.iconst (-1), 1) := by decide +kernel
theorem dX4_crossing_105 : decode cX4_crossing 105 = .ok (.ireturn, 1) := by decide +kernel
theorem dX4_crossing_106 : decode cX4_crossing 106 = .ok (.iconst 0, 1) := by decide +kernel
theorem dX4_crossing_107 : decode cX4_crossing 107 = .ok (.ireturn, 1) := by decide +kernel
theorem dX4_touches_0 : decode cX4_touches 0 = .ok (.iconst 0, 1) := by decide +kernel
theorem dX4_touches_1 : decode cX4_touches 1 = .ok (.istore_n 3, 1) := by decide +kernel
theorem dX4_touches_2 : decode cX4_touches 2 = .ok (.iload_n 3, 1) := by decide +kernel
theorem dX4_touches_3 : decode cX4_touches 3 = .ok (.aload_n 0, 1) := by decide +kernel
theorem dX4_touches_4 : decode cX4_touches 4 = .ok (.getfield 21, 3) := by decide +kernel
theorem dX4_touches_7 : decode cX4_touches 7 = .ok (.if_icmp .ge 112, 3) := by decide +kernel
theorem dX4_touches_10 : decode cX4_touches 10 = .ok (.aload_n 0, 1) := by decide +kernel
theorem dX4_touches_11 : decode cX4_touches 11 = .ok (.iload_n 3, 1) := by decide +kernel
theorem dX4_touches_12 : decode cX4_touches 12 = .ok (.invokevirtual 35, 3) := by decide +kernel
theorem dX4_touches_15 : decode cX4_touches 15 = .ok (.istore 4, 2) := by decide +kernel
theorem dX4_touches_17 : decode cX4_touches 17 = .ok (.aload_n 0, 1) := by decide +kernel
theorem dX4_touches_18 : decode cX4_touches 18 = .ok (.getfield 9, 3) := by decide +kernel
theorem dX4_touches_21 : decode cX4_touches 21 = .ok (.iload_n 3, 1) := by decide +kernel
theorem dX4_touches_22 : decode cX4_touches 22 = .ok (.iaload, 1) := by decide +kernel
theorem dX4_touches_23 : decode cX4_touches 23 = .ok (.i2l, 1) := by decide +kernel
theorem dX4_touches_24 : decode cX4_touches 24 = .ok (.aload_n 0, 1) := by decide +kernel
theorem dX4_touches_25 : decode cX4_touches 25 = .ok (.getfield 15, 3) := by decide +kernel
theorem dX4_touches_28 : decode cX4_touches 28 = .ok (.iload_n 3, 1) := by decide +kernel
theorem dX4_touches_29 : decode cX4_touches 29 = .ok (.iaload, 1) := by decide +kernel
theorem dX4_touches_30 : decode cX4_touches 30 = .ok (.i2l, 1) := by decide +kernel
theorem dX4_touches_31 : decode cX4_touches 31 = .ok (.aload_n 0, 1) := by decide +kernel
theorem dX4_touches_32 : decode cX4_touches 32 = .ok (.getfield 9, 3) := by decide +kernel
theorem dX4_touches_35 : decode cX4_touches 35 = .ok (.iload 4, 2) := by decide +kernel
theorem dX4_touches_37 : decode cX4_touches 37 = .ok (.iaload, 1) := by decide +kernel
theorem dX4_touches_38 : decode cX4_touches 38 = .ok (.i2l, 1) := by decide +kernel
theorem dX4_touches_39 : decode cX4_touches 39 = .ok (.aload_n 0, 1) := by decide +kernel
theorem dX4_touches_40 : decode cX4_touches 40 = .ok (.getfield 15, 3) := by decide +kernel
theorem dX4_touches_43 : decode cX4_touches 43 = .ok (.iload 4, 2) := by decide +kernel
theorem dX4_touches_45 : decode cX4_touches 45 = .ok (.iaload, 1) := by decide +kernel
theorem dX4_touches_46 : decode cX4_touches 46 = .ok (.i2l, 1) := by decide +kernel
theorem dX4_touches_47 : decode cX4_touches 47 = .ok (.iload_n 1, 1) := by decide +kernel
theorem dX4_touches_48 : decode cX4_touches 48 = .ok (.i2l, 1) := by decide +kernel
theorem dX4_touches_49 : decode cX4_touches 49 = .ok (.iload_n 2, 1) := by decide +kernel
theorem dX4_touches_50 : decode cX4_touches 50 = .ok (.i2l, 1) := by decide +kernel
theorem dX4_touches_51 : decode cX4_touches 51 = .ok (.invokestatic 67, 3) := by decide +kernel
theorem dX4_touches_54 : decode cX4_touches 54 = .ok (.lconst 0, 1) := by decide +kernel
theorem dX4_touches_55 : decode cX4_touches 55 = .ok (.lcmp, 1) := by decide +kernel
theorem dX4_touches_56 : decode cX4_touches 56 = .ok (.ifCond .ne 7, 3) := by decide +kernel
theorem dX4_touches_59 : decode cX4_touches 59 = .ok (.iconst 1, 1) := by decide +kernel
theorem dX4_touches_60 : decode cX4_touches 60 = .ok (.goto 4, 3) := by decide +kernel
theorem dX4_touches_63 : decode cX4_touches 63 = .ok (.iconst 0, 1) := by decide +kernel
theorem dX4_touches_64 : decode cX4_touches 64 = .ok (.istore 5, 2) := by decide +kernel
theorem dX4_touches_66 : decode cX4_touches 66 = .ok (.iload 5, 2) := by decide +kernel
theorem dX4_touches_68 : decode cX4_touches 68 = .ok (.ifCond .eq 45, 3) := by decide +kernel
theorem dX4_touches_71 : decode cX4_touches 71 = .ok (.iload_n 1, 1) := by decide +kernel
theorem dX4_touches_72 : decode cX4_touches 72 = .ok (.aload_n 0, 1) := by decide +kernel
theorem dX4_touches_73 : decode cX4_touches 73 = .ok (.getfield 9, 3) := by decide +kernel
theorem dX4_touches_76 : decode cX4_touches 76 = .ok (.iload_n 3, 1) := by decide +kernel
theorem dX4_touches_77 : decode cX4_touches 77 = .ok (.iaload, 1) := by decide +kernel
theorem dX4_touches_78 : decode cX4_touches 78 = .ok (.aload_n 0, 1) := by decide +kernel
theorem dX4_touches_79 : decode cX4_touches 79 = .ok (.getfield 9, 3) := by decide +kernel
theorem dX4_touches_82 : decode cX4_touches 82 = .ok (.iload 4, 2) := by decide +kernel
theorem dX4_touches_84 : decode cX4_touches 84 = .ok (.iaload, 1) := by decide +kernel
theorem dX4_touches_85 : decode cX4_touches 85 = .ok (.invokestatic 71, 3) := by decide +kernel
theorem dX4_touches_88 : decode cX4_touches 88 = .ok (.ifCond .eq 25, 3) := by decide +kernel
theorem dX4_touches_91 : decode cX4_touches 91 = .ok (.iload_n 2, 1) := by decide +kernel
theorem dX4_touches_92 : decode cX4_touches 92 = .ok (.aload_n 0, 1) := by decide +kernel
theorem dX4_touches_93 : decode cX4_touches 93 = .ok (.getfield 15, 3) := by decide +kernel
theorem dX4_touches_96 : decode cX4_touches 96 = .ok (.iload_n 3, 1) := by decide +kernel
theorem dX4_touches_97 : decode cX4_touches 97 = .ok (.iaload, 1) := by decide +kernel
theorem dX4_touches_98 : decode cX4_touches 98 = .ok (.aload_n 0, 1) := by decide +kernel
theorem dX4_touches_99 : decode cX4_touches 99 = .ok (.getfield 15, 3) := by decide +kernel
theorem dX4_touches_102 : decode cX4_touches 102 = .ok (.iload 4, 2) := by decide +kernel
theorem dX4_touches_104 : decode cX4_touches 104 = .ok (.iaload, 1) := by decide +kernel
theorem dX4_touches_105 : decode cX4_touches 105 = .ok (.invokestatic 71, 3) := by decide +kernel
theorem dX4_touches_108 : decode cX4_touches 108 = .ok (.ifCond .eq 5, 3) := by decide +kernel
theorem dX4_touches_111 : decode cX4_touches 111 = .ok (.iconst 1, 1) := by decide +kernel
theorem dX4_touches_112 : decode cX4_touches 112 = .ok (.ireturn, 1) := by decide +kernel
theorem dX4_touches_113 : decode cX4_touches 113 = .ok (.iinc 3 1, 3) := by decide +kernel
theorem dX4_touches_116 : decode cX4_touches 116 = .ok (.goto (-114), 3) := by decide +kernel
theorem dX4_touches_119 : decode cX4_touches 119 = .ok (.iconst 0, 1) := by decide +kernel
theorem dX4_touches_120 : decode cX4_touches 120 = .ok (.ireturn, 1) := by decide +kernel
theorem dX4_fineX_0 : decode cX4_fineX 0 = .ok (.aload_n 0, 1) := by decide +kernel
theorem dX4_fineX_1 : decode cX4_fineX 1 = .ok (.getfield 9, 3) := by decide +kernel
theorem dX4_fineX_4 : decode cX4_fineX 4 = .ok (.iload_n 1, 1) := by decide +kernel
theorem dX4_fineX_5 : decode cX4_fineX 5 = .ok (.iaload, 1) := by decide +kernel
theorem dX4_fineX_6 : decode cX4_fineX 6 = .ok (.aload_n 0, 1) := by decide +kernel
theorem dX4_fineX_7 : decode cX4_fineX 7 = .ok (.getfield 9, 3) := by decide +kernel
theorem dX4_fineX_10 : decode cX4_fineX 10 = .ok (.aload_n 0, 1) := by decide +kernel
theorem dX4_fineX_11 : decode cX4_fineX 11 = .ok (.iload_n 1, 1) := by decide +kernel
theorem dX4_fineX_12 : decode cX4_fineX 12 = .ok (.invokevirtual 35, 3) := by decide +kernel
theorem dX4_fineX_15 : decode cX4_fineX 15 = .ok (.iaload, 1) := by decide +kernel
theorem dX4_fineX_16 : decode cX4_fineX 16 = .ok (.iload_n 2, 1) := by decide +kernel
theorem dX4_fineX_17 : decode cX4_fineX 17 = .ok (.iload_n 3, 1) := by decide +kernel
theorem dX4_fineX_18 : decode cX4_fineX 18 = .ok (.invokestatic 75, 3) := by decide +kernel
theorem dX4_fineX_21 : decode cX4_fineX 21 = .ok (.lreturn, 1) := by decide +kernel
theorem dX4_fineY_0 : decode cX4_fineY 0 = .ok (.aload_n 0, 1) := by decide +kernel
theorem dX4_fineY_1 : decode cX4_fineY 1 = .ok (.getfield 15, 3) := by decide +kernel
theorem dX4_fineY_4 : decode cX4_fineY 4 = .ok (.iload_n 1, 1) := by decide +kernel
theorem dX4_fineY_5 : decode cX4_fineY 5 = .ok (.iaload, 1) := by decide +kernel
theorem dX4_fineY_6 : decode cX4_fineY 6 = .ok (.aload_n 0, 1) := by decide +kernel
theorem dX4_fineY_7 : decode cX4_fineY 7 = .ok (.getfield 15, 3) := by decide +kernel
theorem dX4_fineY_10 : decode cX4_fineY 10 = .ok (.aload_n 0, 1) := by decide +kernel
theorem dX4_fineY_11 : decode cX4_fineY 11 = .ok (.iload_n 1, 1) := by decide +kernel
theorem dX4_fineY_12 : decode cX4_fineY 12 = .ok (.invokevirtual 35, 3) := by decide +kernel
theorem dX4_fineY_15 : decode cX4_fineY 15 = .ok (.iaload, 1) := by decide +kernel
theorem dX4_fineY_16 : decode cX4_fineY 16 = .ok (.iload_n 2, 1) := by decide +kernel
theorem dX4_fineY_17 : decode cX4_fineY 17 = .ok (.iload_n 3, 1) := by decide +kernel
theorem dX4_fineY_18 : decode cX4_fineY 18 = .ok (.invokestatic 75, 3) := by decide +kernel
theorem dX4_fineY_21 : decode cX4_fineY 21 = .ok (.lreturn, 1) := by decide +kernel
theorem dX4_finePart_0 : decode cX4_finePart 0 = .ok (.ldc2_w 79, 3) := by decide +kernel
theorem dX4_finePart_3 : decode cX4_finePart 3 = .ok (.iload_n 0, 1) := by decide +kernel
theorem dX4_finePart_4 : decode cX4_finePart 4 = .ok (.i2l, 1) := by decide +kernel
theorem dX4_finePart_5 : decode cX4_finePart 5 = .ok (.lmul, 1) := by decide +kernel
theorem dX4_finePart_6 : decode cX4_finePart 6 = .ok (.ldc2_w 79, 3) := by decide +kernel
theorem dX4_finePart_9 : decode cX4_finePart 9 = .ok (.iload_n 1, 1) := by decide +kernel
theorem dX4_finePart_10 : decode cX4_finePart 10 = .ok (.iload_n 0, 1) := by decide +kernel
theorem dX4_finePart_11 : decode cX4_finePart 11 = .ok (.isub, 1) := by decide +kernel
theorem dX4_finePart_12 : decode cX4_finePart 12 = .ok (.i2l, 1) := by decide +kernel
theorem dX4_finePart_13 : decode cX4_finePart 13 = .ok (.lmul, 1) := by decide +kernel
theorem dX4_finePart_14 : decode cX4_finePart 14 = .ok (.iload_n 2, 1) := by decide +kernel
theorem dX4_finePart_15 : decode cX4_finePart 15 = .ok (.i2l, 1) := by decide +kernel
theorem dX4_finePart_16 : decode cX4_finePart 16 = .ok (.lmul, 1) := by decide +kernel
theorem dX4_finePart_17 : decode cX4_finePart 17 = .ok (.iload_n 3, 1) := by decide +kernel
theorem dX4_finePart_18 : decode cX4_finePart 18 = .ok (.i2l, 1) := by decide +kernel
theorem dX4_finePart_19 : decode cX4_finePart 19 = .ok (.invokestatic 48, 3) := by decide +kernel
theorem dX4_finePart_22 : decode cX4_finePart 22 = .ok (.ladd, 1) := by decide +kernel
theorem dX4_finePart_23 : decode cX4_finePart 23 = .ok (.lreturn, 1) := by decide +kernel
theorem dX5_init_0 : decode cX5_init 0 = .ok (.aload_n 0, 1) := by decide +kernel
theorem dX5_init_1 : decode cX5_init 1 = .ok (.invokespecial 3, 3) := by decide +kernel
theorem dX5_init_4 : decode cX5_init 4 = .ok (.aload_n 0, 1) := by decide +kernel
theorem dX5_init_5 : decode cX5_init 5 = .ok (.bipush 12, 2) := by decide +kernel
theorem dX5_init_7 : decode cX5_init 7 = .ok (.newarray .int, 2) := by decide +kernel
theorem dX5_init_9 : decode cX5_init 9 = .ok (.putfield 9, 3) := by decide +kernel
theorem dX5_init_12 : decode cX5_init 12 = .ok (.aload_n 0, 1) := by decide +kernel
theorem dX5_init_13 : decode cX5_init 13 = .ok (.bipush 12, 2) := by decide +kernel
theorem dX5_init_15 : decode cX5_init 15 = .ok (.newarray .boolean, 2) := by decide +kernel
theorem dX5_init_17 : decode cX5_init 17 = .ok (.putfield 15, 3) := by decide +kernel
theorem dX5_init_20 : decode cX5_init 20 = .ok (.aload_n 0, 1) := by decide +kernel
theorem dX5_init_21 : decode cX5_init 21 = .ok (.bipush 12, 2) := by decide +kernel
theorem dX5_init_23 : decode cX5_init 23 = .ok (.newarray .long, 2) := by decide +kernel
theorem dX5_init_25 : decode cX5_init 25 = .ok (.putfield 19, 3) := by decide +kernel
theorem dX5_init_28 : decode cX5_init 28 = .ok (.return_, 1) := by decide +kernel
theorem dX5_copy_0 : decode cX5_copy 0 = .ok (.aload_n 0, 1) := by decide +kernel
theorem dX5_copy_1 : decode cX5_copy 1 = .ok (.aload_n 1, 1) := by decide +kernel
theorem dX5_copy_2 : decode cX5_copy 2 = .ok (.getfield 23, 3) := by decide +kernel
theorem dX5_copy_5 : decode cX5_copy 5 = .ok (.putfield 23, 3) := by decide +kernel
theorem dX5_copy_8 : decode cX5_copy 8 = .ok (.iconst 0, 1) := by decide +kernel
theorem dX5_copy_9 : decode cX5_copy 9 = .ok (.istore_n 2, 1) := by decide +kernel
theorem dX5_copy_10 : decode cX5_copy 10 = .ok (.iload_n 2, 1) := by decide +kernel
theorem dX5_copy_11 : decode cX5_copy 11 = .ok (.aload_n 0, 1) := by decide +kernel
theorem dX5_copy_12 : decode cX5_copy 12 = .ok (.getfield 23, 3) := by decide +kernel
theorem dX5_copy_15 : decode cX5_copy 15 = .ok (.if_icmp .ge 45, 3) := by decide +kernel
theorem dX5_copy_18 : decode cX5_copy 18 = .ok (.aload_n 0, 1) := by decide +kernel
theorem dX5_copy_19 : decode cX5_copy 19 = .ok (.getfield 9, 3) := by decide +kernel
theorem dX5_copy_22 : decode cX5_copy 22 = .ok (.iload_n 2, 1) := by decide +kernel
theorem dX5_copy_23 : decode cX5_copy 23 = .ok (.aload_n 1, 1) := by decide +kernel
theorem dX5_copy_24 : decode cX5_copy 24 = .ok (.getfield 9, 3) := by decide +kernel
theorem dX5_copy_27 : decode cX5_copy 27 = .ok (.iload_n 2, 1) := by decide +kernel
theorem dX5_copy_28 : decode cX5_copy 28 = .ok (.iaload, 1) := by decide +kernel
theorem dX5_copy_29 : decode cX5_copy 29 = .ok (.iastore, 1) := by decide +kernel
theorem dX5_copy_30 : decode cX5_copy 30 = .ok (.aload_n 0, 1) := by decide +kernel
theorem dX5_copy_31 : decode cX5_copy 31 = .ok (.getfield 15, 3) := by decide +kernel
theorem dX5_copy_34 : decode cX5_copy 34 = .ok (.iload_n 2, 1) := by decide +kernel
theorem dX5_copy_35 : decode cX5_copy 35 = .ok (.aload_n 1, 1) := by decide +kernel
theorem dX5_copy_36 : decode cX5_copy 36 = .ok (.getfield 15, 3) := by decide +kernel
theorem dX5_copy_39 : decode cX5_copy 39 = .ok (.iload_n 2, 1) := by decide +kernel
theorem dX5_copy_40 : decode cX5_copy 40 = .ok (.baload, 1) := by decide +kernel
theorem dX5_copy_41 : decode cX5_copy 41 = .ok (.bastore, 1) := by decide +kernel
theorem dX5_copy_42 : decode cX5_copy 42 = .ok (.aload_n 0, 1) := by decide +kernel
theorem dX5_copy_43 : decode cX5_copy 43 = .ok (.getfield 19, 3) := by decide +kernel
theorem dX5_copy_46 : decode cX5_copy 46 = .ok (.iload_n 2, 1) := by decide +kernel
theorem dX5_copy_47 : decode cX5_copy 47 = .ok (.aload_n 1, 1) := by decide +kernel
theorem dX5_copy_48 : decode cX5_copy 48 = .ok (.getfield 19, 3) := by decide +kernel
theorem dX5_copy_51 : decode cX5_copy 51 = .ok (.iload_n 2, 1) := by decide +kernel
theorem dX5_copy_52 : decode cX5_copy 52 = .ok (.laload, 1) := by decide +kernel
theorem dX5_copy_53 : decode cX5_copy 53 = .ok (.lastore, 1) := by decide +kernel
theorem dX5_copy_54 : decode cX5_copy 54 = .ok (.iinc 2 1, 3) := by decide +kernel
theorem dX5_copy_57 : decode cX5_copy 57 = .ok (.goto (-47), 3) := by decide +kernel
theorem dX5_copy_60 : decode cX5_copy 60 = .ok (.return_, 1) := by decide +kernel
theorem dX5_clear_0 : decode cX5_clear 0 = .ok (.aload_n 0, 1) := by decide +kernel
theorem dX5_clear_1 : decode cX5_clear 1 = .ok (.getfield 23, 3) := by decide +kernel
theorem dX5_clear_4 : decode cX5_clear 4 = .ok (.istore_n 1, 1) := by decide +kernel
theorem dX5_clear_5 : decode cX5_clear 5 = .ok (.aload_n 0, 1) := by decide +kernel
theorem dX5_clear_6 : decode cX5_clear 6 = .ok (.iconst 0, 1) := by decide +kernel
theorem dX5_clear_7 : decode cX5_clear 7 = .ok (.putfield 23, 3) := by decide +kernel
theorem dX5_clear_10 : decode cX5_clear 10 = .ok (.iload_n 1, 1) := by decide +kernel
theorem dX5_clear_11 : decode cX5_clear 11 = .ok (.ireturn, 1) := by decide +kernel
theorem dX5_add_0 : decode cX5_add 0 = .ok (.aload_n 0, 1) := by decide +kernel
theorem dX5_add_1 : decode cX5_add 1 = .ok (.getfield 23, 3) := by decide +kernel
theorem dX5_add_4 : decode cX5_add 4 = .ok (.bipush 12, 2) := by decide +kernel
theorem dX5_add_6 : decode cX5_add 6 = .ok (.if_icmp .ge 43, 3) := by decide +kernel
theorem dX5_add_9 : decode cX5_add 9 = .ok (.aload_n 0, 1) := by decide +kernel
theorem dX5_add_10 : decode cX5_add 10 = .ok (.getfield 9, 3) := by decide +kernel
theorem dX5_add_13 : decode cX5_add 13 = .ok (.aload_n 0, 1) := by decide +kernel
theorem dX5_add_14 : decode cX5_add 14 = .ok (.getfield 23, 3) := by decide +kernel
theorem dX5_add_17 : decode cX5_add 17 = .ok (.iload_n 1, 1) := by decide +kernel
theorem dX5_add_18 : decode cX5_add 18 = .ok (.iastore, 1) := by decide +kernel
theorem dX5_add_19 : decode cX5_add 19 = .ok (.aload_n 0, 1) := by decide +kernel
theorem dX5_add_20 : decode cX5_add 20 = .ok (.getfield 15, 3) := by decide +kernel
theorem dX5_add_23 : decode cX5_add 23 = .ok (.aload_n 0, 1) := by decide +kernel
theorem dX5_add_24 : decode cX5_add 24 = .ok (.getfield 23, 3) := by decide +kernel
theorem dX5_add_27 : decode cX5_add 27 = .ok (.iload_n 2, 1) := by decide +kernel
theorem dX5_add_28 : decode cX5_add 28 = .ok (.bastore, 1) := by decide +kernel
theorem dX5_add_29 : decode cX5_add 29 = .ok (.aload_n 0, 1) := by decide +kernel
theorem dX5_add_30 : decode cX5_add 30 = .ok (.getfield 19, 3) := by decide +kernel
theorem dX5_add_33 : decode cX5_add 33 = .ok (.aload_n 0, 1) := by decide +kernel
theorem dX5_add_34 : decode cX5_add 34 = .ok (.getfield 23, 3) := by decide +kernel
theorem dX5_add_37 : decode cX5_add 37 = .ok (.lload_n 3, 1) := by decide +kernel
theorem dX5_add_38 : decode cX5_add 38 = .ok (.lastore, 1) := by decide +kernel
theorem dX5_add_39 : decode cX5_add 39 = .ok (.aload_n 0, 1) := by decide +kernel
theorem dX5_add_40 : decode cX5_add 40 = .ok (.dup, 1) := by decide +kernel
theorem dX5_add_41 : decode cX5_add 41 = .ok (.getfield 23, 3) := by decide +kernel
theorem dX5_add_44 : decode cX5_add 44 = .ok (.iconst 1, 1) := by decide +kernel
theorem dX5_add_45 : decode cX5_add 45 = .ok (.iadd, 1) := by decide +kernel
theorem dX5_add_46 : decode cX5_add 46 = .ok (.putfield 23, 3) := by decide +kernel
theorem dX5_add_49 : decode cX5_add 49 = .ok (.return_, 1) := by decide +kernel
theorem dX5_area_0 : decode cX5_area 0 = .ok (.aload_n 0, 1) := by decide +kernel
theorem dX5_area_1 : decode cX5_area 1 = .ok (.getfield 19, 3) := by decide +kernel
theorem dX5_area_4 : decode cX5_area 4 = .ok (.iload_n 1, 1) := by decide +kernel
theorem dX5_area_5 : decode cX5_area 5 = .ok (.laload, 1) := by decide +kernel
theorem dX5_area_6 : decode cX5_area 6 = .ok (.ldc2_w 27, 3) := by decide +kernel
theorem dX5_area_9 : decode cX5_area 9 = .ok (.ldiv, 1) := by decide +kernel
theorem dX5_area_10 : decode cX5_area 10 = .ok (.lload_n 2, 1) := by decide +kernel
theorem dX5_area_11 : decode cX5_area 11 = .ok (.ladd, 1) := by decide +kernel
theorem dX5_area_12 : decode cX5_area 12 = .ok (.lreturn, 1) := by decide +kernel
theorem dX6_init_0 : decode cX6_init 0 = .ok (.aload_n 0, 1) := by decide +kernel
theorem dX6_init_1 : decode cX6_init 1 = .ok (.invokespecial 3, 3) := by decide +kernel
theorem dX6_init_4 : decode cX6_init 4 = .ok (.aload_n 0, 1) := by decide +kernel
theorem dX6_init_5 : decode cX6_init 5 = .ok (.sipush 200, 3) := by decide +kernel
theorem dX6_init_8 : decode cX6_init 8 = .ok (.putfield 9, 3) := by decide +kernel
theorem dX6_init_11 : decode cX6_init 11 = .ok (.aload_n 0, 1) := by decide +kernel
theorem dX6_init_12 : decode cX6_init 12 = .ok (.iconst 5, 1) := by decide +kernel
theorem dX6_init_13 : decode cX6_init 13 = .ok (.newarray .int, 2) := by decide +kernel
theorem dX6_init_15 : decode cX6_init 15 = .ok (.putfield 15, 3) := by decide +kernel
theorem dX6_init_18 : decode cX6_init 18 = .ok (.aload_n 0, 1) := by decide +kernel
theorem dX6_init_19 : decode cX6_init 19 = .ok (.new 19, 3) := by decide +kernel
theorem dX6_init_22 : decode cX6_init 22 = .ok (.dup, 1) := by decide +kernel
theorem dX6_init_23 : decode cX6_init 23 = .ok (.invokespecial 21, 3) := by decide +kernel
theorem dX6_init_26 : decode cX6_init 26 = .ok (.putfield 22, 3) := by decide +kernel
theorem dX6_init_29 : decode cX6_init 29 = .ok (.aload_n 0, 1) := by decide +kernel
theorem dX6_init_30 : decode cX6_init 30 = .ok (.new 26, 3) := by decide +kernel
theorem dX6_init_33 : decode cX6_init 33 = .ok (.dup, 1) := by decide +kernel
theorem dX6_init_34 : decode cX6_init 34 = .ok (.invokespecial 28, 3) := by decide +kernel
theorem dX6_init_37 : decode cX6_init 37 = .ok (.putfield 29, 3) := by decide +kernel
theorem dX6_init_40 : decode cX6_init 40 = .ok (.getstatic 33, 3) := by decide +kernel
theorem dX6_init_43 : decode cX6_init 43 = .ok (.iconst 0, 1) := by decide +kernel
theorem dX6_init_44 : decode cX6_init 44 = .ok (.aload_n 0, 1) := by decide +kernel
theorem dX6_init_45 : decode cX6_init 45 = .ok (.getfield 15, 3) := by decide +kernel
theorem dX6_init_48 : decode cX6_init 48 = .ok (.iconst 0, 1) := by decide +kernel
theorem dX6_init_49 : decode cX6_init 49 = .ok (.iconst 5, 1) := by decide +kernel
theorem dX6_init_50 : decode cX6_init 50 = .ok (.invokestatic 36, 3) := by decide +kernel
theorem dX6_init_53 : decode cX6_init 53 = .ok (.return_, 1) := by decide +kernel
theorem dX6_copy_0 : decode cX6_copy 0 = .ok (.aload_n 0, 1) := by decide +kernel
theorem dX6_copy_1 : decode cX6_copy 1 = .ok (.aload_n 1, 1) := by decide +kernel
theorem dX6_copy_2 : decode cX6_copy 2 = .ok (.getfield 42, 3) := by decide +kernel
theorem dX6_copy_5 : decode cX6_copy 5 = .ok (.putfield 42, 3) := by decide +kernel
theorem dX6_copy_8 : decode cX6_copy 8 = .ok (.aload_n 0, 1) := by decide +kernel
theorem dX6_copy_9 : decode cX6_copy 9 = .ok (.aload_n 1, 1) := by decide +kernel
theorem dX6_copy_10 : decode cX6_copy 10 = .ok (.getfield 45, 3) := by decide +kernel
theorem dX6_copy_13 : decode cX6_copy 13 = .ok (.putfield 45, 3) := by decide +kernel
theorem dX6_copy_16 : decode cX6_copy 16 = .ok (.aload_n 0, 1) := by decide +kernel
theorem dX6_copy_17 : decode cX6_copy 17 = .ok (.aload_n 1, 1) := by decide +kernel
theorem dX6_copy_18 : decode cX6_copy 18 = .ok (.getfield 9, 3) := by decide +kernel
theorem dX6_copy_21 : decode cX6_copy 21 = .ok (.putfield 9, 3) := by decide +kernel
theorem dX6_copy_24 : decode cX6_copy 24 = .ok (.aload_n 1, 1) := by decide +kernel
theorem dX6_copy_25 : decode cX6_copy 25 = .ok (.getfield 15, 3) := by decide +kernel
theorem dX6_copy_28 : decode cX6_copy 28 = .ok (.iconst 0, 1) := by decide +kernel
theorem dX6_copy_29 : decode cX6_copy 29 = .ok (.aload_n 0, 1) := by decide +kernel
theorem dX6_copy_30 : decode cX6_copy 30 = .ok (.getfield 15, 3) := by decide +kernel
theorem dX6_copy_33 : decode cX6_copy 33 = .ok (.iconst 0, 1) := by decide +kernel
theorem dX6_copy_34 : decode cX6_copy 34 = .ok (.iconst 5, 1) := by decide +kernel
theorem dX6_copy_35 : decode cX6_copy 35 = .ok (.invokestatic 36, 3) := by decide +kernel
theorem dX6_copy_38 : decode cX6_copy 38 = .ok (.aload_n 0, 1) := by decide +kernel
theorem dX6_copy_39 : decode cX6_copy 39 = .ok (.getfield 22, 3) := by decide +kernel
theorem dX6_copy_42 : decode cX6_copy 42 = .ok (.aload_n 1, 1) := by decide +kernel
theorem dX6_copy_43 : decode cX6_copy 43 = .ok (.getfield 22, 3) := by decide +kernel
theorem dX6_copy_46 : decode cX6_copy 46 = .ok (.invokevirtual 48, 3) := by decide +kernel
theorem dX6_copy_49 : decode cX6_copy 49 = .ok (.aload_n 0, 1) := by decide +kernel
theorem dX6_copy_50 : decode cX6_copy 50 = .ok (.getfield 29, 3) := by decide +kernel
theorem dX6_copy_53 : decode cX6_copy 53 = .ok (.aload_n 1, 1) := by decide +kernel
theorem dX6_copy_54 : decode cX6_copy 54 = .ok (.getfield 29, 3) := by decide +kernel
theorem dX6_copy_57 : decode cX6_copy 57 = .ok (.invokevirtual 52, 3) := by decide +kernel
theorem dX6_copy_60 : decode cX6_copy 60 = .ok (.return_, 1) := by decide +kernel
theorem dX6_constant_0 : decode cX6_constant 0 = .ok (.aload_n 0, 1) := by decide +kernel
theorem dX6_constant_1 : decode cX6_constant 1 = .ok (.getfield 15, 3) := by decide +kernel
theorem dX6_constant_4 : decode cX6_constant 4 = .ok (.iconst 0, 1) := by decide +kernel
theorem dX6_constant_5 : decode cX6_constant 5 = .ok (.iaload, 1) := by decide +kernel
theorem dX6_constant_6 : decode cX6_constant 6 = .ok (.i2l, 1) := by decide +kernel
theorem dX6_constant_7 : decode cX6_constant 7 = .ok (.lstore_n 1, 1) := by decide +kernel
theorem dX6_constant_8 : decode cX6_constant 8 = .ok (.aload_n 0, 1) := by decide +kernel
theorem dX6_constant_9 : decode cX6_constant 9 = .ok (.getfield 22, 3) := by decide +kernel
theorem dX6_constant_12 : decode cX6_constant 12 = .ok (.aload_n 0, 1) := by decide +kernel
theorem dX6_constant_13 : decode cX6_constant 13 = .ok (.getfield 42, 3) := by decide +kernel
theorem dX6_constant_16 : decode cX6_constant 16 = .ok (.aload_n 0, 1) := by decide +kernel
theorem dX6_constant_17 : decode cX6_constant 17 = .ok (.getfield 45, 3) := by decide +kernel
theorem dX6_constant_20 : decode cX6_constant 20 = .ok (.invokevirtual 55, 3) := by decide +kernel
theorem dX6_constant_23 : decode cX6_constant 23 = .ok (.ldc2_w 59, 3) := by decide +kernel
theorem dX6_constant_26 : decode cX6_constant 26 = .ok (.lload_n 1, 1) := by decide +kernel
theorem dX6_constant_27 : decode cX6_constant 27 = .ok (.lmul, 1) := by decide +kernel
theorem dX6_constant_28 : decode cX6_constant 28 = .ok (.lload_n 1, 1) := by decide +kernel
theorem dX6_constant_29 : decode cX6_constant 29 = .ok (.lmul, 1) := by decide +kernel
theorem dX6_constant_30 : decode cX6_constant 30 = .ok (.ldc2_w 61, 3) := by decide +kernel
theorem dX6_constant_33 : decode cX6_constant 33 = .ok (.ldiv, 1) := by decide +kernel
theorem dX6_constant_34 : decode cX6_constant 34 = .ok (.lmul, 1) := by decide +kernel
theorem dX6_constant_35 : decode cX6_constant 35 = .ok (.lreturn, 1) := by decide +kernel
theorem dX7_init_0 : decode cX7_init 0 = .ok (.aload_n 0, 1) := by decide +kernel
theorem dX7_init_1 : decode cX7_init 1 = .ok (.invokespecial 3, 3) := by decide +kernel
theorem dX7_init_4 : decode cX7_init 4 = .ok (.aload_n 0, 1) := by decide +kernel
theorem dX7_init_5 : decode cX7_init 5 = .ok (.bipush 20, 2) := by decide +kernel
theorem dX7_init_7 : decode cX7_init 7 = .ok (.newarray .int, 2) := by decide +kernel
theorem dX7_init_9 : decode cX7_init 9 = .ok (.putfield 9, 3) := by decide +kernel
theorem dX7_init_12 : decode cX7_init 12 = .ok (.aload_n 0, 1) := by decide +kernel
theorem dX7_init_13 : decode cX7_init 13 = .ok (.bipush 20, 2) := by decide +kernel
theorem dX7_init_15 : decode cX7_init 15 = .ok (.newarray .int, 2) := by decide +kernel
theorem dX7_init_17 : decode cX7_init 17 = .ok (.putfield 15, 3) := by decide +kernel
theorem dX7_init_20 : decode cX7_init 20 = .ok (.return_, 1) := by decide +kernel
theorem dX8_init_0 : decode cX8_init 0 = .ok (.aload_n 0, 1) := by decide +kernel
theorem dX8_init_1 : decode cX8_init 1 = .ok (.invokespecial 3, 3) := by decide +kernel
theorem dX8_init_4 : decode cX8_init 4 = .ok (.return_, 1) := by decide +kernel
theorem dX8_start_0 : decode cX8_start 0 = .ok (.aload_n 0, 1) := by decide +kernel
theorem dX8_start_1 : decode cX8_start 1 = .ok (.ldc2_w 9, 3) := by decide +kernel
theorem dX8_start_4 : decode cX8_start 4 = .ok (.iload_n 1, 1) := by decide +kernel
theorem dX8_start_5 : decode cX8_start 5 = .ok (.i2l, 1) := by decide +kernel
theorem dX8_start_6 : decode cX8_start 6 = .ok (.lmul, 1) := by decide +kernel
theorem dX8_start_7 : decode cX8_start 7 = .ok (.putfield 11, 3) := by decide +kernel
theorem dX8_start_10 : decode cX8_start 10 = .ok (.aload_n 0, 1) := by decide +kernel
theorem dX8_start_11 : decode cX8_start 11 = .ok (.lconst 0, 1) := by decide +kernel
theorem dX8_start_12 : decode cX8_start 12 = .ok (.putfield 17, 3) := by decide +kernel
theorem dX8_start_15 : decode cX8_start 15 = .ok (.aload_n 0, 1) := by decide +kernel
theorem dX8_start_16 : decode cX8_start 16 = .ok (.lconst 0, 1) := by decide +kernel
theorem dX8_start_17 : decode cX8_start 17 = .ok (.putfield 20, 3) := by decide +kernel
theorem dX8_start_20 : decode cX8_start 20 = .ok (.return_, 1) := by decide +kernel
theorem dX8_turn_0 : decode cX8_turn 0 = .ok (.aload_n 0, 1) := by decide +kernel
theorem dX8_turn_1 : decode cX8_turn 1 = .ok (.dup, 1) := by decide +kernel
theorem dX8_turn_2 : decode cX8_turn 2 = .ok (.getfield 17, 3) := by decide +kernel
theorem dX8_turn_5 : decode cX8_turn 5 = .ok (.lload_n 1, 1) := by decide +kernel
theorem dX8_turn_6 : decode cX8_turn 6 = .ok (.bipush 100, 2) := by decide +kernel
theorem dX8_turn_8 : decode cX8_turn 8 = .ok (.iload_n 3, 1) := by decide +kernel
theorem dX8_turn_9 : decode cX8_turn 9 = .ok (.isub, 1) := by decide +kernel
theorem dX8_turn_10 : decode cX8_turn 10 = .ok (.i2l, 1) := by decide +kernel
theorem dX8_turn_11 : decode cX8_turn 11 = .ok (.lmul, 1) := by decide +kernel
theorem dX8_turn_12 : decode cX8_turn 12 = .ok (.ldc2_w 23, 3) := by decide +kernel
theorem dX8_turn_15 : decode cX8_turn 15 = .ok (.ldiv, 1) := by decide +kernel
theorem dX8_turn_16 : decode cX8_turn 16 = .ok (.ladd, 1) := by decide +kernel
theorem dX8_turn_17 : decode cX8_turn 17 = .ok (.putfield 17, 3) := by decide +kernel
theorem dX8_turn_20 : decode cX8_turn 20 = .ok (.aload_n 0, 1) := by decide +kernel
theorem dX8_turn_21 : decode cX8_turn 21 = .ok (.getfield 17, 3) := by decide +kernel
theorem dX8_turn_24 : decode cX8_turn 24 = .ok (.aload_n 0, 1) := by decide +kernel
theorem dX8_turn_25 : decode cX8_turn 25 = .ok (.getfield 11, 3) := by decide +kernel
theorem dX8_turn_28 : decode cX8_turn 28 = .ok (.lcmp, 1) := by decide +kernel
theorem dX8_turn_29 : decode cX8_turn 29 = .ok (.ifCond .le 32, 3) := by decide +kernel
theorem dX8_turn_32 : decode cX8_turn 32 = .ok (.aload_n 0, 1) := by decide +kernel
theorem dX8_turn_33 : decode cX8_turn 33 = .ok (.dup, 1) := by decide +kernel
theorem dX8_turn_34 : decode cX8_turn 34 = .ok (.getfield 20, 3) := by decide +kernel
theorem dX8_turn_37 : decode cX8_turn 37 = .ok (.aload_n 0, 1) := by decide +kernel
theorem dX8_turn_38 : decode cX8_turn 38 = .ok (.getfield 17, 3) := by decide +kernel
theorem dX8_turn_41 : decode cX8_turn 41 = .ok (.aload_n 0, 1) := by decide +kernel
theorem dX8_turn_42 : decode cX8_turn 42 = .ok (.getfield 11, 3) := by decide +kernel
theorem dX8_turn_45 : decode cX8_turn 45 = .ok (.lsub, 1) := by decide +kernel
theorem dX8_turn_46 : decode cX8_turn 46 = .ok (.ladd, 1) := by decide +kernel
theorem dX8_turn_47 : decode cX8_turn 47 = .ok (.putfield 20, 3) := by decide +kernel
theorem dX8_turn_50 : decode cX8_turn 50 = .ok (.aload_n 0, 1) := by decide +kernel
theorem dX8_turn_51 : decode cX8_turn 51 = .ok (.aload_n 0, 1) := by decide +kernel
theorem dX8_turn_52 : decode cX8_turn 52 = .ok (.getfield 11, 3) := by decide +kernel
theorem dX8_turn_55 : decode cX8_turn 55 = .ok (.putfield 17, 3) := by decide +kernel
theorem dX8_turn_58 : decode cX8_turn 58 = .ok (.goto 30, 3) := by decide +kernel
theorem dX8_turn_61 : decode cX8_turn 61 = .ok (.aload_n 0, 1) := by decide +kernel
theorem dX8_turn_62 : decode cX8_turn 62 = .ok (.getfield 17, 3) := by decide +kernel
theorem dX8_turn_65 : decode cX8_turn 65 = .ok (.lconst 0, 1) := by decide +kernel
theorem dX8_turn_66 : decode cX8_turn 66 = .ok (.lcmp, 1) := by decide +kernel
theorem dX8_turn_67 : decode cX8_turn 67 = .ok (.ifCond .ge 21, 3) := by decide +kernel
theorem dX8_turn_70 : decode cX8_turn 70 = .ok (.aload_n 0, 1) := by decide +kernel
theorem dX8_turn_71 : decode cX8_turn 71 = .ok (.dup, 1) := by decide +kernel
theorem dX8_turn_72 : decode cX8_turn 72 = .ok (.getfield 20, 3) := by decide +kernel
theorem dX8_turn_75 : decode cX8_turn 75 = .ok (.aload_n 0, 1) := by decide +kernel
theorem dX8_turn_76 : decode cX8_turn 76 = .ok (.getfield 17, 3) := by decide +kernel
theorem dX8_turn_79 : decode cX8_turn 79 = .ok (.ladd, 1) := by decide +kernel
theorem dX8_turn_80 : decode cX8_turn 80 = .ok (.putfield 20, 3) := by decide +kernel
theorem dX8_turn_83 : decode cX8_turn 83 = .ok (.aload_n 0, 1) := by decide +kernel
theorem dX8_turn_84 : decode cX8_turn 84 = .ok (.lconst 0, 1) := by decide +kernel
theorem dX8_turn_85 : decode cX8_turn 85 = .ok (.putfield 17, 3) := by decide +kernel
theorem dX8_turn_88 : decode cX8_turn 88 = .ok (.return_, 1) := by decide +kernel
theorem dJ6_numberOfLeadingZeros_0f7a4_0 : decode cJ6_numberOfLeadingZeros_0f7a4 0 = .ok (.iload_n 0, 1) := by decide +kernel
theorem dJ6_numberOfLeadingZeros_0f7a4_1 : decode cJ6_numberOfLeadingZeros_0f7a4 1 = .ok (.ifCond .gt 14, 3) := by decide +kernel
theorem dJ6_numberOfLeadingZeros_0f7a4_4 : decode cJ6_numberOfLeadingZeros_0f7a4 4 = .ok (.iload_n 0, 1) := by decide +kernel
theorem dJ6_numberOfLeadingZeros_0f7a4_5 : decode cJ6_numberOfLeadingZeros_0f7a4 5 = .ok (.ifCond .ne 8, 3) := by decide +kernel
theorem dJ6_numberOfLeadingZeros_0f7a4_8 : decode cJ6_numberOfLeadingZeros_0f7a4 8 = .ok (.bipush 32, 2) := by decide +kernel
theorem dJ6_numberOfLeadingZeros_0f7a4_10 : decode cJ6_numberOfLeadingZeros_0f7a4 10 = .ok (.goto 4, 3) := by decide +kernel
theorem dJ6_numberOfLeadingZeros_0f7a4_13 : decode cJ6_numberOfLeadingZeros_0f7a4 13 = .ok (.iconst 0, 1) := by decide +kernel
theorem dJ6_numberOfLeadingZeros_0f7a4_14 : decode cJ6_numberOfLeadingZeros_0f7a4 14 = .ok (.ireturn, 1) := by decide +kernel
theorem dJ6_numberOfLeadingZeros_0f7a4_15 : decode cJ6_numberOfLeadingZeros_0f7a4 15 = .ok (.bipush 31, 2) := by decide +kernel
theorem dJ6_numberOfLeadingZeros_0f7a4_17 : decode cJ6_numberOfLeadingZeros_0f7a4 17 = .ok (.istore_n 1, 1) := by decide +kernel
theorem dJ6_numberOfLeadingZeros_0f7a4_18 : decode cJ6_numberOfLeadingZeros_0f7a4 18 = .ok (.iload_n 0, 1) := by decide +kernel
theorem dJ6_numberOfLeadingZeros_0f7a4_19 : decode cJ6_numberOfLeadingZeros_0f7a4 19 = .ok (.ldc_w 264, 3) := by decide +kernel
theorem dJ6_numberOfLeadingZeros_0f7a4_22 : decode cJ6_numberOfLeadingZeros_0f7a4 22 = .ok (.if_icmp .lt 11, 3) := by decide +kernel
theorem dJ6_numberOfLeadingZeros_0f7a4_25 : decode cJ6_numberOfLeadingZeros_0f7a4 25 = .ok (.iinc 1 (-16), 3) := by decide +kernel
theorem dJ6_numberOfLeadingZeros_0f7a4_28 : decode cJ6_numberOfLeadingZeros_0f7a4 28 = .ok (.iload_n 0, 1) := by decide +kernel
theorem dJ6_numberOfLeadingZeros_0f7a4_29 : decode cJ6_numberOfLeadingZeros_0f7a4 29 = .ok (.bipush 16, 2) := by decide +kernel
theorem dJ6_numberOfLeadingZeros_0f7a4_31 : decode cJ6_numberOfLeadingZeros_0f7a4 31 = .ok (.iushr, 1) := by decide +kernel
theorem dJ6_numberOfLeadingZeros_0f7a4_32 : decode cJ6_numberOfLeadingZeros_0f7a4 32 = .ok (.istore_n 0, 1) := by decide +kernel
theorem dJ6_numberOfLeadingZeros_0f7a4_33 : decode cJ6_numberOfLeadingZeros_0f7a4 33 = .ok (.iload_n 0, 1) := by decide +kernel
theorem dJ6_numberOfLeadingZeros_0f7a4_34 : decode cJ6_numberOfLeadingZeros_0f7a4 34 = .ok (.sipush 256, 3) := by decide +kernel
theorem dJ6_numberOfLeadingZeros_0f7a4_37 : decode cJ6_numberOfLeadingZeros_0f7a4 37 = .ok (.if_icmp .lt 11, 3) := by decide +kernel
theorem dJ6_numberOfLeadingZeros_0f7a4_40 : decode cJ6_numberOfLeadingZeros_0f7a4 40 = .ok (.iinc 1 (-8), 3) := by decide +kernel
theorem dJ6_numberOfLeadingZeros_0f7a4_43 : decode cJ6_numberOfLeadingZeros_0f7a4 43 = .ok (.iload_n 0, 1) := by decide +kernel
theorem dJ6_numberOfLeadingZeros_0f7a4_44 : decode cJ6_numberOfLeadingZeros_0f7a4 44 = .ok (.bipush 8, 2) := by decide +kernel
theorem dJ6_numberOfLeadingZeros_0f7a4_46 : decode cJ6_numberOfLeadingZeros_0f7a4 46 = .ok (.iushr, 1) := by decide +kernel
theorem dJ6_numberOfLeadingZeros_0f7a4_47 : decode cJ6_numberOfLeadingZeros_0f7a4 47 = .ok (.istore_n 0, 1) := by decide +kernel
theorem dJ6_numberOfLeadingZeros_0f7a4_48 : decode cJ6_numberOfLeadingZeros_0f7a4 48 = .ok (.iload_n 0, 1) := by decide +kernel
theorem dJ6_numberOfLeadingZeros_0f7a4_49 : decode cJ6_numberOfLeadingZeros_0f7a4 49 = .ok (.bipush 16, 2) := by decide +kernel
theorem dJ6_numberOfLeadingZeros_0f7a4_51 : decode cJ6_numberOfLeadingZeros_0f7a4 51 = .ok (.if_icmp .lt 10, 3) := by decide +kernel
theorem dJ6_numberOfLeadingZeros_0f7a4_54 : decode cJ6_numberOfLeadingZeros_0f7a4 54 = .ok (.iinc 1 (-4), 3) := by decide +kernel
theorem dJ6_numberOfLeadingZeros_0f7a4_57 : decode cJ6_numberOfLeadingZeros_0f7a4 57 = .ok (.iload_n 0, 1) := by decide +kernel
theorem dJ6_numberOfLeadingZeros_0f7a4_58 : decode cJ6_numberOfLeadingZeros_0f7a4 58 = .ok (.iconst 4, 1) := by decide +kernel
theorem dJ6_numberOfLeadingZeros_0f7a4_59 : decode cJ6_numberOfLeadingZeros_0f7a4 59 = .ok (.iushr, 1) := by decide +kernel
theorem dJ6_numberOfLeadingZeros_0f7a4_60 : decode cJ6_numberOfLeadingZeros_0f7a4 60 = .ok (.istore_n 0, 1) := by decide +kernel
theorem dJ6_numberOfLeadingZeros_0f7a4_61 : decode cJ6_numberOfLeadingZeros_0f7a4 61 = .ok (.iload_n 0, 1) := by decide +kernel
theorem dJ6_numberOfLeadingZeros_0f7a4_62 : decode cJ6_numberOfLeadingZeros_0f7a4 62 = .ok (.iconst 4, 1) := by decide +kernel
theorem dJ6_numberOfLeadingZeros_0f7a4_63 : decode cJ6_numberOfLeadingZeros_0f7a4 63 = .ok (.if_icmp .lt 10, 3) := by decide +kernel
theorem dJ6_numberOfLeadingZeros_0f7a4_66 : decode cJ6_numberOfLeadingZeros_0f7a4 66 = .ok (.iinc 1 (-2), 3) := by decide +kernel
theorem dJ6_numberOfLeadingZeros_0f7a4_69 : decode cJ6_numberOfLeadingZeros_0f7a4 69 = .ok (.iload_n 0, 1) := by decide +kernel
theorem dJ6_numberOfLeadingZeros_0f7a4_70 : decode cJ6_numberOfLeadingZeros_0f7a4 70 = .ok (.iconst 2, 1) := by decide +kernel
theorem dJ6_numberOfLeadingZeros_0f7a4_71 : decode cJ6_numberOfLeadingZeros_0f7a4 71 = .ok (.iushr, 1) := by decide +kernel
theorem dJ6_numberOfLeadingZeros_0f7a4_72 : decode cJ6_numberOfLeadingZeros_0f7a4 72 = .ok (.istore_n 0, 1) := by decide +kernel
theorem dJ6_numberOfLeadingZeros_0f7a4_73 : decode cJ6_numberOfLeadingZeros_0f7a4 73 = .ok (.iload_n 1, 1) := by decide +kernel
theorem dJ6_numberOfLeadingZeros_0f7a4_74 : decode cJ6_numberOfLeadingZeros_0f7a4 74 = .ok (.iload_n 0, 1) := by decide +kernel
theorem dJ6_numberOfLeadingZeros_0f7a4_75 : decode cJ6_numberOfLeadingZeros_0f7a4 75 = .ok (.iconst 1, 1) := by decide +kernel
theorem dJ6_numberOfLeadingZeros_0f7a4_76 : decode cJ6_numberOfLeadingZeros_0f7a4 76 = .ok (.iushr, 1) := by decide +kernel
theorem dJ6_numberOfLeadingZeros_0f7a4_77 : decode cJ6_numberOfLeadingZeros_0f7a4 77 = .ok (.isub, 1) := by decide +kernel
theorem dJ6_numberOfLeadingZeros_0f7a4_78 : decode cJ6_numberOfLeadingZeros_0f7a4 78 = .ok (.ireturn, 1) := by decide +kernel
theorem dJ13_numberOfLeadingZeros_95d88_0 : decode cJ13_numberOfLeadingZeros_95d88 0 = .ok (.lload_n 0, 1) := by decide +kernel
theorem dJ13_numberOfLeadingZeros_95d88_1 : decode cJ13_numberOfLeadingZeros_95d88 1 = .ok (.bipush 32, 2) := by decide +kernel
theorem dJ13_numberOfLeadingZeros_95d88_3 : decode cJ13_numberOfLeadingZeros_95d88 3 = .ok (.lushr, 1) := by decide +kernel
theorem dJ13_numberOfLeadingZeros_95d88_4 : decode cJ13_numberOfLeadingZeros_95d88 4 = .ok (.l2i, 1) := by decide +kernel
theorem dJ13_numberOfLeadingZeros_95d88_5 : decode cJ13_numberOfLeadingZeros_95d88 5 = .ok (.istore_n 2, 1) := by decide +kernel
theorem dJ13_numberOfLeadingZeros_95d88_6 : decode cJ13_numberOfLeadingZeros_95d88 6 = .ok (.iload_n 2, 1) := by decide +kernel
theorem dJ13_numberOfLeadingZeros_95d88_7 : decode cJ13_numberOfLeadingZeros_95d88 7 = .ok (.ifCond .ne 14, 3) := by decide +kernel
theorem dJ13_numberOfLeadingZeros_95d88_10 : decode cJ13_numberOfLeadingZeros_95d88 10 = .ok (.bipush 32, 2) := by decide +kernel
theorem dJ13_numberOfLeadingZeros_95d88_12 : decode cJ13_numberOfLeadingZeros_95d88 12 = .ok (.lload_n 0, 1) := by decide +kernel
theorem dJ13_numberOfLeadingZeros_95d88_13 : decode cJ13_numberOfLeadingZeros_95d88 13 = .ok (.l2i, 1) := by decide +kernel
theorem dJ13_numberOfLeadingZeros_95d88_14 : decode cJ13_numberOfLeadingZeros_95d88 14 = .ok (.invokestatic 308, 3) := by decide +kernel
theorem dJ13_numberOfLeadingZeros_95d88_17 : decode cJ13_numberOfLeadingZeros_95d88 17 = .ok (.iadd, 1) := by decide +kernel
theorem dJ13_numberOfLeadingZeros_95d88_18 : decode cJ13_numberOfLeadingZeros_95d88 18 = .ok (.goto 7, 3) := by decide +kernel
theorem dJ13_numberOfLeadingZeros_95d88_21 : decode cJ13_numberOfLeadingZeros_95d88 21 = .ok (.iload_n 2, 1) := by decide +kernel
theorem dJ13_numberOfLeadingZeros_95d88_22 : decode cJ13_numberOfLeadingZeros_95d88 22 = .ok (.invokestatic 308, 3) := by decide +kernel
theorem dJ13_numberOfLeadingZeros_95d88_25 : decode cJ13_numberOfLeadingZeros_95d88 25 = .ok (.ireturn, 1) := by decide +kernel
theorem dJ9_abs_0f7a4_0 : decode cJ9_abs_0f7a4 0 = .ok (.iload_n 0, 1) := by decide +kernel
theorem dJ9_abs_0f7a4_1 : decode cJ9_abs_0f7a4 1 = .ok (.ifCond .ge 8, 3) := by decide +kernel
theorem dJ9_abs_0f7a4_4 : decode cJ9_abs_0f7a4 4 = .ok (.iload_n 0, 1) := by decide +kernel
theorem dJ9_abs_0f7a4_5 : decode cJ9_abs_0f7a4 5 = .ok (.ineg, 1) := by decide +kernel
theorem dJ9_abs_0f7a4_6 : decode cJ9_abs_0f7a4 6 = .ok (.goto 4, 3) := by decide +kernel
theorem dJ9_abs_0f7a4_9 : decode cJ9_abs_0f7a4 9 = .ok (.iload_n 0, 1) := by decide +kernel
theorem dJ9_abs_0f7a4_10 : decode cJ9_abs_0f7a4 10 = .ok (.ireturn, 1) := by decide +kernel
theorem dJ9_abs_067f4_0 : decode cJ9_abs_067f4 0 = .ok (.lload_n 0, 1) := by decide +kernel
theorem dJ9_abs_067f4_1 : decode cJ9_abs_067f4 1 = .ok (.lconst 0, 1) := by decide +kernel
theorem dJ9_abs_067f4_2 : decode cJ9_abs_067f4 2 = .ok (.lcmp, 1) := by decide +kernel
theorem dJ9_abs_067f4_3 : decode cJ9_abs_067f4 3 = .ok (.ifCond .ge 8, 3) := by decide +kernel
theorem dJ9_abs_067f4_6 : decode cJ9_abs_067f4 6 = .ok (.lload_n 0, 1) := by decide +kernel
theorem dJ9_abs_067f4_7 : decode cJ9_abs_067f4 7 = .ok (.lneg, 1) := by decide +kernel
theorem dJ9_abs_067f4_8 : decode cJ9_abs_067f4 8 = .ok (.goto 4, 3) := by decide +kernel
theorem dJ9_abs_067f4_11 : decode cJ9_abs_067f4 11 = .ok (.lload_n 0, 1) := by decide +kernel
theorem dJ9_abs_067f4_12 : decode cJ9_abs_067f4 12 = .ok (.lreturn, 1) := by decide +kernel
theorem dJ9_max_7cf53_0 : decode cJ9_max_7cf53 0 = .ok (.iload_n 0, 1) := by decide +kernel
theorem dJ9_max_7cf53_1 : decode cJ9_max_7cf53 1 = .ok (.iload_n 1, 1) := by decide +kernel
theorem dJ9_max_7cf53_2 : decode cJ9_max_7cf53 2 = .ok (.if_icmp .lt 7, 3) := by decide +kernel
theorem dJ9_max_7cf53_5 : decode cJ9_max_7cf53 5 = .ok (.iload_n 0, 1) := by decide +kernel
theorem dJ9_max_7cf53_6 : decode cJ9_max_7cf53 6 = .ok (.goto 4, 3) := by decide +kernel
theorem dJ9_max_7cf53_9 : decode cJ9_max_7cf53 9 = .ok (.iload_n 1, 1) := by decide +kernel
theorem dJ9_max_7cf53_10 : decode cJ9_max_7cf53 10 = .ok (.ireturn, 1) := by decide +kernel
theorem dJ9_max_f86c9_0 : decode cJ9_max_f86c9 0 = .ok (.lload_n 0, 1) := by decide +kernel
theorem dJ9_max_f86c9_1 : decode cJ9_max_f86c9 1 = .ok (.lload_n 2, 1) := by decide +kernel
theorem dJ9_max_f86c9_2 : decode cJ9_max_f86c9 2 = .ok (.lcmp, 1) := by decide +kernel
theorem dJ9_max_f86c9_3 : decode cJ9_max_f86c9 3 = .ok (.ifCond .lt 7, 3) := by decide +kernel
theorem dJ9_max_f86c9_6 : decode cJ9_max_f86c9 6 = .ok (.lload_n 0, 1) := by decide +kernel
theorem dJ9_max_f86c9_7 : decode cJ9_max_f86c9 7 = .ok (.goto 4, 3) := by decide +kernel
theorem dJ9_max_f86c9_10 : decode cJ9_max_f86c9 10 = .ok (.lload_n 2, 1) := by decide +kernel
theorem dJ9_max_f86c9_11 : decode cJ9_max_f86c9 11 = .ok (.lreturn, 1) := by decide +kernel
theorem dJ9_min_7cf53_0 : decode cJ9_min_7cf53 0 = .ok (.iload_n 0, 1) := by decide +kernel
theorem dJ9_min_7cf53_1 : decode cJ9_min_7cf53 1 = .ok (.iload_n 1, 1) := by decide +kernel
theorem dJ9_min_7cf53_2 : decode cJ9_min_7cf53 2 = .ok (.if_icmp .gt 7, 3) := by decide +kernel
theorem dJ9_min_7cf53_5 : decode cJ9_min_7cf53 5 = .ok (.iload_n 0, 1) := by decide +kernel
theorem dJ9_min_7cf53_6 : decode cJ9_min_7cf53 6 = .ok (.goto 4, 3) := by decide +kernel
theorem dJ9_min_7cf53_9 : decode cJ9_min_7cf53 9 = .ok (.iload_n 1, 1) := by decide +kernel
theorem dJ9_min_7cf53_10 : decode cJ9_min_7cf53 10 = .ok (.ireturn, 1) := by decide +kernel
theorem dJ9_min_f86c9_0 : decode cJ9_min_f86c9 0 = .ok (.lload_n 0, 1) := by decide +kernel
theorem dJ9_min_f86c9_1 : decode cJ9_min_f86c9 1 = .ok (.lload_n 2, 1) := by decide +kernel
theorem dJ9_min_f86c9_2 : decode cJ9_min_f86c9 2 = .ok (.lcmp, 1) := by decide +kernel
theorem dJ9_min_f86c9_3 : decode cJ9_min_f86c9 3 = .ok (.ifCond .gt 7, 3) := by decide +kernel
theorem dJ9_min_f86c9_6 : decode cJ9_min_f86c9 6 = .ok (.lload_n 0, 1) := by decide +kernel
theorem dJ9_min_f86c9_7 : decode cJ9_min_f86c9 7 = .ok (.goto 4, 3) := by decide +kernel
theorem dJ9_min_f86c9_10 : decode cJ9_min_f86c9 10 = .ok (.lload_n 2, 1) := by decide +kernel
theorem dJ9_min_f86c9_11 : decode cJ9_min_f86c9 11 = .ok (.lreturn, 1) := by decide +kernel
