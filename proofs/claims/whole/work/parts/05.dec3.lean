theorem dX10_init_0 : decode cX10_init 0 = .ok (.aload_n 0, 1) := by decide +kernel
theorem dX10_init_1 : decode cX10_init 1 = .ok (.invokespecial 1, 3) := by decide +kernel
theorem dX10_init_4 : decode cX10_init 4 = .ok (.aload_n 0, 1) := by decide +kernel
theorem dX10_init_5 : decode cX10_init 5 = .ok (.bipush 106, 2) := by decide +kernel
theorem dX10_init_7 : decode cX10_init 7 = .ok (.newarray .long, 2) := by decide +kernel
theorem dX10_init_9 : decode cX10_init 9 = .ok (.putfield 7, 3) := by decide +kernel
theorem dX10_init_12 : decode cX10_init 12 = .ok (.aload_n 0, 1) := by decide +kernel
theorem dX10_init_13 : decode cX10_init 13 = .ok (.sipush 636, 3) := by decide +kernel
theorem dX10_init_16 : decode cX10_init 16 = .ok (.newarray .long, 2) := by decide +kernel
theorem dX10_init_18 : decode cX10_init 18 = .ok (.putfield 13, 3) := by decide +kernel
theorem dX10_init_21 : decode cX10_init 21 = .ok (.aload_n 0, 1) := by decide +kernel
theorem dX10_init_22 : decode cX10_init 22 = .ok (.bipush 60, 2) := by decide +kernel
theorem dX10_init_24 : decode cX10_init 24 = .ok (.newarray .int, 2) := by decide +kernel
theorem dX10_init_26 : decode cX10_init 26 = .ok (.putfield 16, 3) := by decide +kernel
theorem dX10_init_29 : decode cX10_init 29 = .ok (.aload_n 0, 1) := by decide +kernel
theorem dX10_init_30 : decode cX10_init 30 = .ok (.bipush 12, 2) := by decide +kernel
theorem dX10_init_32 : decode cX10_init 32 = .ok (.newarray .boolean, 2) := by decide +kernel
theorem dX10_init_34 : decode cX10_init 34 = .ok (.putfield 20, 3) := by decide +kernel
theorem dX10_init_37 : decode cX10_init 37 = .ok (.aload_n 0, 1) := by decide +kernel
theorem dX10_init_38 : decode cX10_init 38 = .ok (.bipush 64, 2) := by decide +kernel
theorem dX10_init_40 : decode cX10_init 40 = .ok (.newarray .int, 2) := by decide +kernel
theorem dX10_init_42 : decode cX10_init 42 = .ok (.putfield 24, 3) := by decide +kernel
theorem dX10_init_45 : decode cX10_init 45 = .ok (.aload_n 0, 1) := by decide +kernel
theorem dX10_init_46 : decode cX10_init 46 = .ok (.getfield 7, 3) := by decide +kernel
theorem dX10_init_49 : decode cX10_init 49 = .ok (.iconst 2, 1) := by decide +kernel
theorem dX10_init_50 : decode cX10_init 50 = .ok (.ldc2_w 27, 3) := by decide +kernel
theorem dX10_init_53 : decode cX10_init 53 = .ok (.lastore, 1) := by decide +kernel
theorem dX10_init_54 : decode cX10_init 54 = .ok (.aload_n 0, 1) := by decide +kernel
theorem dX10_init_55 : decode cX10_init 55 = .ok (.getfield 7, 3) := by decide +kernel
theorem dX10_init_58 : decode cX10_init 58 = .ok (.iconst 3, 1) := by decide +kernel
theorem dX10_init_59 : decode cX10_init 59 = .ok (.ldc2_w 29, 3) := by decide +kernel
theorem dX10_init_62 : decode cX10_init 62 = .ok (.lastore, 1) := by decide +kernel
theorem dX10_init_63 : decode cX10_init 63 = .ok (.aload_n 0, 1) := by decide +kernel
theorem dX10_init_64 : decode cX10_init 64 = .ok (.getfield 7, 3) := by decide +kernel
theorem dX10_init_67 : decode cX10_init 67 = .ok (.iconst 4, 1) := by decide +kernel
theorem dX10_init_68 : decode cX10_init 68 = .ok (.ldc2_w 31, 3) := by decide +kernel
theorem dX10_init_71 : decode cX10_init 71 = .ok (.lastore, 1) := by decide +kernel
theorem dX10_init_72 : decode cX10_init 72 = .ok (.aload_n 0, 1) := by decide +kernel
theorem dX10_init_73 : decode cX10_init 73 = .ok (.getfield 7, 3) := by decide +kernel
theorem dX10_init_76 : decode cX10_init 76 = .ok (.bipush 6, 2) := by decide +kernel
theorem dX10_init_78 : decode cX10_init 78 = .ok (.ldc2_w 31, 3) := by decide +kernel
theorem dX10_init_81 : decode cX10_init 81 = .ok (.lastore, 1) := by decide +kernel
theorem dX10_init_82 : decode cX10_init 82 = .ok (.aload_n 0, 1) := by decide +kernel
theorem dX10_init_83 : decode cX10_init 83 = .ok (.getfield 7, 3) := by decide +kernel
theorem dX10_init_86 : decode cX10_init 86 = .ok (.bipush 7, 2) := by decide +kernel
theorem dX10_init_88 : decode cX10_init 88 = .ok (.ldc2_w 33, 3) := by decide +kernel
theorem dX10_init_91 : decode cX10_init 91 = .ok (.lastore, 1) := by decide +kernel
theorem dX10_init_92 : decode cX10_init 92 = .ok (.return_, 1) := by decide +kernel
theorem dX10_thrown_0 : decode cX10_thrown 0 = .ok (.aload_n 0, 1) := by decide +kernel
theorem dX10_thrown_1 : decode cX10_thrown 1 = .ok (.getfield 35, 3) := by decide +kernel
theorem dX10_thrown_4 : decode cX10_thrown 4 = .ok (.ireturn, 1) := by decide +kernel
theorem dX10_within_0 : decode cX10_within 0 = .ok (.lload_n 0, 1) := by decide +kernel
theorem dX10_within_1 : decode cX10_within 1 = .ok (.lload_n 2, 1) := by decide +kernel
theorem dX10_within_2 : decode cX10_within 2 = .ok (.lcmp, 1) := by decide +kernel
theorem dX10_within_3 : decode cX10_within 3 = .ok (.ifCond .lt 14, 3) := by decide +kernel
theorem dX10_within_6 : decode cX10_within 6 = .ok (.lload_n 0, 1) := by decide +kernel
theorem dX10_within_7 : decode cX10_within 7 = .ok (.lload 4, 2) := by decide +kernel
theorem dX10_within_9 : decode cX10_within 9 = .ok (.lcmp, 1) := by decide +kernel
theorem dX10_within_10 : decode cX10_within 10 = .ok (.ifCond .gt 7, 3) := by decide +kernel
theorem dX10_within_13 : decode cX10_within 13 = .ok (.iconst 1, 1) := by decide +kernel
theorem dX10_within_14 : decode cX10_within 14 = .ok (.goto 4, 3) := by decide +kernel
theorem dX10_within_17 : decode cX10_within 17 = .ok (.iconst 0, 1) := by decide +kernel
theorem dX10_within_18 : decode cX10_within 18 = .ok (.ireturn, 1) := by decide +kernel
theorem dX10_of_0 : decode cX10_of 0 = .ok (.aload_n 0, 1) := by decide +kernel
theorem dX10_of_1 : decode cX10_of 1 = .ok (.getfield 7, 3) := by decide +kernel
theorem dX10_of_4 : decode cX10_of 4 = .ok (.iconst 2, 1) := by decide +kernel
theorem dX10_of_5 : decode cX10_of 5 = .ok (.iload_n 1, 1) := by decide +kernel
theorem dX10_of_6 : decode cX10_of 6 = .ok (.iadd, 1) := by decide +kernel
theorem dX10_of_7 : decode cX10_of 7 = .ok (.laload, 1) := by decide +kernel
theorem dX10_of_8 : decode cX10_of 8 = .ok (.lreturn, 1) := by decide +kernel
theorem dX10_corners_0 : decode cX10_corners 0 = .ok (.aload_n 0, 1) := by decide +kernel
theorem dX10_corners_1 : decode cX10_corners 1 = .ok (.getfield 7, 3) := by decide +kernel
theorem dX10_corners_4 : decode cX10_corners 4 = .ok (.bipush 8, 2) := by decide +kernel
theorem dX10_corners_6 : decode cX10_corners 6 = .ok (.laload, 1) := by decide +kernel
theorem dX10_corners_7 : decode cX10_corners 7 = .ok (.l2i, 1) := by decide +kernel
theorem dX10_corners_8 : decode cX10_corners 8 = .ok (.ireturn, 1) := by decide +kernel
theorem dX10_isCorner_0 : decode cX10_isCorner 0 = .ok (.iload_n 1, 1) := by decide +kernel
theorem dX10_isCorner_1 : decode cX10_isCorner 1 = .ok (.i2l, 1) := by decide +kernel
theorem dX10_isCorner_2 : decode cX10_isCorner 2 = .ok (.lconst 0, 1) := by decide +kernel
theorem dX10_isCorner_3 : decode cX10_isCorner 3 = .ok (.aload_n 0, 1) := by decide +kernel
theorem dX10_isCorner_4 : decode cX10_isCorner 4 = .ok (.invokevirtual 39, 3) := by decide +kernel
theorem dX10_isCorner_7 : decode cX10_isCorner 7 = .ok (.iconst 1, 1) := by decide +kernel
theorem dX10_isCorner_8 : decode cX10_isCorner 8 = .ok (.isub, 1) := by decide +kernel
theorem dX10_isCorner_9 : decode cX10_isCorner 9 = .ok (.i2l, 1) := by decide +kernel
theorem dX10_isCorner_10 : decode cX10_isCorner 10 = .ok (.invokestatic 43, 3) := by decide +kernel
theorem dX10_isCorner_13 : decode cX10_isCorner 13 = .ok (.ireturn, 1) := by decide +kernel
theorem dX10_x_0 : decode cX10_x 0 = .ok (.aload_n 0, 1) := by decide +kernel
theorem dX10_x_1 : decode cX10_x 1 = .ok (.getfield 7, 3) := by decide +kernel
theorem dX10_x_4 : decode cX10_x 4 = .ok (.bipush 9, 2) := by decide +kernel
theorem dX10_x_6 : decode cX10_x 6 = .ok (.iconst 3, 1) := by decide +kernel
theorem dX10_x_7 : decode cX10_x 7 = .ok (.iload_n 1, 1) := by decide +kernel
theorem dX10_x_8 : decode cX10_x 8 = .ok (.aload_n 0, 1) := by decide +kernel
theorem dX10_x_9 : decode cX10_x 9 = .ok (.invokevirtual 39, 3) := by decide +kernel
theorem dX10_x_12 : decode cX10_x 12 = .ok (.irem, 1) := by decide +kernel
theorem dX10_x_13 : decode cX10_x 13 = .ok (.imul, 1) := by decide +kernel
theorem dX10_x_14 : decode cX10_x 14 = .ok (.iadd, 1) := by decide +kernel
theorem dX10_x_15 : decode cX10_x 15 = .ok (.laload, 1) := by decide +kernel
theorem dX10_x_16 : decode cX10_x 16 = .ok (.lreturn, 1) := by decide +kernel
theorem dX10_y_0 : decode cX10_y 0 = .ok (.aload_n 0, 1) := by decide +kernel
theorem dX10_y_1 : decode cX10_y 1 = .ok (.getfield 7, 3) := by decide +kernel
theorem dX10_y_4 : decode cX10_y 4 = .ok (.bipush 9, 2) := by decide +kernel
theorem dX10_y_6 : decode cX10_y 6 = .ok (.iconst 3, 1) := by decide +kernel
theorem dX10_y_7 : decode cX10_y 7 = .ok (.iload_n 1, 1) := by decide +kernel
theorem dX10_y_8 : decode cX10_y 8 = .ok (.aload_n 0, 1) := by decide +kernel
theorem dX10_y_9 : decode cX10_y 9 = .ok (.invokevirtual 39, 3) := by decide +kernel
theorem dX10_y_12 : decode cX10_y 12 = .ok (.irem, 1) := by decide +kernel
theorem dX10_y_13 : decode cX10_y 13 = .ok (.imul, 1) := by decide +kernel
theorem dX10_y_14 : decode cX10_y 14 = .ok (.iadd, 1) := by decide +kernel
theorem dX10_y_15 : decode cX10_y 15 = .ok (.iconst 1, 1) := by decide +kernel
theorem dX10_y_16 : decode cX10_y 16 = .ok (.iadd, 1) := by decide +kernel
theorem dX10_y_17 : decode cX10_y 17 = .ok (.laload, 1) := by decide +kernel
theorem dX10_y_18 : decode cX10_y 18 = .ok (.lreturn, 1) := by decide +kernel
theorem dX10_slip_0 : decode cX10_slip 0 = .ok (.aload_n 0, 1) := by decide +kernel
theorem dX10_slip_1 : decode cX10_slip 1 = .ok (.getfield 7, 3) := by decide +kernel
theorem dX10_slip_4 : decode cX10_slip 4 = .ok (.bipush 9, 2) := by decide +kernel
theorem dX10_slip_6 : decode cX10_slip 6 = .ok (.iconst 3, 1) := by decide +kernel
theorem dX10_slip_7 : decode cX10_slip 7 = .ok (.iload_n 1, 1) := by decide +kernel
theorem dX10_slip_8 : decode cX10_slip 8 = .ok (.imul, 1) := by decide +kernel
theorem dX10_slip_9 : decode cX10_slip 9 = .ok (.iadd, 1) := by decide +kernel
theorem dX10_slip_10 : decode cX10_slip 10 = .ok (.iconst 2, 1) := by decide +kernel
theorem dX10_slip_11 : decode cX10_slip 11 = .ok (.iadd, 1) := by decide +kernel
theorem dX10_slip_12 : decode cX10_slip 12 = .ok (.laload, 1) := by decide +kernel
theorem dX10_slip_13 : decode cX10_slip 13 = .ok (.lreturn, 1) := by decide +kernel
theorem dX10_size_0 : decode cX10_size 0 = .ok (.lload_n 0, 1) := by decide +kernel
theorem dX10_size_1 : decode cX10_size 1 = .ok (.lconst 0, 1) := by decide +kernel
theorem dX10_size_2 : decode cX10_size 2 = .ok (.lcmp, 1) := by decide +kernel
theorem dX10_size_3 : decode cX10_size 3 = .ok (.ifCond .ge 8, 3) := by decide +kernel
theorem dX10_size_6 : decode cX10_size 6 = .ok (.lload_n 0, 1) := by decide +kernel
theorem dX10_size_7 : decode cX10_size 7 = .ok (.lneg, 1) := by decide +kernel
theorem dX10_size_8 : decode cX10_size 8 = .ok (.goto 4, 3) := by decide +kernel
theorem dX10_size_11 : decode cX10_size 11 = .ok (.lload_n 0, 1) := by decide +kernel
theorem dX10_size_12 : decode cX10_size 12 = .ok (.lreturn, 1) := by decide +kernel
theorem dX10_root_0 : decode cX10_root 0 = .ok (.lconst 0, 1) := by decide +kernel
theorem dX10_root_1 : decode cX10_root 1 = .ok (.lstore_n 2, 1) := by decide +kernel
theorem dX10_root_2 : decode cX10_root 2 = .ok (.ldc2_w 47, 3) := by decide +kernel
theorem dX10_root_5 : decode cX10_root 5 = .ok (.lstore 4, 2) := by decide +kernel
theorem dX10_root_7 : decode cX10_root 7 = .ok (.lload 4, 2) := by decide +kernel
theorem dX10_root_9 : decode cX10_root 9 = .ok (.lload_n 2, 1) := by decide +kernel
theorem dX10_root_10 : decode cX10_root 10 = .ok (.lsub, 1) := by decide +kernel
theorem dX10_root_11 : decode cX10_root 11 = .ok (.lconst 1, 1) := by decide +kernel
theorem dX10_root_12 : decode cX10_root 12 = .ok (.lcmp, 1) := by decide +kernel
theorem dX10_root_13 : decode cX10_root 13 = .ok (.ifCond .le 36, 3) := by decide +kernel
theorem dX10_root_16 : decode cX10_root 16 = .ok (.lload_n 2, 1) := by decide +kernel
theorem dX10_root_17 : decode cX10_root 17 = .ok (.lload 4, 2) := by decide +kernel
theorem dX10_root_19 : decode cX10_root 19 = .ok (.ladd, 1) := by decide +kernel
theorem dX10_root_20 : decode cX10_root 20 = .ok (.ldc2_w 49, 3) := by decide +kernel
theorem dX10_root_23 : decode cX10_root 23 = .ok (.ldiv, 1) := by decide +kernel
theorem dX10_root_24 : decode cX10_root 24 = .ok (.lstore 6, 2) := by decide +kernel
theorem dX10_root_26 : decode cX10_root 26 = .ok (.lload 6, 2) := by decide +kernel
theorem dX10_root_28 : decode cX10_root 28 = .ok (.lload 6, 2) := by decide +kernel
theorem dX10_root_30 : decode cX10_root 30 = .ok (.lmul, 1) := by decide +kernel
theorem dX10_root_31 : decode cX10_root 31 = .ok (.lload_n 0, 1) := by decide +kernel
theorem dX10_root_32 : decode cX10_root 32 = .ok (.lcmp, 1) := by decide +kernel
theorem dX10_root_33 : decode cX10_root 33 = .ok (.ifCond .gt 9, 3) := by decide +kernel
theorem dX10_root_36 : decode cX10_root 36 = .ok (.lload 6, 2) := by decide +kernel
theorem dX10_root_38 : decode cX10_root 38 = .ok (.lstore_n 2, 1) := by decide +kernel
theorem dX10_root_39 : decode cX10_root 39 = .ok (.goto 7, 3) := by decide +kernel
theorem dX10_root_42 : decode cX10_root 42 = .ok (.lload 6, 2) := by decide +kernel
theorem dX10_root_44 : decode cX10_root 44 = .ok (.lstore 4, 2) := by decide +kernel
theorem dX10_root_46 : decode cX10_root 46 = .ok (.goto (-39), 3) := by decide +kernel
theorem dX10_root_49 : decode cX10_root 49 = .ok (.lload_n 2, 1) := by decide +kernel
theorem dX10_root_50 : decode cX10_root 50 = .ok (.lreturn, 1) := by decide +kernel
theorem dX10_reaches_0 : decode cX10_reaches 0 = .ok (.lload_n 1, 1) := by decide +kernel
theorem dX10_reaches_1 : decode cX10_reaches 1 = .ok (.ldc2_w 51, 3) := by decide +kernel
theorem dX10_reaches_4 : decode cX10_reaches 4 = .ok (.aload_n 0, 1) := by decide +kernel
theorem dX10_reaches_5 : decode cX10_reaches 5 = .ok (.getfield 7, 3) := by decide +kernel
theorem dX10_reaches_8 : decode cX10_reaches 8 = .ok (.iconst 0, 1) := by decide +kernel
theorem dX10_reaches_9 : decode cX10_reaches 9 = .ok (.laload, 1) := by decide +kernel
theorem dX10_reaches_10 : decode cX10_reaches 10 = .ok (.lmul, 1) := by decide +kernel
theorem dX10_reaches_11 : decode cX10_reaches 11 = .ok (.lsub, 1) := by decide +kernel
theorem dX10_reaches_12 : decode cX10_reaches 12 = .ok (.lstore 5, 2) := by decide +kernel
theorem dX10_reaches_14 : decode cX10_reaches 14 = .ok (.lload_n 3, 1) := by decide +kernel
theorem dX10_reaches_15 : decode cX10_reaches 15 = .ok (.ldc2_w 51, 3) := by decide +kernel
theorem dX10_reaches_18 : decode cX10_reaches 18 = .ok (.aload_n 0, 1) := by decide +kernel
theorem dX10_reaches_19 : decode cX10_reaches 19 = .ok (.getfield 7, 3) := by decide +kernel
theorem dX10_reaches_22 : decode cX10_reaches 22 = .ok (.iconst 1, 1) := by decide +kernel
theorem dX10_reaches_23 : decode cX10_reaches 23 = .ok (.laload, 1) := by decide +kernel
theorem dX10_reaches_24 : decode cX10_reaches 24 = .ok (.lmul, 1) := by decide +kernel
theorem dX10_reaches_25 : decode cX10_reaches 25 = .ok (.lsub, 1) := by decide +kernel
theorem dX10_reaches_26 : decode cX10_reaches 26 = .ok (.lstore 7, 2) := by decide +kernel
theorem dX10_reaches_28 : decode cX10_reaches 28 = .ok (.lload 5, 2) := by decide +kernel
theorem dX10_reaches_30 : decode cX10_reaches 30 = .ok (.lload 5, 2) := by decide +kernel
theorem dX10_reaches_32 : decode cX10_reaches 32 = .ok (.lmul, 1) := by decide +kernel
theorem dX10_reaches_33 : decode cX10_reaches 33 = .ok (.lload 7, 2) := by decide +kernel
theorem dX10_reaches_35 : decode cX10_reaches 35 = .ok (.lload 7, 2) := by decide +kernel
theorem dX10_reaches_37 : decode cX10_reaches 37 = .ok (.lmul, 1) := by decide +kernel
theorem dX10_reaches_38 : decode cX10_reaches 38 = .ok (.ladd, 1) := by decide +kernel
theorem dX10_reaches_39 : decode cX10_reaches 39 = .ok (.invokestatic 53, 3) := by decide +kernel
theorem dX10_reaches_42 : decode cX10_reaches 42 = .ok (.lstore 9, 2) := by decide +kernel
theorem dX10_reaches_44 : decode cX10_reaches 44 = .ok (.ldc2_w 51, 3) := by decide +kernel
theorem dX10_reaches_47 : decode cX10_reaches 47 = .ok (.aload_n 0, 1) := by decide +kernel
theorem dX10_reaches_48 : decode cX10_reaches 48 = .ok (.iconst 0, 1) := by decide +kernel
theorem dX10_reaches_49 : decode cX10_reaches 49 = .ok (.invokevirtual 57, 3) := by decide +kernel
theorem dX10_reaches_52 : decode cX10_reaches 52 = .ok (.lmul, 1) := by decide +kernel
theorem dX10_reaches_53 : decode cX10_reaches 53 = .ok (.lstore 11, 2) := by decide +kernel
theorem dX10_reaches_55 : decode cX10_reaches 55 = .ok (.ldc2_w 51, 3) := by decide +kernel
theorem dX10_reaches_58 : decode cX10_reaches 58 = .ok (.aload_n 0, 1) := by decide +kernel
theorem dX10_reaches_59 : decode cX10_reaches 59 = .ok (.iconst 1, 1) := by decide +kernel
theorem dX10_reaches_60 : decode cX10_reaches 60 = .ok (.invokevirtual 57, 3) := by decide +kernel
theorem dX10_reaches_63 : decode cX10_reaches 63 = .ok (.lmul, 1) := by decide +kernel
theorem dX10_reaches_64 : decode cX10_reaches 64 = .ok (.lstore 13, 2) := by decide +kernel
theorem dX10_reaches_66 : decode cX10_reaches 66 = .ok (.lload 9, 2) := by decide +kernel
theorem dX10_reaches_68 : decode cX10_reaches 68 = .ok (.lconst 0, 1) := by decide +kernel
theorem dX10_reaches_69 : decode cX10_reaches 69 = .ok (.lcmp, 1) := by decide +kernel
theorem dX10_reaches_70 : decode cX10_reaches 70 = .ok (.ifCond .le 32, 3) := by decide +kernel
theorem dX10_reaches_73 : decode cX10_reaches 73 = .ok (.lload 9, 2) := by decide +kernel
theorem dX10_reaches_75 : decode cX10_reaches 75 = .ok (.lload 11, 2) := by decide +kernel
theorem dX10_reaches_77 : decode cX10_reaches 77 = .ok (.lload 13, 2) := by decide +kernel
theorem dX10_reaches_79 : decode cX10_reaches 79 = .ok (.ladd, 1) := by decide +kernel
theorem dX10_reaches_80 : decode cX10_reaches 80 = .ok (.lcmp, 1) := by decide +kernel
theorem dX10_reaches_81 : decode cX10_reaches 81 = .ok (.ifCond .gt 21, 3) := by decide +kernel
theorem dX10_reaches_84 : decode cX10_reaches 84 = .ok (.lload 9, 2) := by decide +kernel
theorem dX10_reaches_86 : decode cX10_reaches 86 = .ok (.lload 11, 2) := by decide +kernel
theorem dX10_reaches_88 : decode cX10_reaches 88 = .ok (.lload 13, 2) := by decide +kernel
theorem dX10_reaches_90 : decode cX10_reaches 90 = .ok (.lsub, 1) := by decide +kernel
theorem dX10_reaches_91 : decode cX10_reaches 91 = .ok (.invokestatic 61, 3) := by decide +kernel
theorem dX10_reaches_94 : decode cX10_reaches 94 = .ok (.lcmp, 1) := by decide +kernel
theorem dX10_reaches_95 : decode cX10_reaches 95 = .ok (.ifCond .lt 7, 3) := by decide +kernel
theorem dX10_reaches_98 : decode cX10_reaches 98 = .ok (.iconst 1, 1) := by decide +kernel
theorem dX10_reaches_99 : decode cX10_reaches 99 = .ok (.goto 4, 3) := by decide +kernel
theorem dX10_reaches_102 : decode cX10_reaches 102 = .ok (.iconst 0, 1) := by decide +kernel
theorem dX10_reaches_103 : decode cX10_reaches 103 = .ok (.ireturn, 1) := by decide +kernel
theorem dX10_layElbow_0 : decode cX10_layElbow 0 = .ok (.lload_n 1, 1) := by decide +kernel
theorem dX10_layElbow_1 : decode cX10_layElbow 1 = .ok (.ldc2_w 51, 3) := by decide +kernel
theorem dX10_layElbow_4 : decode cX10_layElbow 4 = .ok (.aload_n 0, 1) := by decide +kernel
theorem dX10_layElbow_5 : decode cX10_layElbow 5 = .ok (.getfield 7, 3) := by decide +kernel
theorem dX10_layElbow_8 : decode cX10_layElbow 8 = .ok (.iconst 0, 1) := by decide +kernel
theorem dX10_layElbow_9 : decode cX10_layElbow 9 = .ok (.laload, 1) := by decide +kernel
theorem dX10_layElbow_10 : decode cX10_layElbow 10 = .ok (.lmul, 1) := by decide +kernel
theorem dX10_layElbow_11 : decode cX10_layElbow 11 = .ok (.lsub, 1) := by decide +kernel
theorem dX10_layElbow_12 : decode cX10_layElbow 12 = .ok (.lstore 5, 2) := by decide +kernel
theorem dX10_layElbow_14 : decode cX10_layElbow 14 = .ok (.lload_n 3, 1) := by decide +kernel
theorem dX10_layElbow_15 : decode cX10_layElbow 15 = .ok (.ldc2_w 51, 3) := by decide +kernel
theorem dX10_layElbow_18 : decode cX10_layElbow 18 = .ok (.aload_n 0, 1) := by decide +kernel
theorem dX10_layElbow_19 : decode cX10_layElbow 19 = .ok (.getfield 7, 3) := by decide +kernel
theorem dX10_layElbow_22 : decode cX10_layElbow 22 = .ok (.iconst 1, 1) := by decide +kernel
theorem dX10_layElbow_23 : decode cX10_layElbow 23 = .ok (.laload, 1) := by decide +kernel
theorem dX10_layElbow_24 : decode cX10_layElbow 24 = .ok (.lmul, 1) := by decide +kernel
theorem dX10_layElbow_25 : decode cX10_layElbow 25 = .ok (.lsub, 1) := by decide +kernel
theorem dX10_layElbow_26 : decode cX10_layElbow 26 = .ok (.lstore 7, 2) := by decide +kernel
theorem dX10_layElbow_28 : decode cX10_layElbow 28 = .ok (.lload 5, 2) := by decide +kernel
theorem dX10_layElbow_30 : decode cX10_layElbow 30 = .ok (.lload 5, 2) := by decide +kernel
theorem dX10_layElbow_32 : decode cX10_layElbow 32 = .ok (.lmul, 1) := by decide +kernel
theorem dX10_layElbow_33 : decode cX10_layElbow 33 = .ok (.lload 7, 2) := by decide +kernel
theorem dX10_layElbow_35 : decode cX10_layElbow 35 = .ok (.lload 7, 2) := by decide +kernel
theorem dX10_layElbow_37 : decode cX10_layElbow 37 = .ok (.lmul, 1) := by decide +kernel
theorem dX10_layElbow_38 : decode cX10_layElbow 38 = .ok (.ladd, 1) := by decide +kernel
theorem dX10_layElbow_39 : decode cX10_layElbow 39 = .ok (.lstore 9, 2) := by decide +kernel
theorem dX10_layElbow_41 : decode cX10_layElbow 41 = .ok (.lload 9, 2) := by decide +kernel
theorem dX10_layElbow_43 : decode cX10_layElbow 43 = .ok (.invokestatic 53, 3) := by decide +kernel
theorem dX10_layElbow_46 : decode cX10_layElbow 46 = .ok (.lstore 11, 2) := by decide +kernel
theorem dX10_layElbow_48 : decode cX10_layElbow 48 = .ok (.ldc2_w 51, 3) := by decide +kernel
theorem dX10_layElbow_51 : decode cX10_layElbow 51 = .ok (.aload_n 0, 1) := by decide +kernel
theorem dX10_layElbow_52 : decode cX10_layElbow 52 = .ok (.iconst 0, 1) := by decide +kernel
theorem dX10_layElbow_53 : decode cX10_layElbow 53 = .ok (.invokevirtual 57, 3) := by decide +kernel
theorem dX10_layElbow_56 : decode cX10_layElbow 56 = .ok (.lmul, 1) := by decide +kernel
theorem dX10_layElbow_57 : decode cX10_layElbow 57 = .ok (.lstore 13, 2) := by decide +kernel
theorem dX10_layElbow_59 : decode cX10_layElbow 59 = .ok (.ldc2_w 51, 3) := by decide +kernel
theorem dX10_layElbow_62 : decode cX10_layElbow 62 = .ok (.aload_n 0, 1) := by decide +kernel
theorem dX10_layElbow_63 : decode cX10_layElbow 63 = .ok (.iconst 1, 1) := by decide +kernel
theorem dX10_layElbow_64 : decode cX10_layElbow 64 = .ok (.invokevirtual 57, 3) := by decide +kernel
theorem dX10_layElbow_67 : decode cX10_layElbow 67 = .ok (.lmul, 1) := by decide +kernel
theorem dX10_layElbow_68 : decode cX10_layElbow 68 = .ok (.lstore 15, 2) := by decide +kernel
theorem dX10_layElbow_70 : decode cX10_layElbow 70 = .ok (.lload 9, 2) := by decide +kernel
theorem dX10_layElbow_72 : decode cX10_layElbow 72 = .ok (.lload 13, 2) := by decide +kernel
theorem dX10_layElbow_74 : decode cX10_layElbow 74 = .ok (.lload 13, 2) := by decide +kernel
theorem dX10_layElbow_76 : decode cX10_layElbow 76 = .ok (.lmul, 1) := by decide +kernel
theorem dX10_layElbow_77 : decode cX10_layElbow 77 = .ok (.ladd, 1) := by decide +kernel
theorem dX10_layElbow_78 : decode cX10_layElbow 78 = .ok (.lload 15, 2) := by decide +kernel
theorem dX10_layElbow_80 : decode cX10_layElbow 80 = .ok (.lload 15, 2) := by decide +kernel
theorem dX10_layElbow_82 : decode cX10_layElbow 82 = .ok (.lmul, 1) := by decide +kernel
theorem dX10_layElbow_83 : decode cX10_layElbow 83 = .ok (.lsub, 1) := by decide +kernel
theorem dX10_layElbow_84 : decode cX10_layElbow 84 = .ok (.ldc2_w 49, 3) := by decide +kernel
theorem dX10_layElbow_87 : decode cX10_layElbow 87 = .ok (.lload 11, 2) := by decide +kernel
theorem dX10_layElbow_89 : decode cX10_layElbow 89 = .ok (.lmul, 1) := by decide +kernel
theorem dX10_layElbow_90 : decode cX10_layElbow 90 = .ok (.ldiv, 1) := by decide +kernel
theorem dX10_layElbow_91 : decode cX10_layElbow 91 = .ok (.lstore 17, 2) := by decide +kernel
theorem dX10_layElbow_93 : decode cX10_layElbow 93 = .ok (.lload 13, 2) := by decide +kernel
theorem dX10_layElbow_95 : decode cX10_layElbow 95 = .ok (.lload 13, 2) := by decide +kernel
theorem dX10_layElbow_97 : decode cX10_layElbow 97 = .ok (.lmul, 1) := by decide +kernel
theorem dX10_layElbow_98 : decode cX10_layElbow 98 = .ok (.lload 17, 2) := by decide +kernel
theorem dX10_layElbow_100 : decode cX10_layElbow 100 = .ok (.lload 17, 2) := by decide +kernel
theorem dX10_layElbow_102 : decode cX10_layElbow 102 = .ok (.lmul, 1) := by decide +kernel
theorem dX10_layElbow_103 : decode cX10_layElbow 103 = .ok (.lsub, 1) := by decide +kernel
theorem dX10_layElbow_104 : decode cX10_layElbow 104 = .ok (.lstore 19, 2) := by decide +kernel
theorem dX10_layElbow_106 : decode cX10_layElbow 106 = .ok (.lload 19, 2) := by decide +kernel
theorem dX10_layElbow_108 : decode cX10_layElbow 108 = .ok (.lconst 0, 1) := by decide +kernel
theorem dX10_layElbow_109 : decode cX10_layElbow 109 = .ok (.lcmp, 1) := by decide +kernel
theorem dX10_layElbow_110 : decode cX10_layElbow 110 = .ok (.ifCond .ge 7, 3) := by decide +kernel
theorem dX10_layElbow_113 : decode cX10_layElbow 113 = .ok (.lconst 0, 1) := by decide +kernel
theorem dX10_layElbow_114 : decode cX10_layElbow 114 = .ok (.goto 8, 3) := by decide +kernel
theorem dX10_layElbow_117 : decode cX10_layElbow 117 = .ok (.lload 19, 2) := by decide +kernel
theorem dX10_layElbow_119 : decode cX10_layElbow 119 = .ok (.invokestatic 53, 3) := by decide +kernel
theorem dX10_layElbow_122 : decode cX10_layElbow 122 = .ok (.lstore 21, 2) := by decide +kernel
theorem dX10_layElbow_124 : decode cX10_layElbow 124 = .ok (.aload_n 0, 1) := by decide +kernel
theorem dX10_layElbow_125 : decode cX10_layElbow 125 = .ok (.iconst 3, 1) := by decide +kernel
theorem dX10_layElbow_126 : decode cX10_layElbow 126 = .ok (.invokevirtual 57, 3) := by decide +kernel
theorem dX10_layElbow_129 : decode cX10_layElbow 129 = .ok (.lconst 1, 1) := by decide +kernel
theorem dX10_layElbow_130 : decode cX10_layElbow 130 = .ok (.lcmp, 1) := by decide +kernel
theorem dX10_layElbow_131 : decode cX10_layElbow 131 = .ok (.ifCond .ne 9, 3) := by decide +kernel
theorem dX10_layElbow_134 : decode cX10_layElbow 134 = .ok (.lload 21, 2) := by decide +kernel
theorem dX10_layElbow_136 : decode cX10_layElbow 136 = .ok (.lneg, 1) := by decide +kernel
theorem dX10_layElbow_137 : decode cX10_layElbow 137 = .ok (.goto 5, 3) := by decide +kernel
theorem dX10_layElbow_140 : decode cX10_layElbow 140 = .ok (.lload 21, 2) := by decide +kernel
theorem dX10_layElbow_142 : decode cX10_layElbow 142 = .ok (.lstore 21, 2) := by decide +kernel
theorem dX10_layElbow_144 : decode cX10_layElbow 144 = .ok (.aload_n 0, 1) := by decide +kernel
theorem dX10_layElbow_145 : decode cX10_layElbow 145 = .ok (.ldc2_w 51, 3) := by decide +kernel
theorem dX10_layElbow_148 : decode cX10_layElbow 148 = .ok (.aload_n 0, 1) := by decide +kernel
theorem dX10_layElbow_149 : decode cX10_layElbow 149 = .ok (.getfield 7, 3) := by decide +kernel
theorem dX10_layElbow_152 : decode cX10_layElbow 152 = .ok (.iconst 0, 1) := by decide +kernel
theorem dX10_layElbow_153 : decode cX10_layElbow 153 = .ok (.laload, 1) := by decide +kernel
theorem dX10_layElbow_154 : decode cX10_layElbow 154 = .ok (.lmul, 1) := by decide +kernel
theorem dX10_layElbow_155 : decode cX10_layElbow 155 = .ok (.lload 5, 2) := by decide +kernel
theorem dX10_layElbow_157 : decode cX10_layElbow 157 = .ok (.lload 17, 2) := by decide +kernel
theorem dX10_layElbow_159 : decode cX10_layElbow 159 = .ok (.lmul, 1) := by decide +kernel
theorem dX10_layElbow_160 : decode cX10_layElbow 160 = .ok (.lload 7, 2) := by decide +kernel
theorem dX10_layElbow_162 : decode cX10_layElbow 162 = .ok (.lload 21, 2) := by decide +kernel
theorem dX10_layElbow_164 : decode cX10_layElbow 164 = .ok (.lmul, 1) := by decide +kernel
theorem dX10_layElbow_165 : decode cX10_layElbow 165 = .ok (.lsub, 1) := by decide +kernel
theorem dX10_layElbow_166 : decode cX10_layElbow 166 = .ok (.lload 11, 2) := by decide +kernel
theorem dX10_layElbow_168 : decode cX10_layElbow 168 = .ok (.ldiv, 1) := by decide +kernel
theorem dX10_layElbow_169 : decode cX10_layElbow 169 = .ok (.ladd, 1) := by decide +kernel
theorem dX10_layElbow_170 : decode cX10_layElbow 170 = .ok (.putfield 64, 3) := by decide +kernel
theorem dX10_layElbow_173 : decode cX10_layElbow 173 = .ok (.aload_n 0, 1) := by decide +kernel
theorem dX10_layElbow_174 : decode cX10_layElbow 174 = .ok (.ldc2_w 51, 3) := by decide +kernel
theorem dX10_layElbow_177 : decode cX10_layElbow 177 = .ok (.aload_n 0, 1) := by decide +kernel
theorem dX10_layElbow_178 : decode cX10_layElbow 178 = .ok (.getfield 7, 3) := by decide +kernel
theorem dX10_layElbow_181 : decode cX10_layElbow 181 = .ok (.iconst 1, 1) := by decide +kernel
theorem dX10_layElbow_182 : decode cX10_layElbow 182 = .ok (.laload, 1) := by decide +kernel
theorem dX10_layElbow_183 : decode cX10_layElbow 183 = .ok (.lmul, 1) := by decide +kernel
theorem dX10_layElbow_184 : decode cX10_layElbow 184 = .ok (.lload 7, 2) := by decide +kernel
theorem dX10_layElbow_186 : decode cX10_layElbow 186 = .ok (.lload 17, 2) := by decide +kernel
theorem dX10_layElbow_188 : decode cX10_layElbow 188 = .ok (.lmul, 1) := by decide +kernel
theorem dX10_layElbow_189 : decode cX10_layElbow 189 = .ok (.lload 5, 2) := by decide +kernel
theorem dX10_layElbow_191 : decode cX10_layElbow 191 = .ok (.lload 21, 2) := by decide +kernel
theorem dX10_layElbow_193 : decode cX10_layElbow 193 = .ok (.lmul, 1) := by decide +kernel
theorem dX10_layElbow_194 : decode cX10_layElbow 194 = .ok (.ladd, 1) := by decide +kernel
theorem dX10_layElbow_195 : decode cX10_layElbow 195 = .ok (.lload 11, 2) := by decide +kernel
theorem dX10_layElbow_197 : decode cX10_layElbow 197 = .ok (.ldiv, 1) := by decide +kernel
theorem dX10_layElbow_198 : decode cX10_layElbow 198 = .ok (.ladd, 1) := by decide +kernel
theorem dX10_layElbow_199 : decode cX10_layElbow 199 = .ok (.putfield 68, 3) := by decide +kernel
theorem dX10_layElbow_202 : decode cX10_layElbow 202 = .ok (.return_, 1) := by decide +kernel
theorem dX10_steps_0 : decode cX10_steps 0 = .ok (.aload_n 0, 1) := by decide +kernel
theorem dX10_steps_1 : decode cX10_steps 1 = .ok (.iload_n 1, 1) := by decide +kernel
theorem dX10_steps_2 : decode cX10_steps 2 = .ok (.iconst 1, 1) := by decide +kernel
theorem dX10_steps_3 : decode cX10_steps 3 = .ok (.iadd, 1) := by decide +kernel
theorem dX10_steps_4 : decode cX10_steps 4 = .ok (.invokevirtual 71, 3) := by decide +kernel
theorem dX10_steps_7 : decode cX10_steps 7 = .ok (.aload_n 0, 1) := by decide +kernel
theorem dX10_steps_8 : decode cX10_steps 8 = .ok (.iload_n 1, 1) := by decide +kernel
theorem dX10_steps_9 : decode cX10_steps 9 = .ok (.invokevirtual 71, 3) := by decide +kernel
theorem dX10_steps_12 : decode cX10_steps 12 = .ok (.lsub, 1) := by decide +kernel
theorem dX10_steps_13 : decode cX10_steps 13 = .ok (.invokestatic 61, 3) := by decide +kernel
theorem dX10_steps_16 : decode cX10_steps 16 = .ok (.lstore_n 2, 1) := by decide +kernel
theorem dX10_steps_17 : decode cX10_steps 17 = .ok (.aload_n 0, 1) := by decide +kernel
theorem dX10_steps_18 : decode cX10_steps 18 = .ok (.iload_n 1, 1) := by decide +kernel
theorem dX10_steps_19 : decode cX10_steps 19 = .ok (.iconst 1, 1) := by decide +kernel
theorem dX10_steps_20 : decode cX10_steps 20 = .ok (.iadd, 1) := by decide +kernel
theorem dX10_steps_21 : decode cX10_steps 21 = .ok (.invokevirtual 74, 3) := by decide +kernel
theorem dX10_steps_24 : decode cX10_steps 24 = .ok (.aload_n 0, 1) := by decide +kernel
theorem dX10_steps_25 : decode cX10_steps 25 = .ok (.iload_n 1, 1) := by decide +kernel
theorem dX10_steps_26 : decode cX10_steps 26 = .ok (.invokevirtual 74, 3) := by decide +kernel
theorem dX10_steps_29 : decode cX10_steps 29 = .ok (.lsub, 1) := by decide +kernel
theorem dX10_steps_30 : decode cX10_steps 30 = .ok (.invokestatic 61, 3) := by decide +kernel
theorem dX10_steps_33 : decode cX10_steps 33 = .ok (.lstore 4, 2) := by decide +kernel
theorem dX10_steps_35 : decode cX10_steps 35 = .ok (.lload 4, 2) := by decide +kernel
theorem dX10_steps_37 : decode cX10_steps 37 = .ok (.lload_n 2, 1) := by decide +kernel
theorem dX10_steps_38 : decode cX10_steps 38 = .ok (.lcmp, 1) := by decide +kernel
theorem dX10_steps_39 : decode cX10_steps 39 = .ok (.ifCond .le 8, 3) := by decide +kernel
theorem dX10_steps_42 : decode cX10_steps 42 = .ok (.lload 4, 2) := by decide +kernel
theorem dX10_steps_44 : decode cX10_steps 44 = .ok (.goto 4, 3) := by decide +kernel
theorem dX10_steps_47 : decode cX10_steps 47 = .ok (.lload_n 2, 1) := by decide +kernel
theorem dX10_steps_48 : decode cX10_steps 48 = .ok (.lstore_n 2, 1) := by decide +kernel
theorem dX10_steps_49 : decode cX10_steps 49 = .ok (.lload_n 2, 1) := by decide +kernel
theorem dX10_steps_50 : decode cX10_steps 50 = .ok (.aload_n 0, 1) := by decide +kernel
theorem dX10_steps_51 : decode cX10_steps 51 = .ok (.iconst 2, 1) := by decide +kernel
theorem dX10_steps_52 : decode cX10_steps 52 = .ok (.invokevirtual 57, 3) := by decide +kernel
theorem dX10_steps_55 : decode cX10_steps 55 = .ok (.ladd, 1) := by decide +kernel
theorem dX10_steps_56 : decode cX10_steps 56 = .ok (.lconst 1, 1) := by decide +kernel
theorem dX10_steps_57 : decode cX10_steps 57 = .ok (.lsub, 1) := by decide +kernel
theorem dX10_steps_58 : decode cX10_steps 58 = .ok (.aload_n 0, 1) := by decide +kernel
theorem dX10_steps_59 : decode cX10_steps 59 = .ok (.iconst 2, 1) := by decide +kernel
theorem dX10_steps_60 : decode cX10_steps 60 = .ok (.invokevirtual 57, 3) := by decide +kernel
theorem dX10_steps_63 : decode cX10_steps 63 = .ok (.ldiv, 1) := by decide +kernel
theorem dX10_steps_64 : decode cX10_steps 64 = .ok (.lstore 6, 2) := by decide +kernel
theorem dX10_steps_66 : decode cX10_steps 66 = .ok (.lload 6, 2) := by decide +kernel
theorem dX10_steps_68 : decode cX10_steps 68 = .ok (.lconst 1, 1) := by decide +kernel
theorem dX10_steps_69 : decode cX10_steps 69 = .ok (.lcmp, 1) := by decide +kernel
theorem dX10_steps_70 : decode cX10_steps 70 = .ok (.ifCond .ge 7, 3) := by decide +kernel
theorem dX10_steps_73 : decode cX10_steps 73 = .ok (.iconst 1, 1) := by decide +kernel
theorem dX10_steps_74 : decode cX10_steps 74 = .ok (.goto 6, 3) := by decide +kernel
theorem dX10_steps_77 : decode cX10_steps 77 = .ok (.lload 6, 2) := by decide +kernel
theorem dX10_steps_79 : decode cX10_steps 79 = .ok (.l2i, 1) := by decide +kernel
theorem dX10_steps_80 : decode cX10_steps 80 = .ok (.ireturn, 1) := by decide +kernel
theorem dX10_pointX_0 : decode cX10_pointX 0 = .ok (.ldc2_w 51, 3) := by decide +kernel
theorem dX10_pointX_3 : decode cX10_pointX 3 = .ok (.aload_n 0, 1) := by decide +kernel
theorem dX10_pointX_4 : decode cX10_pointX 4 = .ok (.iload_n 1, 1) := by decide +kernel
theorem dX10_pointX_5 : decode cX10_pointX 5 = .ok (.invokevirtual 71, 3) := by decide +kernel
theorem dX10_pointX_8 : decode cX10_pointX 8 = .ok (.lmul, 1) := by decide +kernel
theorem dX10_pointX_9 : decode cX10_pointX 9 = .ok (.ldc2_w 51, 3) := by decide +kernel
theorem dX10_pointX_12 : decode cX10_pointX 12 = .ok (.aload_n 0, 1) := by decide +kernel
theorem dX10_pointX_13 : decode cX10_pointX 13 = .ok (.iload_n 1, 1) := by decide +kernel
theorem dX10_pointX_14 : decode cX10_pointX 14 = .ok (.iconst 1, 1) := by decide +kernel
theorem dX10_pointX_15 : decode cX10_pointX 15 = .ok (.iadd, 1) := by decide +kernel
theorem dX10_pointX_16 : decode cX10_pointX 16 = .ok (.invokevirtual 71, 3) := by decide +kernel
theorem dX10_pointX_19 : decode cX10_pointX 19 = .ok (.aload_n 0, 1) := by decide +kernel
theorem dX10_pointX_20 : decode cX10_pointX 20 = .ok (.iload_n 1, 1) := by decide +kernel
theorem dX10_pointX_21 : decode cX10_pointX 21 = .ok (.invokevirtual 71, 3) := by decide +kernel
theorem dX10_pointX_24 : decode cX10_pointX 24 = .ok (.lsub, 1) := by decide +kernel
theorem dX10_pointX_25 : decode cX10_pointX 25 = .ok (.lmul, 1) := by decide +kernel
theorem dX10_pointX_26 : decode cX10_pointX 26 = .ok (.iload_n 2, 1) := by decide +kernel
theorem dX10_pointX_27 : decode cX10_pointX 27 = .ok (.i2l, 1) := by decide +kernel
theorem dX10_pointX_28 : decode cX10_pointX 28 = .ok (.lmul, 1) := by decide +kernel
theorem dX10_pointX_29 : decode cX10_pointX 29 = .ok (.aload_n 0, 1) := by decide +kernel
theorem dX10_pointX_30 : decode cX10_pointX 30 = .ok (.iload_n 1, 1) := by decide +kernel
theorem dX10_pointX_31 : decode cX10_pointX 31 = .ok (.invokevirtual 77, 3) := by decide +kernel
theorem dX10_pointX_34 : decode cX10_pointX 34 = .ok (.i2l, 1) := by decide +kernel
theorem dX10_pointX_35 : decode cX10_pointX 35 = .ok (.ldiv, 1) := by decide +kernel
theorem dX10_pointX_36 : decode cX10_pointX 36 = .ok (.ladd, 1) := by decide +kernel
theorem dX10_pointX_37 : decode cX10_pointX 37 = .ok (.lreturn, 1) := by decide +kernel
theorem dX10_pointY_0 : decode cX10_pointY 0 = .ok (.ldc2_w 51, 3) := by decide +kernel
theorem dX10_pointY_3 : decode cX10_pointY 3 = .ok (.aload_n 0, 1) := by decide +kernel
theorem dX10_pointY_4 : decode cX10_pointY 4 = .ok (.iload_n 1, 1) := by decide +kernel
theorem dX10_pointY_5 : decode cX10_pointY 5 = .ok (.invokevirtual 74, 3) := by decide +kernel
theorem dX10_pointY_8 : decode cX10_pointY 8 = .ok (.lmul, 1) := by decide +kernel
theorem dX10_pointY_9 : decode cX10_pointY 9 = .ok (.ldc2_w 51, 3) := by decide +kernel
theorem dX10_pointY_12 : decode cX10_pointY 12 = .ok (.aload_n 0, 1) := by decide +kernel
theorem dX10_pointY_13 : decode cX10_pointY 13 = .ok (.iload_n 1, 1) := by decide +kernel
theorem dX10_pointY_14 : decode cX10_pointY 14 = .ok (.iconst 1, 1) := by decide +kernel
theorem dX10_pointY_15 : decode cX10_pointY 15 = .ok (.iadd, 1) := by decide +kernel
theorem dX10_pointY_16 : decode cX10_pointY 16 = .ok (.invokevirtual 74, 3) := by decide +kernel
theorem dX10_pointY_19 : decode cX10_pointY 19 = .ok (.aload_n 0, 1) := by decide +kernel
theorem dX10_pointY_20 : decode cX10_pointY 20 = .ok (.iload_n 1, 1) := by decide +kernel
theorem dX10_pointY_21 : decode cX10_pointY 21 = .ok (.invokevirtual 74, 3) := by decide +kernel
theorem dX10_pointY_24 : decode cX10_pointY 24 = .ok (.lsub, 1) := by decide +kernel
theorem dX10_pointY_25 : decode cX10_pointY 25 = .ok (.lmul, 1) := by decide +kernel
theorem dX10_pointY_26 : decode cX10_pointY 26 = .ok (.iload_n 2, 1) := by decide +kernel
theorem dX10_pointY_27 : decode cX10_pointY 27 = .ok (.i2l, 1) := by decide +kernel
theorem dX10_pointY_28 : decode cX10_pointY 28 = .ok (.lmul, 1) := by decide +kernel
theorem dX10_pointY_29 : decode cX10_pointY 29 = .ok (.aload_n 0, 1) := by decide +kernel
theorem dX10_pointY_30 : decode cX10_pointY 30 = .ok (.iload_n 1, 1) := by decide +kernel
theorem dX10_pointY_31 : decode cX10_pointY 31 = .ok (.invokevirtual 77, 3) := by decide +kernel
theorem dX10_pointY_34 : decode cX10_pointY 34 = .ok (.i2l, 1) := by decide +kernel
theorem dX10_pointY_35 : decode cX10_pointY 35 = .ok (.ldiv, 1) := by decide +kernel
theorem dX10_pointY_36 : decode cX10_pointY 36 = .ok (.ladd, 1) := by decide +kernel
theorem dX10_pointY_37 : decode cX10_pointY 37 = .ok (.lreturn, 1) := by decide +kernel
theorem dX10_isReached_0 : decode cX10_isReached 0 = .ok (.iconst 1, 1) := by decide +kernel
theorem dX10_isReached_1 : decode cX10_isReached 1 = .ok (.istore_n 2, 1) := by decide +kernel
theorem dX10_isReached_2 : decode cX10_isReached 2 = .ok (.iconst 0, 1) := by decide +kernel
theorem dX10_isReached_3 : decode cX10_isReached 3 = .ok (.istore_n 3, 1) := by decide +kernel
theorem dX10_isReached_4 : decode cX10_isReached 4 = .ok (.iload_n 3, 1) := by decide +kernel
theorem dX10_isReached_5 : decode cX10_isReached 5 = .ok (.aload_n 0, 1) := by decide +kernel
theorem dX10_isReached_6 : decode cX10_isReached 6 = .ok (.iload_n 1, 1) := by decide +kernel
theorem dX10_isReached_7 : decode cX10_isReached 7 = .ok (.invokevirtual 77, 3) := by decide +kernel
theorem dX10_isReached_10 : decode cX10_isReached 10 = .ok (.if_icmp .gt 30, 3) := by decide +kernel
theorem dX10_isReached_13 : decode cX10_isReached 13 = .ok (.iload_n 2, 1) := by decide +kernel
theorem dX10_isReached_14 : decode cX10_isReached 14 = .ok (.ifCond .eq 26, 3) := by decide +kernel
theorem dX10_isReached_17 : decode cX10_isReached 17 = .ok (.aload_n 0, 1) := by decide +kernel
theorem dX10_isReached_18 : decode cX10_isReached 18 = .ok (.aload_n 0, 1) := by decide +kernel
theorem dX10_isReached_19 : decode cX10_isReached 19 = .ok (.iload_n 1, 1) := by decide +kernel
theorem dX10_isReached_20 : decode cX10_isReached 20 = .ok (.iload_n 3, 1) := by decide +kernel
theorem dX10_isReached_21 : decode cX10_isReached 21 = .ok (.invokevirtual 81, 3) := by decide +kernel
theorem dX10_isReached_24 : decode cX10_isReached 24 = .ok (.aload_n 0, 1) := by decide +kernel
theorem dX10_isReached_25 : decode cX10_isReached 25 = .ok (.iload_n 1, 1) := by decide +kernel
theorem dX10_isReached_26 : decode cX10_isReached 26 = .ok (.iload_n 3, 1) := by decide +kernel
theorem dX10_isReached_27 : decode cX10_isReached 27 = .ok (.invokevirtual 85, 3) := by decide +kernel
theorem dX10_isReached_30 : decode cX10_isReached 30 = .ok (.invokevirtual 88, 3) := by decide +kernel
theorem dX10_isReached_33 : decode cX10_isReached 33 = .ok (.istore_n 2, 1) := by decide +kernel
theorem dX10_isReached_34 : decode cX10_isReached 34 = .ok (.iinc 3 1, 3) := by decide +kernel
theorem dX10_isReached_37 : decode cX10_isReached 37 = .ok (.goto (-33), 3) := by decide +kernel
theorem dX10_isReached_40 : decode cX10_isReached 40 = .ok (.iload_n 2, 1) := by decide +kernel
theorem dX10_isReached_41 : decode cX10_isReached 41 = .ok (.ireturn, 1) := by decide +kernel
theorem dX10_allReached_0 : decode cX10_allReached 0 = .ok (.iconst 1, 1) := by decide +kernel
theorem dX10_allReached_1 : decode cX10_allReached 1 = .ok (.istore_n 1, 1) := by decide +kernel
theorem dX10_allReached_2 : decode cX10_allReached 2 = .ok (.iconst 0, 1) := by decide +kernel
theorem dX10_allReached_3 : decode cX10_allReached 3 = .ok (.istore_n 2, 1) := by decide +kernel
theorem dX10_allReached_4 : decode cX10_allReached 4 = .ok (.iload_n 2, 1) := by decide +kernel
theorem dX10_allReached_5 : decode cX10_allReached 5 = .ok (.aload_n 0, 1) := by decide +kernel
theorem dX10_allReached_6 : decode cX10_allReached 6 = .ok (.invokevirtual 39, 3) := by decide +kernel
theorem dX10_allReached_9 : decode cX10_allReached 9 = .ok (.if_icmp .ge 19, 3) := by decide +kernel
theorem dX10_allReached_12 : decode cX10_allReached 12 = .ok (.iload_n 1, 1) := by decide +kernel
theorem dX10_allReached_13 : decode cX10_allReached 13 = .ok (.ifCond .eq 15, 3) := by decide +kernel
theorem dX10_allReached_16 : decode cX10_allReached 16 = .ok (.aload_n 0, 1) := by decide +kernel
theorem dX10_allReached_17 : decode cX10_allReached 17 = .ok (.iload_n 2, 1) := by decide +kernel
theorem dX10_allReached_18 : decode cX10_allReached 18 = .ok (.invokevirtual 92, 3) := by decide +kernel
theorem dX10_allReached_21 : decode cX10_allReached 21 = .ok (.istore_n 1, 1) := by decide +kernel
theorem dX10_allReached_22 : decode cX10_allReached 22 = .ok (.iinc 2 1, 3) := by decide +kernel
theorem dX10_allReached_25 : decode cX10_allReached 25 = .ok (.goto (-21), 3) := by decide +kernel
theorem dX10_allReached_28 : decode cX10_allReached 28 = .ok (.iload_n 1, 1) := by decide +kernel
theorem dX10_allReached_29 : decode cX10_allReached 29 = .ok (.ireturn, 1) := by decide +kernel
theorem dX10_turn_0 : decode cX10_turn 0 = .ok (.lload 4, 2) := by decide +kernel
theorem dX10_turn_2 : decode cX10_turn 2 = .ok (.lload_n 0, 1) := by decide +kernel
theorem dX10_turn_3 : decode cX10_turn 3 = .ok (.lsub, 1) := by decide +kernel
theorem dX10_turn_4 : decode cX10_turn 4 = .ok (.lload 10, 2) := by decide +kernel
theorem dX10_turn_6 : decode cX10_turn 6 = .ok (.lload_n 2, 1) := by decide +kernel
theorem dX10_turn_7 : decode cX10_turn 7 = .ok (.lsub, 1) := by decide +kernel
theorem dX10_turn_8 : decode cX10_turn 8 = .ok (.lmul, 1) := by decide +kernel
theorem dX10_turn_9 : decode cX10_turn 9 = .ok (.lload 6, 2) := by decide +kernel
theorem dX10_turn_11 : decode cX10_turn 11 = .ok (.lload_n 2, 1) := by decide +kernel
theorem dX10_turn_12 : decode cX10_turn 12 = .ok (.lsub, 1) := by decide +kernel
theorem dX10_turn_13 : decode cX10_turn 13 = .ok (.lload 8, 2) := by decide +kernel
theorem dX10_turn_15 : decode cX10_turn 15 = .ok (.lload_n 0, 1) := by decide +kernel
theorem dX10_turn_16 : decode cX10_turn 16 = .ok (.lsub, 1) := by decide +kernel
theorem dX10_turn_17 : decode cX10_turn 17 = .ok (.lmul, 1) := by decide +kernel
theorem dX10_turn_18 : decode cX10_turn 18 = .ok (.lsub, 1) := by decide +kernel
theorem dX10_turn_19 : decode cX10_turn 19 = .ok (.lreturn, 1) := by decide +kernel
theorem dX10_swept_0 : decode cX10_swept 0 = .ok (.aload_n 0, 1) := by decide +kernel
theorem dX10_swept_1 : decode cX10_swept 1 = .ok (.lload_n 1, 1) := by decide +kernel
theorem dX10_swept_2 : decode cX10_swept 2 = .ok (.lload_n 3, 1) := by decide +kernel
theorem dX10_swept_3 : decode cX10_swept 3 = .ok (.invokevirtual 96, 3) := by decide +kernel
theorem dX10_swept_6 : decode cX10_swept 6 = .ok (.aload_n 0, 1) := by decide +kernel
theorem dX10_swept_7 : decode cX10_swept 7 = .ok (.getfield 64, 3) := by decide +kernel
theorem dX10_swept_10 : decode cX10_swept 10 = .ok (.lstore 9, 2) := by decide +kernel
theorem dX10_swept_12 : decode cX10_swept 12 = .ok (.aload_n 0, 1) := by decide +kernel
theorem dX10_swept_13 : decode cX10_swept 13 = .ok (.getfield 68, 3) := by decide +kernel
theorem dX10_swept_16 : decode cX10_swept 16 = .ok (.lstore 11, 2) := by decide +kernel
theorem dX10_swept_18 : decode cX10_swept 18 = .ok (.aload_n 0, 1) := by decide +kernel
theorem dX10_swept_19 : decode cX10_swept 19 = .ok (.lload 5, 2) := by decide +kernel
theorem dX10_swept_21 : decode cX10_swept 21 = .ok (.lload 7, 2) := by decide +kernel
theorem dX10_swept_23 : decode cX10_swept 23 = .ok (.invokevirtual 96, 3) := by decide +kernel
theorem dX10_swept_26 : decode cX10_swept 26 = .ok (.lload 9, 2) := by decide +kernel
theorem dX10_swept_28 : decode cX10_swept 28 = .ok (.lload 11, 2) := by decide +kernel
theorem dX10_swept_30 : decode cX10_swept 30 = .ok (.lload_n 1, 1) := by decide +kernel
theorem dX10_swept_31 : decode cX10_swept 31 = .ok (.lload_n 3, 1) := by decide +kernel
theorem dX10_swept_32 : decode cX10_swept 32 = .ok (.lload 5, 2) := by decide +kernel
theorem dX10_swept_34 : decode cX10_swept 34 = .ok (.lload 7, 2) := by decide +kernel
theorem dX10_swept_36 : decode cX10_swept 36 = .ok (.invokestatic 100, 3) := by decide +kernel
theorem dX10_swept_39 : decode cX10_swept 39 = .ok (.lload 9, 2) := by decide +kernel
theorem dX10_swept_41 : decode cX10_swept 41 = .ok (.lload 11, 2) := by decide +kernel
theorem dX10_swept_43 : decode cX10_swept 43 = .ok (.lload 5, 2) := by decide +kernel
theorem dX10_swept_45 : decode cX10_swept 45 = .ok (.lload 7, 2) := by decide +kernel
theorem dX10_swept_47 : decode cX10_swept 47 = .ok (.aload_n 0, 1) := by decide +kernel
theorem dX10_swept_48 : decode cX10_swept 48 = .ok (.getfield 64, 3) := by decide +kernel
theorem dX10_swept_51 : decode cX10_swept 51 = .ok (.aload_n 0, 1) := by decide +kernel
theorem dX10_swept_52 : decode cX10_swept 52 = .ok (.getfield 68, 3) := by decide +kernel
theorem dX10_swept_55 : decode cX10_swept 55 = .ok (.invokestatic 100, 3) := by decide +kernel
theorem dX10_swept_58 : decode cX10_swept 58 = .ok (.ladd, 1) := by decide +kernel
theorem dX10_swept_59 : decode cX10_swept 59 = .ok (.lreturn, 1) := by decide +kernel
theorem dX10_sweptIn_0 : decode cX10_sweptIn 0 = .ok (.aload_n 0, 1) := by decide +kernel
theorem dX10_sweptIn_1 : decode cX10_sweptIn 1 = .ok (.aload_n 0, 1) := by decide +kernel
theorem dX10_sweptIn_2 : decode cX10_sweptIn 2 = .ok (.iload_n 1, 1) := by decide +kernel
theorem dX10_sweptIn_3 : decode cX10_sweptIn 3 = .ok (.iload_n 2, 1) := by decide +kernel
theorem dX10_sweptIn_4 : decode cX10_sweptIn 4 = .ok (.invokevirtual 81, 3) := by decide +kernel
theorem dX10_sweptIn_7 : decode cX10_sweptIn 7 = .ok (.aload_n 0, 1) := by decide +kernel
theorem dX10_sweptIn_8 : decode cX10_sweptIn 8 = .ok (.iload_n 1, 1) := by decide +kernel
theorem dX10_sweptIn_9 : decode cX10_sweptIn 9 = .ok (.iload_n 2, 1) := by decide +kernel
theorem dX10_sweptIn_10 : decode cX10_sweptIn 10 = .ok (.invokevirtual 85, 3) := by decide +kernel
theorem dX10_sweptIn_13 : decode cX10_sweptIn 13 = .ok (.aload_n 0, 1) := by decide +kernel
theorem dX10_sweptIn_14 : decode cX10_sweptIn 14 = .ok (.iload_n 1, 1) := by decide +kernel
theorem dX10_sweptIn_15 : decode cX10_sweptIn 15 = .ok (.iload_n 3, 1) := by decide +kernel
theorem dX10_sweptIn_16 : decode cX10_sweptIn 16 = .ok (.invokevirtual 81, 3) := by decide +kernel
theorem dX10_sweptIn_19 : decode cX10_sweptIn 19 = .ok (.aload_n 0, 1) := by decide +kernel
theorem dX10_sweptIn_20 : decode cX10_sweptIn 20 = .ok (.iload_n 1, 1) := by decide +kernel
theorem dX10_sweptIn_21 : decode cX10_sweptIn 21 = .ok (.iload_n 3, 1) := by decide +kernel
theorem dX10_sweptIn_22 : decode cX10_sweptIn 22 = .ok (.invokevirtual 85, 3) := by decide +kernel
theorem dX10_sweptIn_25 : decode cX10_sweptIn 25 = .ok (.invokevirtual 104, 3) := by decide +kernel
theorem dX10_sweptIn_28 : decode cX10_sweptIn 28 = .ok (.lreturn, 1) := by decide +kernel
theorem dX10_roll_0 : decode cX10_roll 0 = .ok (.lconst 0, 1) := by decide +kernel
theorem dX10_roll_1 : decode cX10_roll 1 = .ok (.lstore_n 2, 1) := by decide +kernel
theorem dX10_roll_2 : decode cX10_roll 2 = .ok (.aload_n 0, 1) := by decide +kernel
theorem dX10_roll_3 : decode cX10_roll 3 = .ok (.iload_n 1, 1) := by decide +kernel
theorem dX10_roll_4 : decode cX10_roll 4 = .ok (.invokevirtual 77, 3) := by decide +kernel
theorem dX10_roll_7 : decode cX10_roll 7 = .ok (.istore 4, 2) := by decide +kernel
theorem dX10_roll_9 : decode cX10_roll 9 = .ok (.iconst 0, 1) := by decide +kernel
theorem dX10_roll_10 : decode cX10_roll 10 = .ok (.istore 5, 2) := by decide +kernel
theorem dX10_roll_12 : decode cX10_roll 12 = .ok (.iload 5, 2) := by decide +kernel
theorem dX10_roll_14 : decode cX10_roll 14 = .ok (.iload 4, 2) := by decide +kernel
theorem dX10_roll_16 : decode cX10_roll 16 = .ok (.if_icmp .ge 23, 3) := by decide +kernel
theorem dX10_roll_19 : decode cX10_roll 19 = .ok (.lload_n 2, 1) := by decide +kernel
theorem dX10_roll_20 : decode cX10_roll 20 = .ok (.aload_n 0, 1) := by decide +kernel
theorem dX10_roll_21 : decode cX10_roll 21 = .ok (.iload_n 1, 1) := by decide +kernel
theorem dX10_roll_22 : decode cX10_roll 22 = .ok (.iload 5, 2) := by decide +kernel
theorem dX10_roll_24 : decode cX10_roll 24 = .ok (.iload 5, 2) := by decide +kernel
theorem dX10_roll_26 : decode cX10_roll 26 = .ok (.iconst 1, 1) := by decide +kernel
theorem dX10_roll_27 : decode cX10_roll 27 = .ok (.iadd, 1) := by decide +kernel
theorem dX10_roll_28 : decode cX10_roll 28 = .ok (.invokevirtual 108, 3) := by decide +kernel
theorem dX10_roll_31 : decode cX10_roll 31 = .ok (.ladd, 1) := by decide +kernel
theorem dX10_roll_32 : decode cX10_roll 32 = .ok (.lstore_n 2, 1) := by decide +kernel
theorem dX10_roll_33 : decode cX10_roll 33 = .ok (.iinc 5 1, 3) := by decide +kernel
theorem dX10_roll_36 : decode cX10_roll 36 = .ok (.goto (-24), 3) := by decide +kernel
theorem dX10_roll_39 : decode cX10_roll 39 = .ok (.lload_n 2, 1) := by decide +kernel
theorem dX10_roll_40 : decode cX10_roll 40 = .ok (.lreturn, 1) := by decide +kernel
theorem dX10_rollOn_0 : decode cX10_rollOn 0 = .ok (.ldc2_w 112, 3) := by decide +kernel
theorem dX10_rollOn_3 : decode cX10_rollOn 3 = .ok (.aload_n 0, 1) := by decide +kernel
theorem dX10_rollOn_4 : decode cX10_rollOn 4 = .ok (.iconst 4, 1) := by decide +kernel
theorem dX10_rollOn_5 : decode cX10_rollOn 5 = .ok (.invokevirtual 57, 3) := by decide +kernel
theorem dX10_rollOn_8 : decode cX10_rollOn 8 = .ok (.lmul, 1) := by decide +kernel
theorem dX10_rollOn_9 : decode cX10_rollOn 9 = .ok (.lstore 4, 2) := by decide +kernel
theorem dX10_rollOn_11 : decode cX10_rollOn 11 = .ok (.aload_n 0, 1) := by decide +kernel
theorem dX10_rollOn_12 : decode cX10_rollOn 12 = .ok (.dup, 1) := by decide +kernel
theorem dX10_rollOn_13 : decode cX10_rollOn 13 = .ok (.getfield 114, 3) := by decide +kernel
theorem dX10_rollOn_16 : decode cX10_rollOn 16 = .ok (.lload_n 2, 1) := by decide +kernel
theorem dX10_rollOn_17 : decode cX10_rollOn 17 = .ok (.ldc2_w 117, 3) := by decide +kernel
theorem dX10_rollOn_20 : decode cX10_rollOn 20 = .ok (.aload_n 0, 1) := by decide +kernel
theorem dX10_rollOn_21 : decode cX10_rollOn 21 = .ok (.iload_n 1, 1) := by decide +kernel
theorem dX10_rollOn_22 : decode cX10_rollOn 22 = .ok (.invokevirtual 119, 3) := by decide +kernel
theorem dX10_rollOn_25 : decode cX10_rollOn 25 = .ok (.lsub, 1) := by decide +kernel
theorem dX10_rollOn_26 : decode cX10_rollOn 26 = .ok (.lmul, 1) := by decide +kernel
theorem dX10_rollOn_27 : decode cX10_rollOn 27 = .ok (.ldc2_w 117, 3) := by decide +kernel
theorem dX10_rollOn_30 : decode cX10_rollOn 30 = .ok (.ldiv, 1) := by decide +kernel
theorem dX10_rollOn_31 : decode cX10_rollOn 31 = .ok (.ladd, 1) := by decide +kernel
theorem dX10_rollOn_32 : decode cX10_rollOn 32 = .ok (.putfield 114, 3) := by decide +kernel
theorem dX10_rollOn_35 : decode cX10_rollOn 35 = .ok (.aload_n 0, 1) := by decide +kernel
theorem dX10_rollOn_36 : decode cX10_rollOn 36 = .ok (.getfield 114, 3) := by decide +kernel
theorem dX10_rollOn_39 : decode cX10_rollOn 39 = .ok (.lload 4, 2) := by decide +kernel
theorem dX10_rollOn_41 : decode cX10_rollOn 41 = .ok (.lcmp, 1) := by decide +kernel
theorem dX10_rollOn_42 : decode cX10_rollOn 42 = .ok (.ifCond .le 28, 3) := by decide +kernel
theorem dX10_rollOn_45 : decode cX10_rollOn 45 = .ok (.aload_n 0, 1) := by decide +kernel
theorem dX10_rollOn_46 : decode cX10_rollOn 46 = .ok (.dup, 1) := by decide +kernel
theorem dX10_rollOn_47 : decode cX10_rollOn 47 = .ok (.getfield 122, 3) := by decide +kernel
theorem dX10_rollOn_50 : decode cX10_rollOn 50 = .ok (.aload_n 0, 1) := by decide +kernel
theorem dX10_rollOn_51 : decode cX10_rollOn 51 = .ok (.getfield 114, 3) := by decide +kernel
theorem dX10_rollOn_54 : decode cX10_rollOn 54 = .ok (.lload 4, 2) := by decide +kernel
theorem dX10_rollOn_56 : decode cX10_rollOn 56 = .ok (.lsub, 1) := by decide +kernel
theorem dX10_rollOn_57 : decode cX10_rollOn 57 = .ok (.ladd, 1) := by decide +kernel
theorem dX10_rollOn_58 : decode cX10_rollOn 58 = .ok (.putfield 122, 3) := by decide +kernel
theorem dX10_rollOn_61 : decode cX10_rollOn 61 = .ok (.aload_n 0, 1) := by decide +kernel
theorem dX10_rollOn_62 : decode cX10_rollOn 62 = .ok (.lload 4, 2) := by decide +kernel
theorem dX10_rollOn_64 : decode cX10_rollOn 64 = .ok (.putfield 114, 3) := by decide +kernel
theorem dX10_rollOn_67 : decode cX10_rollOn 67 = .ok (.goto 30, 3) := by decide +kernel
theorem dX10_rollOn_70 : decode cX10_rollOn 70 = .ok (.aload_n 0, 1) := by decide +kernel
theorem dX10_rollOn_71 : decode cX10_rollOn 71 = .ok (.getfield 114, 3) := by decide +kernel
theorem dX10_rollOn_74 : decode cX10_rollOn 74 = .ok (.lconst 0, 1) := by decide +kernel
theorem dX10_rollOn_75 : decode cX10_rollOn 75 = .ok (.lcmp, 1) := by decide +kernel
theorem dX10_rollOn_76 : decode cX10_rollOn 76 = .ok (.ifCond .ge 21, 3) := by decide +kernel
theorem dX10_rollOn_79 : decode cX10_rollOn 79 = .ok (.aload_n 0, 1) := by decide +kernel
theorem dX10_rollOn_80 : decode cX10_rollOn 80 = .ok (.dup, 1) := by decide +kernel
theorem dX10_rollOn_81 : decode cX10_rollOn 81 = .ok (.getfield 122, 3) := by decide +kernel
theorem dX10_rollOn_84 : decode cX10_rollOn 84 = .ok (.aload_n 0, 1) := by decide +kernel
theorem dX10_rollOn_85 : decode cX10_rollOn 85 = .ok (.getfield 114, 3) := by decide +kernel
theorem dX10_rollOn_88 : decode cX10_rollOn 88 = .ok (.ladd, 1) := by decide +kernel
theorem dX10_rollOn_89 : decode cX10_rollOn 89 = .ok (.putfield 122, 3) := by decide +kernel
theorem dX10_rollOn_92 : decode cX10_rollOn 92 = .ok (.aload_n 0, 1) := by decide +kernel
theorem dX10_rollOn_93 : decode cX10_rollOn 93 = .ok (.lconst 0, 1) := by decide +kernel
theorem dX10_rollOn_94 : decode cX10_rollOn 94 = .ok (.putfield 114, 3) := by decide +kernel
theorem dX10_rollOn_97 : decode cX10_rollOn 97 = .ok (.return_, 1) := by decide +kernel
theorem dX10_follow_0 : decode cX10_follow 0 = .ok (.aload_n 0, 1) := by decide +kernel
theorem dX10_follow_1 : decode cX10_follow 1 = .ok (.iload_n 1, 1) := by decide +kernel
theorem dX10_follow_2 : decode cX10_follow 2 = .ok (.invokevirtual 77, 3) := by decide +kernel
theorem dX10_follow_5 : decode cX10_follow 5 = .ok (.istore_n 3, 1) := by decide +kernel
theorem dX10_follow_6 : decode cX10_follow 6 = .ok (.iconst 0, 1) := by decide +kernel
theorem dX10_follow_7 : decode cX10_follow 7 = .ok (.istore 4, 2) := by decide +kernel
theorem dX10_follow_9 : decode cX10_follow 9 = .ok (.iload 4, 2) := by decide +kernel
theorem dX10_follow_11 : decode cX10_follow 11 = .ok (.iload_n 3, 1) := by decide +kernel
theorem dX10_follow_12 : decode cX10_follow 12 = .ok (.if_icmp .ge 47, 3) := by decide +kernel
theorem dX10_follow_15 : decode cX10_follow 15 = .ok (.aload_n 0, 1) := by decide +kernel
theorem dX10_follow_16 : decode cX10_follow 16 = .ok (.iload_n 1, 1) := by decide +kernel
theorem dX10_follow_17 : decode cX10_follow 17 = .ok (.iload_n 2, 1) := by decide +kernel
theorem dX10_follow_18 : decode cX10_follow 18 = .ok (.ifCond .eq 21, 3) := by decide +kernel
theorem dX10_follow_21 : decode cX10_follow 21 = .ok (.aload_n 0, 1) := by decide +kernel
theorem dX10_follow_22 : decode cX10_follow 22 = .ok (.iload_n 1, 1) := by decide +kernel
theorem dX10_follow_23 : decode cX10_follow 23 = .ok (.iload_n 3, 1) := by decide +kernel
theorem dX10_follow_24 : decode cX10_follow 24 = .ok (.iload 4, 2) := by decide +kernel
theorem dX10_follow_26 : decode cX10_follow 26 = .ok (.isub, 1) := by decide +kernel
theorem dX10_follow_27 : decode cX10_follow 27 = .ok (.iload_n 3, 1) := by decide +kernel
theorem dX10_follow_28 : decode cX10_follow 28 = .ok (.iload 4, 2) := by decide +kernel
theorem dX10_follow_30 : decode cX10_follow 30 = .ok (.isub, 1) := by decide +kernel
theorem dX10_follow_31 : decode cX10_follow 31 = .ok (.iconst 1, 1) := by decide +kernel
theorem dX10_follow_32 : decode cX10_follow 32 = .ok (.isub, 1) := by decide +kernel
theorem dX10_follow_33 : decode cX10_follow 33 = .ok (.invokevirtual 108, 3) := by decide +kernel
theorem dX10_follow_36 : decode cX10_follow 36 = .ok (.goto 14, 3) := by decide +kernel
theorem dX10_follow_39 : decode cX10_follow 39 = .ok (.aload_n 0, 1) := by decide +kernel
theorem dX10_follow_40 : decode cX10_follow 40 = .ok (.iload_n 1, 1) := by decide +kernel
theorem dX10_follow_41 : decode cX10_follow 41 = .ok (.iload 4, 2) := by decide +kernel
theorem dX10_follow_43 : decode cX10_follow 43 = .ok (.iload 4, 2) := by decide +kernel
theorem dX10_follow_45 : decode cX10_follow 45 = .ok (.iconst 1, 1) := by decide +kernel
theorem dX10_follow_46 : decode cX10_follow 46 = .ok (.iadd, 1) := by decide +kernel
theorem dX10_follow_47 : decode cX10_follow 47 = .ok (.invokevirtual 108, 3) := by decide +kernel
theorem dX10_follow_50 : decode cX10_follow 50 = .ok (.invokevirtual 125, 3) := by decide +kernel
theorem dX10_follow_53 : decode cX10_follow 53 = .ok (.iinc 4 1, 3) := by decide +kernel
theorem dX10_follow_56 : decode cX10_follow 56 = .ok (.goto (-47), 3) := by decide +kernel
theorem dX10_follow_59 : decode cX10_follow 59 = .ok (.return_, 1) := by decide +kernel
theorem dX10_sumOf_0 : decode cX10_sumOf 0 = .ok (.aload_n 0, 1) := by decide +kernel
theorem dX10_sumOf_1 : decode cX10_sumOf 1 = .ok (.invokevirtual 39, 3) := by decide +kernel
theorem dX10_sumOf_4 : decode cX10_sumOf 4 = .ok (.istore_n 3, 1) := by decide +kernel
theorem dX10_sumOf_5 : decode cX10_sumOf 5 = .ok (.aload_n 0, 1) := by decide +kernel
theorem dX10_sumOf_6 : decode cX10_sumOf 6 = .ok (.lconst 0, 1) := by decide +kernel
theorem dX10_sumOf_7 : decode cX10_sumOf 7 = .ok (.putfield 114, 3) := by decide +kernel
theorem dX10_sumOf_10 : decode cX10_sumOf 10 = .ok (.aload_n 0, 1) := by decide +kernel
theorem dX10_sumOf_11 : decode cX10_sumOf 11 = .ok (.lconst 0, 1) := by decide +kernel
theorem dX10_sumOf_12 : decode cX10_sumOf 12 = .ok (.putfield 122, 3) := by decide +kernel
theorem dX10_sumOf_15 : decode cX10_sumOf 15 = .ok (.iconst 0, 1) := by decide +kernel
theorem dX10_sumOf_16 : decode cX10_sumOf 16 = .ok (.istore 4, 2) := by decide +kernel
theorem dX10_sumOf_18 : decode cX10_sumOf 18 = .ok (.iload 4, 2) := by decide +kernel
theorem dX10_sumOf_20 : decode cX10_sumOf 20 = .ok (.iload_n 3, 1) := by decide +kernel
theorem dX10_sumOf_21 : decode cX10_sumOf 21 = .ok (.if_icmp .ge 39, 3) := by decide +kernel
theorem dX10_sumOf_24 : decode cX10_sumOf 24 = .ok (.aload_n 0, 1) := by decide +kernel
theorem dX10_sumOf_25 : decode cX10_sumOf 25 = .ok (.iload_n 2, 1) := by decide +kernel
theorem dX10_sumOf_26 : decode cX10_sumOf 26 = .ok (.ifCond .eq 18, 3) := by decide +kernel
theorem dX10_sumOf_29 : decode cX10_sumOf 29 = .ok (.iload_n 1, 1) := by decide +kernel
theorem dX10_sumOf_30 : decode cX10_sumOf 30 = .ok (.iconst 1, 1) := by decide +kernel
theorem dX10_sumOf_31 : decode cX10_sumOf 31 = .ok (.isub, 1) := by decide +kernel
theorem dX10_sumOf_32 : decode cX10_sumOf 32 = .ok (.iload 4, 2) := by decide +kernel
theorem dX10_sumOf_34 : decode cX10_sumOf 34 = .ok (.isub, 1) := by decide +kernel
theorem dX10_sumOf_35 : decode cX10_sumOf 35 = .ok (.iconst 2, 1) := by decide +kernel
theorem dX10_sumOf_36 : decode cX10_sumOf 36 = .ok (.iload_n 3, 1) := by decide +kernel
theorem dX10_sumOf_37 : decode cX10_sumOf 37 = .ok (.imul, 1) := by decide +kernel
theorem dX10_sumOf_38 : decode cX10_sumOf 38 = .ok (.iadd, 1) := by decide +kernel
theorem dX10_sumOf_39 : decode cX10_sumOf 39 = .ok (.iload_n 3, 1) := by decide +kernel
theorem dX10_sumOf_40 : decode cX10_sumOf 40 = .ok (.irem, 1) := by decide +kernel
theorem dX10_sumOf_41 : decode cX10_sumOf 41 = .ok (.goto 9, 3) := by decide +kernel
theorem dX10_sumOf_44 : decode cX10_sumOf 44 = .ok (.iload_n 1, 1) := by decide +kernel
theorem dX10_sumOf_45 : decode cX10_sumOf 45 = .ok (.iload 4, 2) := by decide +kernel
theorem dX10_sumOf_47 : decode cX10_sumOf 47 = .ok (.iadd, 1) := by decide +kernel
theorem dX10_sumOf_48 : decode cX10_sumOf 48 = .ok (.iload_n 3, 1) := by decide +kernel
theorem dX10_sumOf_49 : decode cX10_sumOf 49 = .ok (.irem, 1) := by decide +kernel
theorem dX10_sumOf_50 : decode cX10_sumOf 50 = .ok (.iload_n 2, 1) := by decide +kernel
theorem dX10_sumOf_51 : decode cX10_sumOf 51 = .ok (.invokevirtual 129, 3) := by decide +kernel
theorem dX10_sumOf_54 : decode cX10_sumOf 54 = .ok (.iinc 4 1, 3) := by decide +kernel
theorem dX10_sumOf_57 : decode cX10_sumOf 57 = .ok (.goto (-39), 3) := by decide +kernel
theorem dX10_sumOf_60 : decode cX10_sumOf 60 = .ok (.iload_n 2, 1) := by decide +kernel
theorem dX10_sumOf_61 : decode cX10_sumOf 61 = .ok (.ifCond .eq 11, 3) := by decide +kernel
theorem dX10_sumOf_64 : decode cX10_sumOf 64 = .ok (.aload_n 0, 1) := by decide +kernel
theorem dX10_sumOf_65 : decode cX10_sumOf 65 = .ok (.getfield 122, 3) := by decide +kernel
theorem dX10_sumOf_68 : decode cX10_sumOf 68 = .ok (.lneg, 1) := by decide +kernel
theorem dX10_sumOf_69 : decode cX10_sumOf 69 = .ok (.goto 7, 3) := by decide +kernel
theorem dX10_sumOf_72 : decode cX10_sumOf 72 = .ok (.aload_n 0, 1) := by decide +kernel
theorem dX10_sumOf_73 : decode cX10_sumOf 73 = .ok (.getfield 122, 3) := by decide +kernel
theorem dX10_sumOf_76 : decode cX10_sumOf 76 = .ok (.lreturn, 1) := by decide +kernel
theorem dX10_isOn_0 : decode cX10_isOn 0 = .ok (.aload_n 0, 1) := by decide +kernel
theorem dX10_isOn_1 : decode cX10_isOn 1 = .ok (.iload_n 1, 1) := by decide +kernel
theorem dX10_isOn_2 : decode cX10_isOn 2 = .ok (.invokevirtual 71, 3) := by decide +kernel
theorem dX10_isOn_5 : decode cX10_isOn 5 = .ok (.aload_n 0, 1) := by decide +kernel
theorem dX10_isOn_6 : decode cX10_isOn 6 = .ok (.iload_n 1, 1) := by decide +kernel
theorem dX10_isOn_7 : decode cX10_isOn 7 = .ok (.invokevirtual 74, 3) := by decide +kernel
theorem dX10_isOn_10 : decode cX10_isOn 10 = .ok (.aload_n 0, 1) := by decide +kernel
theorem dX10_isOn_11 : decode cX10_isOn 11 = .ok (.iload_n 1, 1) := by decide +kernel
theorem dX10_isOn_12 : decode cX10_isOn 12 = .ok (.iconst 1, 1) := by decide +kernel
theorem dX10_isOn_13 : decode cX10_isOn 13 = .ok (.iadd, 1) := by decide +kernel
theorem dX10_isOn_14 : decode cX10_isOn 14 = .ok (.invokevirtual 71, 3) := by decide +kernel
theorem dX10_isOn_17 : decode cX10_isOn 17 = .ok (.aload_n 0, 1) := by decide +kernel
theorem dX10_isOn_18 : decode cX10_isOn 18 = .ok (.iload_n 1, 1) := by decide +kernel
theorem dX10_isOn_19 : decode cX10_isOn 19 = .ok (.iconst 1, 1) := by decide +kernel
theorem dX10_isOn_20 : decode cX10_isOn 20 = .ok (.iadd, 1) := by decide +kernel
theorem dX10_isOn_21 : decode cX10_isOn 21 = .ok (.invokevirtual 74, 3) := by decide +kernel
theorem dX10_isOn_24 : decode cX10_isOn 24 = .ok (.aload_n 0, 1) := by decide +kernel
theorem dX10_isOn_25 : decode cX10_isOn 25 = .ok (.getfield 7, 3) := by decide +kernel
theorem dX10_isOn_28 : decode cX10_isOn 28 = .ok (.iconst 0, 1) := by decide +kernel
theorem dX10_isOn_29 : decode cX10_isOn 29 = .ok (.laload, 1) := by decide +kernel
theorem dX10_isOn_30 : decode cX10_isOn 30 = .ok (.aload_n 0, 1) := by decide +kernel
theorem dX10_isOn_31 : decode cX10_isOn 31 = .ok (.getfield 7, 3) := by decide +kernel
theorem dX10_isOn_34 : decode cX10_isOn 34 = .ok (.iconst 1, 1) := by decide +kernel
theorem dX10_isOn_35 : decode cX10_isOn 35 = .ok (.laload, 1) := by decide +kernel
theorem dX10_isOn_36 : decode cX10_isOn 36 = .ok (.invokestatic 100, 3) := by decide +kernel
theorem dX10_isOn_39 : decode cX10_isOn 39 = .ok (.lconst 0, 1) := by decide +kernel
theorem dX10_isOn_40 : decode cX10_isOn 40 = .ok (.lcmp, 1) := by decide +kernel
theorem dX10_isOn_41 : decode cX10_isOn 41 = .ok (.ifCond .ne 7, 3) := by decide +kernel
theorem dX10_isOn_44 : decode cX10_isOn 44 = .ok (.iconst 1, 1) := by decide +kernel
theorem dX10_isOn_45 : decode cX10_isOn 45 = .ok (.goto 4, 3) := by decide +kernel
theorem dX10_isOn_48 : decode cX10_isOn 48 = .ok (.iconst 0, 1) := by decide +kernel
theorem dX10_isOn_49 : decode cX10_isOn 49 = .ok (.istore_n 2, 1) := by decide +kernel
theorem dX10_isOn_50 : decode cX10_isOn 50 = .ok (.aload_n 0, 1) := by decide +kernel
theorem dX10_isOn_51 : decode cX10_isOn 51 = .ok (.iload_n 1, 1) := by decide +kernel
theorem dX10_isOn_52 : decode cX10_isOn 52 = .ok (.invokevirtual 71, 3) := by decide +kernel
theorem dX10_isOn_55 : decode cX10_isOn 55 = .ok (.aload_n 0, 1) := by decide +kernel
theorem dX10_isOn_56 : decode cX10_isOn 56 = .ok (.iload_n 1, 1) := by decide +kernel
theorem dX10_isOn_57 : decode cX10_isOn 57 = .ok (.iconst 1, 1) := by decide +kernel
theorem dX10_isOn_58 : decode cX10_isOn 58 = .ok (.iadd, 1) := by decide +kernel
theorem dX10_isOn_59 : decode cX10_isOn 59 = .ok (.invokevirtual 71, 3) := by decide +kernel
theorem dX10_isOn_62 : decode cX10_isOn 62 = .ok (.lcmp, 1) := by decide +kernel
theorem dX10_isOn_63 : decode cX10_isOn 63 = .ok (.ifCond .ge 11, 3) := by decide +kernel
theorem dX10_isOn_66 : decode cX10_isOn 66 = .ok (.aload_n 0, 1) := by decide +kernel
theorem dX10_isOn_67 : decode cX10_isOn 67 = .ok (.iload_n 1, 1) := by decide +kernel
theorem dX10_isOn_68 : decode cX10_isOn 68 = .ok (.invokevirtual 71, 3) := by decide +kernel
theorem dX10_isOn_71 : decode cX10_isOn 71 = .ok (.goto 10, 3) := by decide +kernel
theorem dX10_isOn_74 : decode cX10_isOn 74 = .ok (.aload_n 0, 1) := by decide +kernel
theorem dX10_isOn_75 : decode cX10_isOn 75 = .ok (.iload_n 1, 1) := by decide +kernel
theorem dX10_isOn_76 : decode cX10_isOn 76 = .ok (.iconst 1, 1) := by decide +kernel
theorem dX10_isOn_77 : decode cX10_isOn 77 = .ok (.iadd, 1) := by decide +kernel
theorem dX10_isOn_78 : decode cX10_isOn 78 = .ok (.invokevirtual 71, 3) := by decide +kernel
theorem dX10_isOn_81 : decode cX10_isOn 81 = .ok (.lstore_n 3, 1) := by decide +kernel
theorem dX10_isOn_82 : decode cX10_isOn 82 = .ok (.aload_n 0, 1) := by decide +kernel
theorem dX10_isOn_83 : decode cX10_isOn 83 = .ok (.iload_n 1, 1) := by decide +kernel
theorem dX10_isOn_84 : decode cX10_isOn 84 = .ok (.invokevirtual 74, 3) := by decide +kernel
theorem dX10_isOn_87 : decode cX10_isOn 87 = .ok (.aload_n 0, 1) := by decide +kernel
theorem dX10_isOn_88 : decode cX10_isOn 88 = .ok (.iload_n 1, 1) := by decide +kernel
theorem dX10_isOn_89 : decode cX10_isOn 89 = .ok (.iconst 1, 1) := by decide +kernel
theorem dX10_isOn_90 : decode cX10_isOn 90 = .ok (.iadd, 1) := by decide +kernel
theorem dX10_isOn_91 : decode cX10_isOn 91 = .ok (.invokevirtual 74, 3) := by decide +kernel
theorem dX10_isOn_94 : decode cX10_isOn 94 = .ok (.lcmp, 1) := by decide +kernel
theorem dX10_isOn_95 : decode cX10_isOn 95 = .ok (.ifCond .ge 11, 3) := by decide +kernel
theorem dX10_isOn_98 : decode cX10_isOn 98 = .ok (.aload_n 0, 1) := by decide +kernel
theorem dX10_isOn_99 : decode cX10_isOn 99 = .ok (.iload_n 1, 1) := by decide +kernel
theorem dX10_isOn_100 : decode cX10_isOn 100 = .ok (.invokevirtual 74, 3) := by decide +kernel
theorem dX10_isOn_103 : decode cX10_isOn 103 = .ok (.goto 10, 3) := by decide +kernel
theorem dX10_isOn_106 : decode cX10_isOn 106 = .ok (.aload_n 0, 1) := by decide +kernel
theorem dX10_isOn_107 : decode cX10_isOn 107 = .ok (.iload_n 1, 1) := by decide +kernel
theorem dX10_isOn_108 : decode cX10_isOn 108 = .ok (.iconst 1, 1) := by decide +kernel
theorem dX10_isOn_109 : decode cX10_isOn 109 = .ok (.iadd, 1) := by decide +kernel
theorem dX10_isOn_110 : decode cX10_isOn 110 = .ok (.invokevirtual 74, 3) := by decide +kernel
theorem dX10_isOn_113 : decode cX10_isOn 113 = .ok (.lstore 5, 2) := by decide +kernel
theorem dX10_isOn_115 : decode cX10_isOn 115 = .ok (.iload_n 2, 1) := by decide +kernel
theorem dX10_isOn_116 : decode cX10_isOn 116 = .ok (.ifCond .eq 65, 3) := by decide +kernel
theorem dX10_isOn_119 : decode cX10_isOn 119 = .ok (.aload_n 0, 1) := by decide +kernel
theorem dX10_isOn_120 : decode cX10_isOn 120 = .ok (.getfield 7, 3) := by decide +kernel
theorem dX10_isOn_123 : decode cX10_isOn 123 = .ok (.iconst 0, 1) := by decide +kernel
theorem dX10_isOn_124 : decode cX10_isOn 124 = .ok (.laload, 1) := by decide +kernel
theorem dX10_isOn_125 : decode cX10_isOn 125 = .ok (.lload_n 3, 1) := by decide +kernel
theorem dX10_isOn_126 : decode cX10_isOn 126 = .ok (.aload_n 0, 1) := by decide +kernel
theorem dX10_isOn_127 : decode cX10_isOn 127 = .ok (.iload_n 1, 1) := by decide +kernel
theorem dX10_isOn_128 : decode cX10_isOn 128 = .ok (.invokevirtual 71, 3) := by decide +kernel
theorem dX10_isOn_131 : decode cX10_isOn 131 = .ok (.aload_n 0, 1) := by decide +kernel
theorem dX10_isOn_132 : decode cX10_isOn 132 = .ok (.iload_n 1, 1) := by decide +kernel
theorem dX10_isOn_133 : decode cX10_isOn 133 = .ok (.iconst 1, 1) := by decide +kernel
theorem dX10_isOn_134 : decode cX10_isOn 134 = .ok (.iadd, 1) := by decide +kernel
theorem dX10_isOn_135 : decode cX10_isOn 135 = .ok (.invokevirtual 71, 3) := by decide +kernel
theorem dX10_isOn_138 : decode cX10_isOn 138 = .ok (.ladd, 1) := by decide +kernel
theorem dX10_isOn_139 : decode cX10_isOn 139 = .ok (.lload_n 3, 1) := by decide +kernel
theorem dX10_isOn_140 : decode cX10_isOn 140 = .ok (.lsub, 1) := by decide +kernel
theorem dX10_isOn_141 : decode cX10_isOn 141 = .ok (.invokestatic 43, 3) := by decide +kernel
theorem dX10_isOn_144 : decode cX10_isOn 144 = .ok (.ifCond .eq 37, 3) := by decide +kernel
theorem dX10_isOn_147 : decode cX10_isOn 147 = .ok (.aload_n 0, 1) := by decide +kernel
theorem dX10_isOn_148 : decode cX10_isOn 148 = .ok (.getfield 7, 3) := by decide +kernel
theorem dX10_isOn_151 : decode cX10_isOn 151 = .ok (.iconst 1, 1) := by decide +kernel
theorem dX10_isOn_152 : decode cX10_isOn 152 = .ok (.laload, 1) := by decide +kernel
theorem dX10_isOn_153 : decode cX10_isOn 153 = .ok (.lload 5, 2) := by decide +kernel
theorem dX10_isOn_155 : decode cX10_isOn 155 = .ok (.aload_n 0, 1) := by decide +kernel
theorem dX10_isOn_156 : decode cX10_isOn 156 = .ok (.iload_n 1, 1) := by decide +kernel
theorem dX10_isOn_157 : decode cX10_isOn 157 = .ok (.invokevirtual 74, 3) := by decide +kernel
theorem dX10_isOn_160 : decode cX10_isOn 160 = .ok (.aload_n 0, 1) := by decide +kernel
theorem dX10_isOn_161 : decode cX10_isOn 161 = .ok (.iload_n 1, 1) := by decide +kernel
theorem dX10_isOn_162 : decode cX10_isOn 162 = .ok (.iconst 1, 1) := by decide +kernel
theorem dX10_isOn_163 : decode cX10_isOn 163 = .ok (.iadd, 1) := by decide +kernel
theorem dX10_isOn_164 : decode cX10_isOn 164 = .ok (.invokevirtual 74, 3) := by decide +kernel
theorem dX10_isOn_167 : decode cX10_isOn 167 = .ok (.ladd, 1) := by decide +kernel
theorem dX10_isOn_168 : decode cX10_isOn 168 = .ok (.lload 5, 2) := by decide +kernel
theorem dX10_isOn_170 : decode cX10_isOn 170 = .ok (.lsub, 1) := by decide +kernel
theorem dX10_isOn_171 : decode cX10_isOn 171 = .ok (.invokestatic 43, 3) := by decide +kernel
theorem dX10_isOn_174 : decode cX10_isOn 174 = .ok (.ifCond .eq 7, 3) := by decide +kernel
theorem dX10_isOn_177 : decode cX10_isOn 177 = .ok (.iconst 1, 1) := by decide +kernel
theorem dX10_isOn_178 : decode cX10_isOn 178 = .ok (.goto 4, 3) := by decide +kernel
theorem dX10_isOn_181 : decode cX10_isOn 181 = .ok (.iconst 0, 1) := by decide +kernel
theorem dX10_isOn_182 : decode cX10_isOn 182 = .ok (.ireturn, 1) := by decide +kernel
theorem dX10_isOnOutline_0 : decode cX10_isOnOutline 0 = .ok (.iconst 0, 1) := by decide +kernel
theorem dX10_isOnOutline_1 : decode cX10_isOnOutline 1 = .ok (.istore_n 1, 1) := by decide +kernel
theorem dX10_isOnOutline_2 : decode cX10_isOnOutline 2 = .ok (.iconst 0, 1) := by decide +kernel
theorem dX10_isOnOutline_3 : decode cX10_isOnOutline 3 = .ok (.istore_n 2, 1) := by decide +kernel
theorem dX10_isOnOutline_4 : decode cX10_isOnOutline 4 = .ok (.iload_n 2, 1) := by decide +kernel
theorem dX10_isOnOutline_5 : decode cX10_isOnOutline 5 = .ok (.aload_n 0, 1) := by decide +kernel
theorem dX10_isOnOutline_6 : decode cX10_isOnOutline 6 = .ok (.invokevirtual 39, 3) := by decide +kernel
theorem dX10_isOnOutline_9 : decode cX10_isOnOutline 9 = .ok (.if_icmp .ge 27, 3) := by decide +kernel
theorem dX10_isOnOutline_12 : decode cX10_isOnOutline 12 = .ok (.iload_n 1, 1) := by decide +kernel
theorem dX10_isOnOutline_13 : decode cX10_isOnOutline 13 = .ok (.ifCond .ne 11, 3) := by decide +kernel
theorem dX10_isOnOutline_16 : decode cX10_isOnOutline 16 = .ok (.aload_n 0, 1) := by decide +kernel
theorem dX10_isOnOutline_17 : decode cX10_isOnOutline 17 = .ok (.iload_n 2, 1) := by decide +kernel
theorem dX10_isOnOutline_18 : decode cX10_isOnOutline 18 = .ok (.invokevirtual 133, 3) := by decide +kernel
theorem dX10_isOnOutline_21 : decode cX10_isOnOutline 21 = .ok (.ifCond .eq 7, 3) := by decide +kernel
theorem dX10_isOnOutline_24 : decode cX10_isOnOutline 24 = .ok (.iconst 1, 1) := by decide +kernel
theorem dX10_isOnOutline_25 : decode cX10_isOnOutline 25 = .ok (.goto 4, 3) := by decide +kernel
theorem dX10_isOnOutline_28 : decode cX10_isOnOutline 28 = .ok (.iconst 0, 1) := by decide +kernel
theorem dX10_isOnOutline_29 : decode cX10_isOnOutline 29 = .ok (.istore_n 1, 1) := by decide +kernel
theorem dX10_isOnOutline_30 : decode cX10_isOnOutline 30 = .ok (.iinc 2 1, 3) := by decide +kernel
theorem dX10_isOnOutline_33 : decode cX10_isOnOutline 33 = .ok (.goto (-29), 3) := by decide +kernel
theorem dX10_isOnOutline_36 : decode cX10_isOnOutline 36 = .ok (.iload_n 1, 1) := by decide +kernel
theorem dX10_isOnOutline_37 : decode cX10_isOnOutline 37 = .ok (.ireturn, 1) := by decide +kernel
theorem dX10_winding_0 : decode cX10_winding 0 = .ok (.lconst 0, 1) := by decide +kernel
theorem dX10_winding_1 : decode cX10_winding 1 = .ok (.lstore_n 1, 1) := by decide +kernel
theorem dX10_winding_2 : decode cX10_winding 2 = .ok (.iconst 0, 1) := by decide +kernel
theorem dX10_winding_3 : decode cX10_winding 3 = .ok (.istore_n 3, 1) := by decide +kernel
theorem dX10_winding_4 : decode cX10_winding 4 = .ok (.iload_n 3, 1) := by decide +kernel
theorem dX10_winding_5 : decode cX10_winding 5 = .ok (.aload_n 0, 1) := by decide +kernel
theorem dX10_winding_6 : decode cX10_winding 6 = .ok (.invokevirtual 39, 3) := by decide +kernel
theorem dX10_winding_9 : decode cX10_winding 9 = .ok (.if_icmp .ge 166, 3) := by decide +kernel
theorem dX10_winding_12 : decode cX10_winding 12 = .ok (.aload_n 0, 1) := by decide +kernel
theorem dX10_winding_13 : decode cX10_winding 13 = .ok (.iload_n 3, 1) := by decide +kernel
theorem dX10_winding_14 : decode cX10_winding 14 = .ok (.invokevirtual 71, 3) := by decide +kernel
theorem dX10_winding_17 : decode cX10_winding 17 = .ok (.aload_n 0, 1) := by decide +kernel
theorem dX10_winding_18 : decode cX10_winding 18 = .ok (.iload_n 3, 1) := by decide +kernel
theorem dX10_winding_19 : decode cX10_winding 19 = .ok (.invokevirtual 74, 3) := by decide +kernel
theorem dX10_winding_22 : decode cX10_winding 22 = .ok (.aload_n 0, 1) := by decide +kernel
theorem dX10_winding_23 : decode cX10_winding 23 = .ok (.iload_n 3, 1) := by decide +kernel
theorem dX10_winding_24 : decode cX10_winding 24 = .ok (.iconst 1, 1) := by decide +kernel
theorem dX10_winding_25 : decode cX10_winding 25 = .ok (.iadd, 1) := by decide +kernel
theorem dX10_winding_26 : decode cX10_winding 26 = .ok (.invokevirtual 71, 3) := by decide +kernel
theorem dX10_winding_29 : decode cX10_winding 29 = .ok (.aload_n 0, 1) := by decide +kernel
theorem dX10_winding_30 : decode cX10_winding 30 = .ok (.iload_n 3, 1) := by decide +kernel
theorem dX10_winding_31 : decode cX10_winding 31 = .ok (.iconst 1, 1) := by decide +kernel
theorem dX10_winding_32 : decode cX10_winding 32 = .ok (.iadd, 1) := by decide +kernel
theorem dX10_winding_33 : decode cX10_winding 33 = .ok (.invokevirtual 74, 3) := by decide +kernel
theorem dX10_winding_36 : decode cX10_winding 36 = .ok (.aload_n 0, 1) := by decide +kernel
theorem dX10_winding_37 : decode cX10_winding 37 = .ok (.getfield 7, 3) := by decide +kernel
theorem dX10_winding_40 : decode cX10_winding 40 = .ok (.iconst 0, 1) := by decide +kernel
theorem dX10_winding_41 : decode cX10_winding 41 = .ok (.laload, 1) := by decide +kernel
theorem dX10_winding_42 : decode cX10_winding 42 = .ok (.aload_n 0, 1) := by decide +kernel
theorem dX10_winding_43 : decode cX10_winding 43 = .ok (.getfield 7, 3) := by decide +kernel
theorem dX10_winding_46 : decode cX10_winding 46 = .ok (.iconst 1, 1) := by decide +kernel
theorem dX10_winding_47 : decode cX10_winding 47 = .ok (.laload, 1) := by decide +kernel
theorem dX10_winding_48 : decode cX10_winding 48 = .ok (.invokestatic 100, 3) := by decide +kernel
theorem dX10_winding_51 : decode cX10_winding 51 = .ok (.lstore 4, 2) := by decide +kernel
theorem dX10_winding_53 : decode cX10_winding 53 = .ok (.aload_n 0, 1) := by decide +kernel
theorem dX10_winding_54 : decode cX10_winding 54 = .ok (.iload_n 3, 1) := by decide +kernel
theorem dX10_winding_55 : decode cX10_winding 55 = .ok (.invokevirtual 74, 3) := by decide +kernel
theorem dX10_winding_58 : decode cX10_winding 58 = .ok (.aload_n 0, 1) := by decide +kernel
theorem dX10_winding_59 : decode cX10_winding 59 = .ok (.getfield 7, 3) := by decide +kernel
theorem dX10_winding_62 : decode cX10_winding 62 = .ok (.iconst 1, 1) := by decide +kernel
theorem dX10_winding_63 : decode cX10_winding 63 = .ok (.laload, 1) := by decide +kernel
theorem dX10_winding_64 : decode cX10_winding 64 = .ok (.lcmp, 1) := by decide +kernel
theorem dX10_winding_65 : decode cX10_winding 65 = .ok (.ifCond .gt 24, 3) := by decide +kernel
theorem dX10_winding_68 : decode cX10_winding 68 = .ok (.aload_n 0, 1) := by decide +kernel
theorem dX10_winding_69 : decode cX10_winding 69 = .ok (.iload_n 3, 1) := by decide +kernel
theorem dX10_winding_70 : decode cX10_winding 70 = .ok (.iconst 1, 1) := by decide +kernel
theorem dX10_winding_71 : decode cX10_winding 71 = .ok (.iadd, 1) := by decide +kernel
theorem dX10_winding_72 : decode cX10_winding 72 = .ok (.invokevirtual 74, 3) := by decide +kernel
theorem dX10_winding_75 : decode cX10_winding 75 = .ok (.aload_n 0, 1) := by decide +kernel
theorem dX10_winding_76 : decode cX10_winding 76 = .ok (.getfield 7, 3) := by decide +kernel
theorem dX10_winding_79 : decode cX10_winding 79 = .ok (.iconst 1, 1) := by decide +kernel
theorem dX10_winding_80 : decode cX10_winding 80 = .ok (.laload, 1) := by decide +kernel
theorem dX10_winding_81 : decode cX10_winding 81 = .ok (.lcmp, 1) := by decide +kernel
theorem dX10_winding_82 : decode cX10_winding 82 = .ok (.ifCond .le 7, 3) := by decide +kernel
theorem dX10_winding_85 : decode cX10_winding 85 = .ok (.iconst 1, 1) := by decide +kernel
theorem dX10_winding_86 : decode cX10_winding 86 = .ok (.goto 4, 3) := by decide +kernel
theorem dX10_winding_89 : decode cX10_winding 89 = .ok (.iconst 0, 1) := by decide +kernel
theorem dX10_winding_90 : decode cX10_winding 90 = .ok (.istore 6, 2) := by decide +kernel
theorem dX10_winding_92 : decode cX10_winding 92 = .ok (.aload_n 0, 1) := by decide +kernel
theorem dX10_winding_93 : decode cX10_winding 93 = .ok (.iload_n 3, 1) := by decide +kernel
theorem dX10_winding_94 : decode cX10_winding 94 = .ok (.invokevirtual 74, 3) := by decide +kernel
theorem dX10_winding_97 : decode cX10_winding 97 = .ok (.aload_n 0, 1) := by decide +kernel
theorem dX10_winding_98 : decode cX10_winding 98 = .ok (.getfield 7, 3) := by decide +kernel
theorem dX10_winding_101 : decode cX10_winding 101 = .ok (.iconst 1, 1) := by decide +kernel
theorem dX10_winding_102 : decode cX10_winding 102 = .ok (.laload, 1) := by decide +kernel
theorem dX10_winding_103 : decode cX10_winding 103 = .ok (.lcmp, 1) := by decide +kernel
theorem dX10_winding_104 : decode cX10_winding 104 = .ok (.ifCond .le 24, 3) := by decide +kernel
theorem dX10_winding_107 : decode cX10_winding 107 = .ok (.aload_n 0, 1) := by decide +kernel
theorem dX10_winding_108 : decode cX10_winding 108 = .ok (.iload_n 3, 1) := by decide +kernel
theorem dX10_winding_109 : decode cX10_winding 109 = .ok (.iconst 1, 1) := by decide +kernel
theorem dX10_winding_110 : decode cX10_winding 110 = .ok (.iadd, 1) := by decide +kernel
theorem dX10_winding_111 : decode cX10_winding 111 = .ok (.invokevirtual 74, 3) := by decide +kernel
theorem dX10_winding_114 : decode cX10_winding 114 = .ok (.aload_n 0, 1) := by decide +kernel
theorem dX10_winding_115 : decode cX10_winding 115 = .ok (.getfield 7, 3) := by decide +kernel
theorem dX10_winding_118 : decode cX10_winding 118 = .ok (.iconst 1, 1) := by decide +kernel
theorem dX10_winding_119 : decode cX10_winding 119 = .ok (.laload, 1) := by decide +kernel
theorem dX10_winding_120 : decode cX10_winding 120 = .ok (.lcmp, 1) := by decide +kernel
theorem dX10_winding_121 : decode cX10_winding 121 = .ok (.ifCond .gt 7, 3) := by decide +kernel
theorem dX10_winding_124 : decode cX10_winding 124 = .ok (.iconst 1, 1) := by decide +kernel
theorem dX10_winding_125 : decode cX10_winding 125 = .ok (.goto 4, 3) := by decide +kernel
theorem dX10_winding_128 : decode cX10_winding 128 = .ok (.iconst 0, 1) := by decide +kernel
theorem dX10_winding_129 : decode cX10_winding 129 = .ok (.istore 7, 2) := by decide +kernel
theorem dX10_winding_131 : decode cX10_winding 131 = .ok (.lload_n 1, 1) := by decide +kernel
theorem dX10_winding_132 : decode cX10_winding 132 = .ok (.iload 6, 2) := by decide +kernel
theorem dX10_winding_134 : decode cX10_winding 134 = .ok (.ifCond .eq 14, 3) := by decide +kernel
theorem dX10_winding_137 : decode cX10_winding 137 = .ok (.lload 4, 2) := by decide +kernel
theorem dX10_winding_139 : decode cX10_winding 139 = .ok (.lconst 0, 1) := by decide +kernel
theorem dX10_winding_140 : decode cX10_winding 140 = .ok (.lcmp, 1) := by decide +kernel
theorem dX10_winding_141 : decode cX10_winding 141 = .ok (.ifCond .le 7, 3) := by decide +kernel
theorem dX10_winding_144 : decode cX10_winding 144 = .ok (.lconst 1, 1) := by decide +kernel
theorem dX10_winding_145 : decode cX10_winding 145 = .ok (.goto 22, 3) := by decide +kernel
theorem dX10_winding_148 : decode cX10_winding 148 = .ok (.iload 7, 2) := by decide +kernel
theorem dX10_winding_150 : decode cX10_winding 150 = .ok (.ifCond .eq 16, 3) := by decide +kernel
theorem dX10_winding_153 : decode cX10_winding 153 = .ok (.lload 4, 2) := by decide +kernel
theorem dX10_winding_155 : decode cX10_winding 155 = .ok (.lconst 0, 1) := by decide +kernel
theorem dX10_winding_156 : decode cX10_winding 156 = .ok (.lcmp, 1) := by decide +kernel
theorem dX10_winding_157 : decode cX10_winding 157 = .ok (.ifCond .ge 9, 3) := by decide +kernel
theorem dX10_winding_160 : decode cX10_winding 160 = .ok (.ldc2_w 136, 3) := by decide +kernel
theorem dX10_winding_163 : decode cX10_winding 163 = .ok (.goto 4, 3) := by decide +kernel
theorem dX10_winding_166 : decode cX10_winding 166 = .ok (.lconst 0, 1) := by decide +kernel
theorem dX10_winding_167 : decode cX10_winding 167 = .ok (.ladd, 1) := by decide +kernel
theorem dX10_winding_168 : decode cX10_winding 168 = .ok (.lstore_n 1, 1) := by decide +kernel
theorem dX10_winding_169 : decode cX10_winding 169 = .ok (.iinc 3 1, 3) := by decide +kernel
theorem dX10_winding_172 : decode cX10_winding 172 = .ok (.goto (-168), 3) := by decide +kernel
theorem dX10_winding_175 : decode cX10_winding 175 = .ok (.lload_n 1, 1) := by decide +kernel
theorem dX10_winding_176 : decode cX10_winding 176 = .ok (.lreturn, 1) := by decide +kernel
theorem dX10_constant_0 : decode cX10_constant 0 = .ok (.aload_n 0, 1) := by decide +kernel
theorem dX10_constant_1 : decode cX10_constant 1 = .ok (.invokevirtual 138, 3) := by decide +kernel
theorem dX10_constant_4 : decode cX10_constant 4 = .ok (.ldc2_w 142, 3) := by decide +kernel
theorem dX10_constant_7 : decode cX10_constant 7 = .ok (.aload_n 0, 1) := by decide +kernel
theorem dX10_constant_8 : decode cX10_constant 8 = .ok (.iconst 0, 1) := by decide +kernel
theorem dX10_constant_9 : decode cX10_constant 9 = .ok (.invokevirtual 57, 3) := by decide +kernel
theorem dX10_constant_12 : decode cX10_constant 12 = .ok (.lmul, 1) := by decide +kernel
theorem dX10_constant_13 : decode cX10_constant 13 = .ok (.aload_n 0, 1) := by decide +kernel
theorem dX10_constant_14 : decode cX10_constant 14 = .ok (.iconst 0, 1) := by decide +kernel
theorem dX10_constant_15 : decode cX10_constant 15 = .ok (.invokevirtual 57, 3) := by decide +kernel
theorem dX10_constant_18 : decode cX10_constant 18 = .ok (.lmul, 1) := by decide +kernel
theorem dX10_constant_19 : decode cX10_constant 19 = .ok (.ldc2_w 144, 3) := by decide +kernel
theorem dX10_constant_22 : decode cX10_constant 22 = .ok (.ldiv, 1) := by decide +kernel
theorem dX10_constant_23 : decode cX10_constant 23 = .ok (.lmul, 1) := by decide +kernel
theorem dX10_constant_24 : decode cX10_constant 24 = .ok (.lreturn, 1) := by decide +kernel
theorem dX10_twiceArea_0 : decode cX10_twiceArea 0 = .ok (.lconst 0, 1) := by decide +kernel
theorem dX10_twiceArea_1 : decode cX10_twiceArea 1 = .ok (.lstore_n 1, 1) := by decide +kernel
theorem dX10_twiceArea_2 : decode cX10_twiceArea 2 = .ok (.iconst 0, 1) := by decide +kernel
theorem dX10_twiceArea_3 : decode cX10_twiceArea 3 = .ok (.istore_n 3, 1) := by decide +kernel
theorem dX10_twiceArea_4 : decode cX10_twiceArea 4 = .ok (.iload_n 3, 1) := by decide +kernel
theorem dX10_twiceArea_5 : decode cX10_twiceArea 5 = .ok (.aload_n 0, 1) := by decide +kernel
theorem dX10_twiceArea_6 : decode cX10_twiceArea 6 = .ok (.invokevirtual 39, 3) := by decide +kernel
theorem dX10_twiceArea_9 : decode cX10_twiceArea 9 = .ok (.if_icmp .ge 39, 3) := by decide +kernel
theorem dX10_twiceArea_12 : decode cX10_twiceArea 12 = .ok (.lload_n 1, 1) := by decide +kernel
theorem dX10_twiceArea_13 : decode cX10_twiceArea 13 = .ok (.aload_n 0, 1) := by decide +kernel
theorem dX10_twiceArea_14 : decode cX10_twiceArea 14 = .ok (.iload_n 3, 1) := by decide +kernel
theorem dX10_twiceArea_15 : decode cX10_twiceArea 15 = .ok (.invokevirtual 71, 3) := by decide +kernel
theorem dX10_twiceArea_18 : decode cX10_twiceArea 18 = .ok (.aload_n 0, 1) := by decide +kernel
theorem dX10_twiceArea_19 : decode cX10_twiceArea 19 = .ok (.iload_n 3, 1) := by decide +kernel
theorem dX10_twiceArea_20 : decode cX10_twiceArea 20 = .ok (.iconst 1, 1) := by decide +kernel
theorem dX10_twiceArea_21 : decode cX10_twiceArea 21 = .ok (.iadd, 1) := by decide +kernel
theorem dX10_twiceArea_22 : decode cX10_twiceArea 22 = .ok (.invokevirtual 74, 3) := by decide +kernel
theorem dX10_twiceArea_25 : decode cX10_twiceArea 25 = .ok (.lmul, 1) := by decide +kernel
theorem dX10_twiceArea_26 : decode cX10_twiceArea 26 = .ok (.aload_n 0, 1) := by decide +kernel
theorem dX10_twiceArea_27 : decode cX10_twiceArea 27 = .ok (.iload_n 3, 1) := by decide +kernel
theorem dX10_twiceArea_28 : decode cX10_twiceArea 28 = .ok (.iconst 1, 1) := by decide +kernel
theorem dX10_twiceArea_29 : decode cX10_twiceArea 29 = .ok (.iadd, 1) := by decide +kernel
theorem dX10_twiceArea_30 : decode cX10_twiceArea 30 = .ok (.invokevirtual 71, 3) := by decide +kernel
theorem dX10_twiceArea_33 : decode cX10_twiceArea 33 = .ok (.aload_n 0, 1) := by decide +kernel
theorem dX10_twiceArea_34 : decode cX10_twiceArea 34 = .ok (.iload_n 3, 1) := by decide +kernel
theorem dX10_twiceArea_35 : decode cX10_twiceArea 35 = .ok (.invokevirtual 74, 3) := by decide +kernel
theorem dX10_twiceArea_38 : decode cX10_twiceArea 38 = .ok (.lmul, 1) := by decide +kernel
theorem dX10_twiceArea_39 : decode cX10_twiceArea 39 = .ok (.lsub, 1) := by decide +kernel
theorem dX10_twiceArea_40 : decode cX10_twiceArea 40 = .ok (.ladd, 1) := by decide +kernel
theorem dX10_twiceArea_41 : decode cX10_twiceArea 41 = .ok (.lstore_n 1, 1) := by decide +kernel
theorem dX10_twiceArea_42 : decode cX10_twiceArea 42 = .ok (.iinc 3 1, 3) := by decide +kernel
theorem dX10_twiceArea_45 : decode cX10_twiceArea 45 = .ok (.goto (-41), 3) := by decide +kernel
theorem dX10_twiceArea_48 : decode cX10_twiceArea 48 = .ok (.lload_n 1, 1) := by decide +kernel
theorem dX10_twiceArea_49 : decode cX10_twiceArea 49 = .ok (.lreturn, 1) := by decide +kernel
theorem dX10_shut_0 : decode cX10_shut 0 = .ok (.aload_n 0, 1) := by decide +kernel
theorem dX10_shut_1 : decode cX10_shut 1 = .ok (.invokevirtual 39, 3) := by decide +kernel
theorem dX10_shut_4 : decode cX10_shut 4 = .ok (.iconst 3, 1) := by decide +kernel
theorem dX10_shut_5 : decode cX10_shut 5 = .ok (.if_icmp .ge 7, 3) := by decide +kernel
theorem dX10_shut_8 : decode cX10_shut 8 = .ok (.iconst 1, 1) := by decide +kernel
theorem dX10_shut_9 : decode cX10_shut 9 = .ok (.goto 26, 3) := by decide +kernel
theorem dX10_shut_12 : decode cX10_shut 12 = .ok (.aload_n 0, 1) := by decide +kernel
theorem dX10_shut_13 : decode cX10_shut 13 = .ok (.invokevirtual 146, 3) := by decide +kernel
theorem dX10_shut_16 : decode cX10_shut 16 = .ok (.ifCond .eq 7, 3) := by decide +kernel
theorem dX10_shut_19 : decode cX10_shut 19 = .ok (.iconst 2, 1) := by decide +kernel
theorem dX10_shut_20 : decode cX10_shut 20 = .ok (.goto 15, 3) := by decide +kernel
theorem dX10_shut_23 : decode cX10_shut 23 = .ok (.aload_n 0, 1) := by decide +kernel
theorem dX10_shut_24 : decode cX10_shut 24 = .ok (.invokevirtual 150, 3) := by decide +kernel
theorem dX10_shut_27 : decode cX10_shut 27 = .ok (.ifCond .eq 7, 3) := by decide +kernel
theorem dX10_shut_30 : decode cX10_shut 30 = .ok (.iconst 0, 1) := by decide +kernel
theorem dX10_shut_31 : decode cX10_shut 31 = .ok (.goto 4, 3) := by decide +kernel
theorem dX10_shut_34 : decode cX10_shut 34 = .ok (.iconst 3, 1) := by decide +kernel
theorem dX10_shut_35 : decode cX10_shut 35 = .ok (.ireturn, 1) := by decide +kernel
theorem dX10_refusal_0 : decode cX10_refusal 0 = .ok (.aload_n 0, 1) := by decide +kernel
theorem dX10_refusal_1 : decode cX10_refusal 1 = .ok (.invokevirtual 153, 3) := by decide +kernel
theorem dX10_refusal_4 : decode cX10_refusal 4 = .ok (.istore_n 1, 1) := by decide +kernel
theorem dX10_refusal_5 : decode cX10_refusal 5 = .ok (.iload_n 1, 1) := by decide +kernel
theorem dX10_refusal_6 : decode cX10_refusal 6 = .ok (.ifCond .ne 21, 3) := by decide +kernel
theorem dX10_refusal_9 : decode cX10_refusal 9 = .ok (.aload_n 0, 1) := by decide +kernel
theorem dX10_refusal_10 : decode cX10_refusal 10 = .ok (.getfield 7, 3) := by decide +kernel
theorem dX10_refusal_13 : decode cX10_refusal 13 = .ok (.bipush 69, 2) := by decide +kernel
theorem dX10_refusal_15 : decode cX10_refusal 15 = .ok (.laload, 1) := by decide +kernel
theorem dX10_refusal_16 : decode cX10_refusal 16 = .ok (.ldc2_w 156, 3) := by decide +kernel
theorem dX10_refusal_19 : decode cX10_refusal 19 = .ok (.lcmp, 1) := by decide +kernel
theorem dX10_refusal_20 : decode cX10_refusal 20 = .ok (.ifCond .ne 7, 3) := by decide +kernel
theorem dX10_refusal_23 : decode cX10_refusal 23 = .ok (.iconst 4, 1) := by decide +kernel
theorem dX10_refusal_24 : decode cX10_refusal 24 = .ok (.goto 4, 3) := by decide +kernel
theorem dX10_refusal_27 : decode cX10_refusal 27 = .ok (.iload_n 1, 1) := by decide +kernel
theorem dX10_refusal_28 : decode cX10_refusal 28 = .ok (.ireturn, 1) := by decide +kernel
theorem dX10_areaOf_0 : decode cX10_areaOf 0 = .ok (.aload_n 0, 1) := by decide +kernel
theorem dX10_areaOf_1 : decode cX10_areaOf 1 = .ok (.getfield 7, 3) := by decide +kernel
theorem dX10_areaOf_4 : decode cX10_areaOf 4 = .ok (.bipush 70, 2) := by decide +kernel
theorem dX10_areaOf_6 : decode cX10_areaOf 6 = .ok (.iconst 3, 1) := by decide +kernel
theorem dX10_areaOf_7 : decode cX10_areaOf 7 = .ok (.iload_n 1, 1) := by decide +kernel
theorem dX10_areaOf_8 : decode cX10_areaOf 8 = .ok (.imul, 1) := by decide +kernel
theorem dX10_areaOf_9 : decode cX10_areaOf 9 = .ok (.iadd, 1) := by decide +kernel
theorem dX10_areaOf_10 : decode cX10_areaOf 10 = .ok (.iconst 2, 1) := by decide +kernel
theorem dX10_areaOf_11 : decode cX10_areaOf 11 = .ok (.iadd, 1) := by decide +kernel
theorem dX10_areaOf_12 : decode cX10_areaOf 12 = .ok (.laload, 1) := by decide +kernel
theorem dX10_areaOf_13 : decode cX10_areaOf 13 = .ok (.ldc2_w 112, 3) := by decide +kernel
theorem dX10_areaOf_16 : decode cX10_areaOf 16 = .ok (.ldiv, 1) := by decide +kernel
theorem dX10_areaOf_17 : decode cX10_areaOf 17 = .ok (.aload_n 0, 1) := by decide +kernel
theorem dX10_areaOf_18 : decode cX10_areaOf 18 = .ok (.invokevirtual 158, 3) := by decide +kernel
theorem dX10_areaOf_21 : decode cX10_areaOf 21 = .ok (.ladd, 1) := by decide +kernel
theorem dX10_areaOf_22 : decode cX10_areaOf 22 = .ok (.lreturn, 1) := by decide +kernel
theorem dX10_left_0 : decode cX10_left 0 = .ok (.iconst 0, 1) := by decide +kernel
theorem dX10_left_1 : decode cX10_left 1 = .ok (.istore_n 1, 1) := by decide +kernel
theorem dX10_left_2 : decode cX10_left 2 = .ok (.iconst 0, 1) := by decide +kernel
theorem dX10_left_3 : decode cX10_left 3 = .ok (.istore_n 2, 1) := by decide +kernel
theorem dX10_left_4 : decode cX10_left 4 = .ok (.iload_n 2, 1) := by decide +kernel
theorem dX10_left_5 : decode cX10_left 5 = .ok (.i2l, 1) := by decide +kernel
theorem dX10_left_6 : decode cX10_left 6 = .ok (.aload_n 0, 1) := by decide +kernel
theorem dX10_left_7 : decode cX10_left 7 = .ok (.getfield 7, 3) := by decide +kernel
theorem dX10_left_10 : decode cX10_left 10 = .ok (.bipush 69, 2) := by decide +kernel
theorem dX10_left_12 : decode cX10_left 12 = .ok (.laload, 1) := by decide +kernel
theorem dX10_left_13 : decode cX10_left 13 = .ok (.lcmp, 1) := by decide +kernel
theorem dX10_left_14 : decode cX10_left 14 = .ok (.ifCond .ge 26, 3) := by decide +kernel
theorem dX10_left_17 : decode cX10_left 17 = .ok (.iload_n 1, 1) := by decide +kernel
theorem dX10_left_18 : decode cX10_left 18 = .ok (.aload_n 0, 1) := by decide +kernel
theorem dX10_left_19 : decode cX10_left 19 = .ok (.getfield 20, 3) := by decide +kernel
theorem dX10_left_22 : decode cX10_left 22 = .ok (.iload_n 2, 1) := by decide +kernel
theorem dX10_left_23 : decode cX10_left 23 = .ok (.baload, 1) := by decide +kernel
theorem dX10_left_24 : decode cX10_left 24 = .ok (.ifCond .eq 7, 3) := by decide +kernel
theorem dX10_left_27 : decode cX10_left 27 = .ok (.iconst 0, 1) := by decide +kernel
theorem dX10_left_28 : decode cX10_left 28 = .ok (.goto 4, 3) := by decide +kernel
theorem dX10_left_31 : decode cX10_left 31 = .ok (.iconst 1, 1) := by decide +kernel
theorem dX10_left_32 : decode cX10_left 32 = .ok (.iadd, 1) := by decide +kernel
theorem dX10_left_33 : decode cX10_left 33 = .ok (.istore_n 1, 1) := by decide +kernel
theorem dX10_left_34 : decode cX10_left 34 = .ok (.iinc 2 1, 3) := by decide +kernel
theorem dX10_left_37 : decode cX10_left 37 = .ok (.goto (-33), 3) := by decide +kernel
theorem dX10_left_40 : decode cX10_left 40 = .ok (.iload_n 1, 1) := by decide +kernel
theorem dX10_left_41 : decode cX10_left 41 = .ok (.ireturn, 1) := by decide +kernel
theorem dX10_middle_0 : decode cX10_middle 0 = .ok (.aload_n 0, 1) := by decide +kernel
theorem dX10_middle_1 : decode cX10_middle 1 = .ok (.invokevirtual 161, 3) := by decide +kernel
theorem dX10_middle_4 : decode cX10_middle 4 = .ok (.iconst 1, 1) := by decide +kernel
theorem dX10_middle_5 : decode cX10_middle 5 = .ok (.isub, 1) := by decide +kernel
theorem dX10_middle_6 : decode cX10_middle 6 = .ok (.iconst 2, 1) := by decide +kernel
theorem dX10_middle_7 : decode cX10_middle 7 = .ok (.idiv, 1) := by decide +kernel
theorem dX10_middle_8 : decode cX10_middle 8 = .ok (.istore_n 1, 1) := by decide +kernel
theorem dX10_middle_9 : decode cX10_middle 9 = .ok (.iconst 0, 1) := by decide +kernel
theorem dX10_middle_10 : decode cX10_middle 10 = .ok (.istore_n 2, 1) := by decide +kernel
theorem dX10_middle_11 : decode cX10_middle 11 = .ok (.iload_n 2, 1) := by decide +kernel
theorem dX10_middle_12 : decode cX10_middle 12 = .ok (.i2l, 1) := by decide +kernel
theorem dX10_middle_13 : decode cX10_middle 13 = .ok (.aload_n 0, 1) := by decide +kernel
theorem dX10_middle_14 : decode cX10_middle 14 = .ok (.getfield 7, 3) := by decide +kernel
theorem dX10_middle_17 : decode cX10_middle 17 = .ok (.bipush 69, 2) := by decide +kernel
theorem dX10_middle_19 : decode cX10_middle 19 = .ok (.laload, 1) := by decide +kernel
theorem dX10_middle_20 : decode cX10_middle 20 = .ok (.lcmp, 1) := by decide +kernel
theorem dX10_middle_21 : decode cX10_middle 21 = .ok (.ifCond .ge 120, 3) := by decide +kernel
theorem dX10_middle_24 : decode cX10_middle 24 = .ok (.iconst 0, 1) := by decide +kernel
theorem dX10_middle_25 : decode cX10_middle 25 = .ok (.istore_n 3, 1) := by decide +kernel
theorem dX10_middle_26 : decode cX10_middle 26 = .ok (.iconst 0, 1) := by decide +kernel
theorem dX10_middle_27 : decode cX10_middle 27 = .ok (.istore 4, 2) := by decide +kernel
theorem dX10_middle_29 : decode cX10_middle 29 = .ok (.iload 4, 2) := by decide +kernel
theorem dX10_middle_31 : decode cX10_middle 31 = .ok (.i2l, 1) := by decide +kernel
theorem dX10_middle_32 : decode cX10_middle 32 = .ok (.aload_n 0, 1) := by decide +kernel
theorem dX10_middle_33 : decode cX10_middle 33 = .ok (.getfield 7, 3) := by decide +kernel
theorem dX10_middle_36 : decode cX10_middle 36 = .ok (.bipush 69, 2) := by decide +kernel
theorem dX10_middle_38 : decode cX10_middle 38 = .ok (.laload, 1) := by decide +kernel
theorem dX10_middle_39 : decode cX10_middle 39 = .ok (.lcmp, 1) := by decide +kernel
theorem dX10_middle_40 : decode cX10_middle 40 = .ok (.ifCond .ge 75, 3) := by decide +kernel
theorem dX10_middle_43 : decode cX10_middle 43 = .ok (.aload_n 0, 1) := by decide +kernel
theorem dX10_middle_44 : decode cX10_middle 44 = .ok (.iload 4, 2) := by decide +kernel
theorem dX10_middle_46 : decode cX10_middle 46 = .ok (.invokevirtual 164, 3) := by decide +kernel
theorem dX10_middle_49 : decode cX10_middle 49 = .ok (.aload_n 0, 1) := by decide +kernel
theorem dX10_middle_50 : decode cX10_middle 50 = .ok (.iload_n 2, 1) := by decide +kernel
theorem dX10_middle_51 : decode cX10_middle 51 = .ok (.invokevirtual 164, 3) := by decide +kernel
theorem dX10_middle_54 : decode cX10_middle 54 = .ok (.lcmp, 1) := by decide +kernel
theorem dX10_middle_55 : decode cX10_middle 55 = .ok (.ifCond .lt 24, 3) := by decide +kernel
theorem dX10_middle_58 : decode cX10_middle 58 = .ok (.aload_n 0, 1) := by decide +kernel
theorem dX10_middle_59 : decode cX10_middle 59 = .ok (.iload 4, 2) := by decide +kernel
theorem dX10_middle_61 : decode cX10_middle 61 = .ok (.invokevirtual 164, 3) := by decide +kernel
theorem dX10_middle_64 : decode cX10_middle 64 = .ok (.aload_n 0, 1) := by decide +kernel
theorem dX10_middle_65 : decode cX10_middle 65 = .ok (.iload_n 2, 1) := by decide +kernel
theorem dX10_middle_66 : decode cX10_middle 66 = .ok (.invokevirtual 164, 3) := by decide +kernel
theorem dX10_middle_69 : decode cX10_middle 69 = .ok (.lcmp, 1) := by decide +kernel
theorem dX10_middle_70 : decode cX10_middle 70 = .ok (.ifCond .ne 13, 3) := by decide +kernel
theorem dX10_middle_73 : decode cX10_middle 73 = .ok (.iload 4, 2) := by decide +kernel
theorem dX10_middle_75 : decode cX10_middle 75 = .ok (.iload_n 2, 1) := by decide +kernel
theorem dX10_middle_76 : decode cX10_middle 76 = .ok (.if_icmp .ge 7, 3) := by decide +kernel
theorem dX10_middle_79 : decode cX10_middle 79 = .ok (.iconst 1, 1) := by decide +kernel
theorem dX10_middle_80 : decode cX10_middle 80 = .ok (.goto 4, 3) := by decide +kernel
theorem dX10_middle_83 : decode cX10_middle 83 = .ok (.iconst 0, 1) := by decide +kernel
theorem dX10_middle_84 : decode cX10_middle 84 = .ok (.istore 5, 2) := by decide +kernel
theorem dX10_middle_86 : decode cX10_middle 86 = .ok (.iload_n 3, 1) := by decide +kernel
theorem dX10_middle_87 : decode cX10_middle 87 = .ok (.aload_n 0, 1) := by decide +kernel
theorem dX10_middle_88 : decode cX10_middle 88 = .ok (.getfield 20, 3) := by decide +kernel
theorem dX10_middle_91 : decode cX10_middle 91 = .ok (.iload 4, 2) := by decide +kernel
theorem dX10_middle_93 : decode cX10_middle 93 = .ok (.baload, 1) := by decide +kernel
theorem dX10_middle_94 : decode cX10_middle 94 = .ok (.ifCond .ne 12, 3) := by decide +kernel
theorem dX10_middle_97 : decode cX10_middle 97 = .ok (.iload 5, 2) := by decide +kernel
theorem dX10_middle_99 : decode cX10_middle 99 = .ok (.ifCond .eq 7, 3) := by decide +kernel
theorem dX10_middle_102 : decode cX10_middle 102 = .ok (.iconst 1, 1) := by decide +kernel
theorem dX10_middle_103 : decode cX10_middle 103 = .ok (.goto 4, 3) := by decide +kernel
theorem dX10_middle_106 : decode cX10_middle 106 = .ok (.iconst 0, 1) := by decide +kernel
theorem dX10_middle_107 : decode cX10_middle 107 = .ok (.iadd, 1) := by decide +kernel
theorem dX10_middle_108 : decode cX10_middle 108 = .ok (.istore_n 3, 1) := by decide +kernel
theorem dX10_middle_109 : decode cX10_middle 109 = .ok (.iinc 4 1, 3) := by decide +kernel
theorem dX10_middle_112 : decode cX10_middle 112 = .ok (.goto (-83), 3) := by decide +kernel
theorem dX10_middle_115 : decode cX10_middle 115 = .ok (.aload_n 0, 1) := by decide +kernel
theorem dX10_middle_116 : decode cX10_middle 116 = .ok (.getfield 20, 3) := by decide +kernel
theorem dX10_middle_119 : decode cX10_middle 119 = .ok (.iload_n 2, 1) := by decide +kernel
theorem dX10_middle_120 : decode cX10_middle 120 = .ok (.baload, 1) := by decide +kernel
theorem dX10_middle_121 : decode cX10_middle 121 = .ok (.ifCond .ne 14, 3) := by decide +kernel
theorem dX10_middle_124 : decode cX10_middle 124 = .ok (.iload_n 3, 1) := by decide +kernel
theorem dX10_middle_125 : decode cX10_middle 125 = .ok (.iload_n 1, 1) := by decide +kernel
theorem dX10_middle_126 : decode cX10_middle 126 = .ok (.if_icmp .ne 9, 3) := by decide +kernel
theorem dX10_middle_129 : decode cX10_middle 129 = .ok (.aload_n 0, 1) := by decide +kernel
theorem dX10_middle_130 : decode cX10_middle 130 = .ok (.iload_n 2, 1) := by decide +kernel
theorem dX10_middle_131 : decode cX10_middle 131 = .ok (.invokevirtual 164, 3) := by decide +kernel
theorem dX10_middle_134 : decode cX10_middle 134 = .ok (.lreturn, 1) := by decide +kernel
theorem dX10_middle_135 : decode cX10_middle 135 = .ok (.iinc 2 1, 3) := by decide +kernel
theorem dX10_middle_138 : decode cX10_middle 138 = .ok (.goto (-127), 3) := by decide +kernel
theorem dX10_middle_141 : decode cX10_middle 141 = .ok (.lconst 0, 1) := by decide +kernel
theorem dX10_middle_142 : decode cX10_middle 142 = .ok (.lreturn, 1) := by decide +kernel
theorem dX10_layMean_0 : decode cX10_layMean 0 = .ok (.iconst 0, 1) := by decide +kernel
theorem dX10_layMean_1 : decode cX10_layMean 1 = .ok (.istore_n 1, 1) := by decide +kernel
theorem dX10_layMean_2 : decode cX10_layMean 2 = .ok (.iload_n 1, 1) := by decide +kernel
theorem dX10_layMean_3 : decode cX10_layMean 3 = .ok (.bipush 12, 2) := by decide +kernel
theorem dX10_layMean_5 : decode cX10_layMean 5 = .ok (.if_icmp .ge 16, 3) := by decide +kernel
theorem dX10_layMean_8 : decode cX10_layMean 8 = .ok (.aload_n 0, 1) := by decide +kernel
theorem dX10_layMean_9 : decode cX10_layMean 9 = .ok (.getfield 20, 3) := by decide +kernel
theorem dX10_layMean_12 : decode cX10_layMean 12 = .ok (.iload_n 1, 1) := by decide +kernel
theorem dX10_layMean_13 : decode cX10_layMean 13 = .ok (.iconst 0, 1) := by decide +kernel
theorem dX10_layMean_14 : decode cX10_layMean 14 = .ok (.bastore, 1) := by decide +kernel
theorem dX10_layMean_15 : decode cX10_layMean 15 = .ok (.iinc 1 1, 3) := by decide +kernel
theorem dX10_layMean_18 : decode cX10_layMean 18 = .ok (.goto (-16), 3) := by decide +kernel
theorem dX10_layMean_21 : decode cX10_layMean 21 = .ok (.iconst 1, 1) := by decide +kernel
theorem dX10_layMean_22 : decode cX10_layMean 22 = .ok (.istore_n 1, 1) := by decide +kernel
theorem dX10_layMean_23 : decode cX10_layMean 23 = .ok (.iload_n 1, 1) := by decide +kernel
theorem dX10_layMean_24 : decode cX10_layMean 24 = .ok (.ifCond .eq 124, 3) := by decide +kernel
theorem dX10_layMean_27 : decode cX10_layMean 27 = .ok (.aload_n 0, 1) := by decide +kernel
theorem dX10_layMean_28 : decode cX10_layMean 28 = .ok (.invokevirtual 161, 3) := by decide +kernel
theorem dX10_layMean_31 : decode cX10_layMean 31 = .ok (.iconst 2, 1) := by decide +kernel
theorem dX10_layMean_32 : decode cX10_layMean 32 = .ok (.if_icmp .le 116, 3) := by decide +kernel
theorem dX10_layMean_35 : decode cX10_layMean 35 = .ok (.aload_n 0, 1) := by decide +kernel
theorem dX10_layMean_36 : decode cX10_layMean 36 = .ok (.invokevirtual 167, 3) := by decide +kernel
theorem dX10_layMean_39 : decode cX10_layMean 39 = .ok (.lstore_n 2, 1) := by decide +kernel
theorem dX10_layMean_40 : decode cX10_layMean 40 = .ok (.iconst (-1), 1) := by decide +kernel
theorem dX10_layMean_41 : decode cX10_layMean 41 = .ok (.istore 4, 2) := by decide +kernel
theorem dX10_layMean_43 : decode cX10_layMean 43 = .ok (.lconst 0, 1) := by decide +kernel
theorem dX10_layMean_44 : decode cX10_layMean 44 = .ok (.lstore 5, 2) := by decide +kernel
theorem dX10_layMean_46 : decode cX10_layMean 46 = .ok (.iconst 0, 1) := by decide +kernel
theorem dX10_layMean_47 : decode cX10_layMean 47 = .ok (.istore 7, 2) := by decide +kernel
theorem dX10_layMean_49 : decode cX10_layMean 49 = .ok (.iload 7, 2) := by decide +kernel
theorem dX10_layMean_51 : decode cX10_layMean 51 = .ok (.i2l, 1) := by decide +kernel
theorem dX10_layMean_52 : decode cX10_layMean 52 = .ok (.aload_n 0, 1) := by decide +kernel
theorem dX10_layMean_53 : decode cX10_layMean 53 = .ok (.getfield 7, 3) := by decide +kernel
theorem dX10_layMean_56 : decode cX10_layMean 56 = .ok (.bipush 69, 2) := by decide +kernel
theorem dX10_layMean_58 : decode cX10_layMean 58 = .ok (.laload, 1) := by decide +kernel
theorem dX10_layMean_59 : decode cX10_layMean 59 = .ok (.lcmp, 1) := by decide +kernel
theorem dX10_layMean_60 : decode cX10_layMean 60 = .ok (.ifCond .ge 54, 3) := by decide +kernel
theorem dX10_layMean_63 : decode cX10_layMean 63 = .ok (.aload_n 0, 1) := by decide +kernel
theorem dX10_layMean_64 : decode cX10_layMean 64 = .ok (.iload 7, 2) := by decide +kernel
theorem dX10_layMean_66 : decode cX10_layMean 66 = .ok (.invokevirtual 164, 3) := by decide +kernel
theorem dX10_layMean_69 : decode cX10_layMean 69 = .ok (.lload_n 2, 1) := by decide +kernel
theorem dX10_layMean_70 : decode cX10_layMean 70 = .ok (.lsub, 1) := by decide +kernel
theorem dX10_layMean_71 : decode cX10_layMean 71 = .ok (.invokestatic 61, 3) := by decide +kernel
theorem dX10_layMean_74 : decode cX10_layMean 74 = .ok (.lstore 8, 2) := by decide +kernel
theorem dX10_layMean_76 : decode cX10_layMean 76 = .ok (.aload_n 0, 1) := by decide +kernel
theorem dX10_layMean_77 : decode cX10_layMean 77 = .ok (.getfield 20, 3) := by decide +kernel
theorem dX10_layMean_80 : decode cX10_layMean 80 = .ok (.iload 7, 2) := by decide +kernel
theorem dX10_layMean_82 : decode cX10_layMean 82 = .ok (.baload, 1) := by decide +kernel
theorem dX10_layMean_83 : decode cX10_layMean 83 = .ok (.ifCond .ne 25, 3) := by decide +kernel
theorem dX10_layMean_86 : decode cX10_layMean 86 = .ok (.iload 4, 2) := by decide +kernel
theorem dX10_layMean_88 : decode cX10_layMean 88 = .ok (.iconst (-1), 1) := by decide +kernel
theorem dX10_layMean_89 : decode cX10_layMean 89 = .ok (.if_icmp .eq 11, 3) := by decide +kernel
theorem dX10_layMean_92 : decode cX10_layMean 92 = .ok (.lload 8, 2) := by decide +kernel
theorem dX10_layMean_94 : decode cX10_layMean 94 = .ok (.lload 5, 2) := by decide +kernel
theorem dX10_layMean_96 : decode cX10_layMean 96 = .ok (.lcmp, 1) := by decide +kernel
theorem dX10_layMean_97 : decode cX10_layMean 97 = .ok (.ifCond .le 11, 3) := by decide +kernel
theorem dX10_layMean_100 : decode cX10_layMean 100 = .ok (.iload 7, 2) := by decide +kernel
theorem dX10_layMean_102 : decode cX10_layMean 102 = .ok (.istore 4, 2) := by decide +kernel
theorem dX10_layMean_104 : decode cX10_layMean 104 = .ok (.lload 8, 2) := by decide +kernel
theorem dX10_layMean_106 : decode cX10_layMean 106 = .ok (.lstore 5, 2) := by decide +kernel
theorem dX10_layMean_108 : decode cX10_layMean 108 = .ok (.iinc 7 1, 3) := by decide +kernel
theorem dX10_layMean_111 : decode cX10_layMean 111 = .ok (.goto (-62), 3) := by decide +kernel
theorem dX10_layMean_114 : decode cX10_layMean 114 = .ok (.lload 5, 2) := by decide +kernel
theorem dX10_layMean_116 : decode cX10_layMean 116 = .ok (.aload_n 0, 1) := by decide +kernel
theorem dX10_layMean_117 : decode cX10_layMean 117 = .ok (.getfield 7, 3) := by decide +kernel
theorem dX10_layMean_120 : decode cX10_layMean 120 = .ok (.bipush 7, 2) := by decide +kernel
theorem dX10_layMean_122 : decode cX10_layMean 122 = .ok (.laload, 1) := by decide +kernel
theorem dX10_layMean_123 : decode cX10_layMean 123 = .ok (.lcmp, 1) := by decide +kernel
theorem dX10_layMean_124 : decode cX10_layMean 124 = .ok (.ifCond .le 7, 3) := by decide +kernel
theorem dX10_layMean_127 : decode cX10_layMean 127 = .ok (.iconst 1, 1) := by decide +kernel
theorem dX10_layMean_128 : decode cX10_layMean 128 = .ok (.goto 4, 3) := by decide +kernel
theorem dX10_layMean_131 : decode cX10_layMean 131 = .ok (.iconst 0, 1) := by decide +kernel
theorem dX10_layMean_132 : decode cX10_layMean 132 = .ok (.istore_n 1, 1) := by decide +kernel
theorem dX10_layMean_133 : decode cX10_layMean 133 = .ok (.iload_n 1, 1) := by decide +kernel
theorem dX10_layMean_134 : decode cX10_layMean 134 = .ok (.ifCond .eq 11, 3) := by decide +kernel
theorem dX10_layMean_137 : decode cX10_layMean 137 = .ok (.aload_n 0, 1) := by decide +kernel
theorem dX10_layMean_138 : decode cX10_layMean 138 = .ok (.getfield 20, 3) := by decide +kernel
theorem dX10_layMean_141 : decode cX10_layMean 141 = .ok (.iload 4, 2) := by decide +kernel
theorem dX10_layMean_143 : decode cX10_layMean 143 = .ok (.iconst 1, 1) := by decide +kernel
theorem dX10_layMean_144 : decode cX10_layMean 144 = .ok (.bastore, 1) := by decide +kernel
theorem dX10_layMean_145 : decode cX10_layMean 145 = .ok (.goto (-122), 3) := by decide +kernel
theorem dX10_layMean_148 : decode cX10_layMean 148 = .ok (.return_, 1) := by decide +kernel
theorem dX10_mean_0 : decode cX10_mean 0 = .ok (.aload_n 0, 1) := by decide +kernel
theorem dX10_mean_1 : decode cX10_mean 1 = .ok (.invokevirtual 170, 3) := by decide +kernel
theorem dX10_mean_4 : decode cX10_mean 4 = .ok (.lconst 0, 1) := by decide +kernel
theorem dX10_mean_5 : decode cX10_mean 5 = .ok (.lstore_n 1, 1) := by decide +kernel
theorem dX10_mean_6 : decode cX10_mean 6 = .ok (.iconst 0, 1) := by decide +kernel
theorem dX10_mean_7 : decode cX10_mean 7 = .ok (.istore_n 3, 1) := by decide +kernel
theorem dX10_mean_8 : decode cX10_mean 8 = .ok (.iload_n 3, 1) := by decide +kernel
theorem dX10_mean_9 : decode cX10_mean 9 = .ok (.i2l, 1) := by decide +kernel
theorem dX10_mean_10 : decode cX10_mean 10 = .ok (.aload_n 0, 1) := by decide +kernel
theorem dX10_mean_11 : decode cX10_mean 11 = .ok (.getfield 7, 3) := by decide +kernel
theorem dX10_mean_14 : decode cX10_mean 14 = .ok (.bipush 69, 2) := by decide +kernel
theorem dX10_mean_16 : decode cX10_mean 16 = .ok (.laload, 1) := by decide +kernel
theorem dX10_mean_17 : decode cX10_mean 17 = .ok (.lcmp, 1) := by decide +kernel
theorem dX10_mean_18 : decode cX10_mean 18 = .ok (.ifCond .ge 30, 3) := by decide +kernel
theorem dX10_mean_21 : decode cX10_mean 21 = .ok (.lload_n 1, 1) := by decide +kernel
theorem dX10_mean_22 : decode cX10_mean 22 = .ok (.aload_n 0, 1) := by decide +kernel
theorem dX10_mean_23 : decode cX10_mean 23 = .ok (.getfield 20, 3) := by decide +kernel
theorem dX10_mean_26 : decode cX10_mean 26 = .ok (.iload_n 3, 1) := by decide +kernel
theorem dX10_mean_27 : decode cX10_mean 27 = .ok (.baload, 1) := by decide +kernel
theorem dX10_mean_28 : decode cX10_mean 28 = .ok (.ifCond .eq 7, 3) := by decide +kernel
theorem dX10_mean_31 : decode cX10_mean 31 = .ok (.lconst 0, 1) := by decide +kernel
theorem dX10_mean_32 : decode cX10_mean 32 = .ok (.goto 8, 3) := by decide +kernel
theorem dX10_mean_35 : decode cX10_mean 35 = .ok (.aload_n 0, 1) := by decide +kernel
theorem dX10_mean_36 : decode cX10_mean 36 = .ok (.iload_n 3, 1) := by decide +kernel
theorem dX10_mean_37 : decode cX10_mean 37 = .ok (.invokevirtual 164, 3) := by decide +kernel
theorem dX10_mean_40 : decode cX10_mean 40 = .ok (.ladd, 1) := by decide +kernel
theorem dX10_mean_41 : decode cX10_mean 41 = .ok (.lstore_n 1, 1) := by decide +kernel
theorem dX10_mean_42 : decode cX10_mean 42 = .ok (.iinc 3 1, 3) := by decide +kernel
theorem dX10_mean_45 : decode cX10_mean 45 = .ok (.goto (-37), 3) := by decide +kernel
theorem dX10_mean_48 : decode cX10_mean 48 = .ok (.aload_n 0, 1) := by decide +kernel
theorem dX10_mean_49 : decode cX10_mean 49 = .ok (.getfield 7, 3) := by decide +kernel
theorem dX10_mean_52 : decode cX10_mean 52 = .ok (.bipush 69, 2) := by decide +kernel
theorem dX10_mean_54 : decode cX10_mean 54 = .ok (.laload, 1) := by decide +kernel
theorem dX10_mean_55 : decode cX10_mean 55 = .ok (.lconst 0, 1) := by decide +kernel
theorem dX10_mean_56 : decode cX10_mean 56 = .ok (.lcmp, 1) := by decide +kernel
theorem dX10_mean_57 : decode cX10_mean 57 = .ok (.ifCond .ne 7, 3) := by decide +kernel
theorem dX10_mean_60 : decode cX10_mean 60 = .ok (.lconst 0, 1) := by decide +kernel
theorem dX10_mean_61 : decode cX10_mean 61 = .ok (.goto 10, 3) := by decide +kernel
theorem dX10_mean_64 : decode cX10_mean 64 = .ok (.lload_n 1, 1) := by decide +kernel
theorem dX10_mean_65 : decode cX10_mean 65 = .ok (.aload_n 0, 1) := by decide +kernel
theorem dX10_mean_66 : decode cX10_mean 66 = .ok (.invokevirtual 161, 3) := by decide +kernel
theorem dX10_mean_69 : decode cX10_mean 69 = .ok (.i2l, 1) := by decide +kernel
theorem dX10_mean_70 : decode cX10_mean 70 = .ok (.ldiv, 1) := by decide +kernel
theorem dX10_mean_71 : decode cX10_mean 71 = .ok (.lreturn, 1) := by decide +kernel
theorem dX10_save_0 : decode cX10_save 0 = .ok (.aload_n 0, 1) := by decide +kernel
theorem dX10_save_1 : decode cX10_save 1 = .ok (.getfield 173, 3) := by decide +kernel
theorem dX10_save_4 : decode cX10_save 4 = .ok (.bipush 6, 2) := by decide +kernel
theorem dX10_save_6 : decode cX10_save 6 = .ok (.if_icmp .ne 44, 3) := by decide +kernel
theorem dX10_save_9 : decode cX10_save 9 = .ok (.bipush 106, 2) := by decide +kernel
theorem dX10_save_11 : decode cX10_save 11 = .ok (.istore_n 1, 1) := by decide +kernel
theorem dX10_save_12 : decode cX10_save 12 = .ok (.iload_n 1, 1) := by decide +kernel
theorem dX10_save_13 : decode cX10_save 13 = .ok (.sipush 636, 3) := by decide +kernel
theorem dX10_save_16 : decode cX10_save 16 = .ok (.if_icmp .ge 24, 3) := by decide +kernel
theorem dX10_save_19 : decode cX10_save 19 = .ok (.aload_n 0, 1) := by decide +kernel
theorem dX10_save_20 : decode cX10_save 20 = .ok (.getfield 13, 3) := by decide +kernel
theorem dX10_save_23 : decode cX10_save 23 = .ok (.iload_n 1, 1) := by decide +kernel
theorem dX10_save_24 : decode cX10_save 24 = .ok (.bipush 106, 2) := by decide +kernel
theorem dX10_save_26 : decode cX10_save 26 = .ok (.isub, 1) := by decide +kernel
theorem dX10_save_27 : decode cX10_save 27 = .ok (.aload_n 0, 1) := by decide +kernel
theorem dX10_save_28 : decode cX10_save 28 = .ok (.getfield 13, 3) := by decide +kernel
theorem dX10_save_31 : decode cX10_save 31 = .ok (.iload_n 1, 1) := by decide +kernel
theorem dX10_save_32 : decode cX10_save 32 = .ok (.laload, 1) := by decide +kernel
theorem dX10_save_33 : decode cX10_save 33 = .ok (.lastore, 1) := by decide +kernel
theorem dX10_save_34 : decode cX10_save 34 = .ok (.iinc 1 1, 3) := by decide +kernel
theorem dX10_save_37 : decode cX10_save 37 = .ok (.goto (-25), 3) := by decide +kernel
theorem dX10_save_40 : decode cX10_save 40 = .ok (.aload_n 0, 1) := by decide +kernel
theorem dX10_save_41 : decode cX10_save 41 = .ok (.dup, 1) := by decide +kernel
theorem dX10_save_42 : decode cX10_save 42 = .ok (.getfield 173, 3) := by decide +kernel
theorem dX10_save_45 : decode cX10_save 45 = .ok (.iconst 1, 1) := by decide +kernel
theorem dX10_save_46 : decode cX10_save 46 = .ok (.isub, 1) := by decide +kernel
theorem dX10_save_47 : decode cX10_save 47 = .ok (.putfield 173, 3) := by decide +kernel
theorem dX10_save_50 : decode cX10_save 50 = .ok (.iconst 0, 1) := by decide +kernel
theorem dX10_save_51 : decode cX10_save 51 = .ok (.istore_n 1, 1) := by decide +kernel
theorem dX10_save_52 : decode cX10_save 52 = .ok (.iload_n 1, 1) := by decide +kernel
theorem dX10_save_53 : decode cX10_save 53 = .ok (.bipush 106, 2) := by decide +kernel
theorem dX10_save_55 : decode cX10_save 55 = .ok (.if_icmp .ge 29, 3) := by decide +kernel
theorem dX10_save_58 : decode cX10_save 58 = .ok (.aload_n 0, 1) := by decide +kernel
theorem dX10_save_59 : decode cX10_save 59 = .ok (.getfield 13, 3) := by decide +kernel
theorem dX10_save_62 : decode cX10_save 62 = .ok (.bipush 106, 2) := by decide +kernel
theorem dX10_save_64 : decode cX10_save 64 = .ok (.aload_n 0, 1) := by decide +kernel
theorem dX10_save_65 : decode cX10_save 65 = .ok (.getfield 173, 3) := by decide +kernel
theorem dX10_save_68 : decode cX10_save 68 = .ok (.imul, 1) := by decide +kernel
theorem dX10_save_69 : decode cX10_save 69 = .ok (.iload_n 1, 1) := by decide +kernel
theorem dX10_save_70 : decode cX10_save 70 = .ok (.iadd, 1) := by decide +kernel
theorem dX10_save_71 : decode cX10_save 71 = .ok (.aload_n 0, 1) := by decide +kernel
theorem dX10_save_72 : decode cX10_save 72 = .ok (.getfield 7, 3) := by decide +kernel
theorem dX10_save_75 : decode cX10_save 75 = .ok (.iload_n 1, 1) := by decide +kernel
theorem dX10_save_76 : decode cX10_save 76 = .ok (.laload, 1) := by decide +kernel
theorem dX10_save_77 : decode cX10_save 77 = .ok (.lastore, 1) := by decide +kernel
theorem dX10_save_78 : decode cX10_save 78 = .ok (.iinc 1 1, 3) := by decide +kernel
theorem dX10_save_81 : decode cX10_save 81 = .ok (.goto (-29), 3) := by decide +kernel
theorem dX10_save_84 : decode cX10_save 84 = .ok (.aload_n 0, 1) := by decide +kernel
theorem dX10_save_85 : decode cX10_save 85 = .ok (.dup, 1) := by decide +kernel
theorem dX10_save_86 : decode cX10_save 86 = .ok (.getfield 173, 3) := by decide +kernel
theorem dX10_save_89 : decode cX10_save 89 = .ok (.iconst 1, 1) := by decide +kernel
theorem dX10_save_90 : decode cX10_save 90 = .ok (.iadd, 1) := by decide +kernel
theorem dX10_save_91 : decode cX10_save 91 = .ok (.putfield 173, 3) := by decide +kernel
theorem dX10_save_94 : decode cX10_save 94 = .ok (.return_, 1) := by decide +kernel
theorem dX10_undo_0 : decode cX10_undo 0 = .ok (.aload_n 0, 1) := by decide +kernel
theorem dX10_undo_1 : decode cX10_undo 1 = .ok (.aload_n 0, 1) := by decide +kernel
theorem dX10_undo_2 : decode cX10_undo 2 = .ok (.getfield 173, 3) := by decide +kernel
theorem dX10_undo_5 : decode cX10_undo 5 = .ok (.ifCond .le 7, 3) := by decide +kernel
theorem dX10_undo_8 : decode cX10_undo 8 = .ok (.iconst 0, 1) := by decide +kernel
theorem dX10_undo_9 : decode cX10_undo 9 = .ok (.goto 4, 3) := by decide +kernel
theorem dX10_undo_12 : decode cX10_undo 12 = .ok (.iconst 1, 1) := by decide +kernel
theorem dX10_undo_13 : decode cX10_undo 13 = .ok (.putfield 35, 3) := by decide +kernel
theorem dX10_undo_16 : decode cX10_undo 16 = .ok (.aload_n 0, 1) := by decide +kernel
theorem dX10_undo_17 : decode cX10_undo 17 = .ok (.getfield 35, 3) := by decide +kernel
theorem dX10_undo_20 : decode cX10_undo 20 = .ok (.ifCond .le 5, 3) := by decide +kernel
theorem dX10_undo_23 : decode cX10_undo 23 = .ok (.iconst 0, 1) := by decide +kernel
theorem dX10_undo_24 : decode cX10_undo 24 = .ok (.ireturn, 1) := by decide +kernel
theorem dX10_undo_25 : decode cX10_undo 25 = .ok (.aload_n 0, 1) := by decide +kernel
theorem dX10_undo_26 : decode cX10_undo 26 = .ok (.dup, 1) := by decide +kernel
theorem dX10_undo_27 : decode cX10_undo 27 = .ok (.getfield 173, 3) := by decide +kernel
theorem dX10_undo_30 : decode cX10_undo 30 = .ok (.iconst 1, 1) := by decide +kernel
theorem dX10_undo_31 : decode cX10_undo 31 = .ok (.isub, 1) := by decide +kernel
theorem dX10_undo_32 : decode cX10_undo 32 = .ok (.putfield 173, 3) := by decide +kernel
theorem dX10_undo_35 : decode cX10_undo 35 = .ok (.iconst 0, 1) := by decide +kernel
theorem dX10_undo_36 : decode cX10_undo 36 = .ok (.istore_n 1, 1) := by decide +kernel
theorem dX10_undo_37 : decode cX10_undo 37 = .ok (.iload_n 1, 1) := by decide +kernel
theorem dX10_undo_38 : decode cX10_undo 38 = .ok (.bipush 106, 2) := by decide +kernel
theorem dX10_undo_40 : decode cX10_undo 40 = .ok (.if_icmp .ge 29, 3) := by decide +kernel
theorem dX10_undo_43 : decode cX10_undo 43 = .ok (.aload_n 0, 1) := by decide +kernel
theorem dX10_undo_44 : decode cX10_undo 44 = .ok (.getfield 7, 3) := by decide +kernel
theorem dX10_undo_47 : decode cX10_undo 47 = .ok (.iload_n 1, 1) := by decide +kernel
theorem dX10_undo_48 : decode cX10_undo 48 = .ok (.aload_n 0, 1) := by decide +kernel
theorem dX10_undo_49 : decode cX10_undo 49 = .ok (.getfield 13, 3) := by decide +kernel
theorem dX10_undo_52 : decode cX10_undo 52 = .ok (.bipush 106, 2) := by decide +kernel
theorem dX10_undo_54 : decode cX10_undo 54 = .ok (.aload_n 0, 1) := by decide +kernel
theorem dX10_undo_55 : decode cX10_undo 55 = .ok (.getfield 173, 3) := by decide +kernel
theorem dX10_undo_58 : decode cX10_undo 58 = .ok (.imul, 1) := by decide +kernel
theorem dX10_undo_59 : decode cX10_undo 59 = .ok (.iload_n 1, 1) := by decide +kernel
theorem dX10_undo_60 : decode cX10_undo 60 = .ok (.iadd, 1) := by decide +kernel
theorem dX10_undo_61 : decode cX10_undo 61 = .ok (.laload, 1) := by decide +kernel
theorem dX10_undo_62 : decode cX10_undo 62 = .ok (.lastore, 1) := by decide +kernel
theorem dX10_undo_63 : decode cX10_undo 63 = .ok (.iinc 1 1, 3) := by decide +kernel
theorem dX10_undo_66 : decode cX10_undo 66 = .ok (.goto (-29), 3) := by decide +kernel
theorem dX10_undo_69 : decode cX10_undo 69 = .ok (.aload_n 0, 1) := by decide +kernel
theorem dX10_undo_70 : decode cX10_undo 70 = .ok (.getfield 173, 3) := by decide +kernel
theorem dX10_undo_73 : decode cX10_undo 73 = .ok (.ireturn, 1) := by decide +kernel
theorem dX10_dropRuns_0 : decode cX10_dropRuns 0 = .ok (.aload_n 0, 1) := by decide +kernel
theorem dX10_dropRuns_1 : decode cX10_dropRuns 1 = .ok (.getfield 7, 3) := by decide +kernel
theorem dX10_dropRuns_4 : decode cX10_dropRuns 4 = .ok (.bipush 69, 2) := by decide +kernel
theorem dX10_dropRuns_6 : decode cX10_dropRuns 6 = .ok (.laload, 1) := by decide +kernel
theorem dX10_dropRuns_7 : decode cX10_dropRuns 7 = .ok (.l2i, 1) := by decide +kernel
theorem dX10_dropRuns_8 : decode cX10_dropRuns 8 = .ok (.istore_n 1, 1) := by decide +kernel
theorem dX10_dropRuns_9 : decode cX10_dropRuns 9 = .ok (.aload_n 0, 1) := by decide +kernel
theorem dX10_dropRuns_10 : decode cX10_dropRuns 10 = .ok (.getfield 7, 3) := by decide +kernel
theorem dX10_dropRuns_13 : decode cX10_dropRuns 13 = .ok (.bipush 69, 2) := by decide +kernel
theorem dX10_dropRuns_15 : decode cX10_dropRuns 15 = .ok (.lconst 0, 1) := by decide +kernel
theorem dX10_dropRuns_16 : decode cX10_dropRuns 16 = .ok (.lastore, 1) := by decide +kernel
theorem dX10_dropRuns_17 : decode cX10_dropRuns 17 = .ok (.iload_n 1, 1) := by decide +kernel
theorem dX10_dropRuns_18 : decode cX10_dropRuns 18 = .ok (.ireturn, 1) := by decide +kernel
theorem dX10_setAnchor_0 : decode cX10_setAnchor 0 = .ok (.aload_n 0, 1) := by decide +kernel
theorem dX10_setAnchor_1 : decode cX10_setAnchor 1 = .ok (.iload_n 1, 1) := by decide +kernel
theorem dX10_setAnchor_2 : decode cX10_setAnchor 2 = .ok (.i2l, 1) := by decide +kernel
theorem dX10_setAnchor_3 : decode cX10_setAnchor 3 = .ok (.ldc2_w 176, 3) := by decide +kernel
theorem dX10_setAnchor_6 : decode cX10_setAnchor 6 = .ok (.ldc2_w 178, 3) := by decide +kernel
theorem dX10_setAnchor_9 : decode cX10_setAnchor 9 = .ok (.invokestatic 43, 3) := by decide +kernel
theorem dX10_setAnchor_12 : decode cX10_setAnchor 12 = .ok (.ifCond .eq 21, 3) := by decide +kernel
theorem dX10_setAnchor_15 : decode cX10_setAnchor 15 = .ok (.iload_n 2, 1) := by decide +kernel
theorem dX10_setAnchor_16 : decode cX10_setAnchor 16 = .ok (.i2l, 1) := by decide +kernel
theorem dX10_setAnchor_17 : decode cX10_setAnchor 17 = .ok (.ldc2_w 176, 3) := by decide +kernel
theorem dX10_setAnchor_20 : decode cX10_setAnchor 20 = .ok (.ldc2_w 178, 3) := by decide +kernel
theorem dX10_setAnchor_23 : decode cX10_setAnchor 23 = .ok (.invokestatic 43, 3) := by decide +kernel
theorem dX10_setAnchor_26 : decode cX10_setAnchor 26 = .ok (.ifCond .eq 7, 3) := by decide +kernel
theorem dX10_setAnchor_29 : decode cX10_setAnchor 29 = .ok (.iconst 0, 1) := by decide +kernel
theorem dX10_setAnchor_30 : decode cX10_setAnchor 30 = .ok (.goto 4, 3) := by decide +kernel
theorem dX10_setAnchor_33 : decode cX10_setAnchor 33 = .ok (.iconst 1, 1) := by decide +kernel
theorem dX10_setAnchor_34 : decode cX10_setAnchor 34 = .ok (.putfield 35, 3) := by decide +kernel
theorem dX10_setAnchor_37 : decode cX10_setAnchor 37 = .ok (.aload_n 0, 1) := by decide +kernel
theorem dX10_setAnchor_38 : decode cX10_setAnchor 38 = .ok (.getfield 35, 3) := by decide +kernel
theorem dX10_setAnchor_41 : decode cX10_setAnchor 41 = .ok (.ifCond .le 5, 3) := by decide +kernel
theorem dX10_setAnchor_44 : decode cX10_setAnchor 44 = .ok (.iconst 0, 1) := by decide +kernel
theorem dX10_setAnchor_45 : decode cX10_setAnchor 45 = .ok (.ireturn, 1) := by decide +kernel
theorem dX10_setAnchor_46 : decode cX10_setAnchor 46 = .ok (.aload_n 0, 1) := by decide +kernel
theorem dX10_setAnchor_47 : decode cX10_setAnchor 47 = .ok (.invokevirtual 180, 3) := by decide +kernel
theorem dX10_setAnchor_50 : decode cX10_setAnchor 50 = .ok (.aload_n 0, 1) := by decide +kernel
theorem dX10_setAnchor_51 : decode cX10_setAnchor 51 = .ok (.getfield 7, 3) := by decide +kernel
theorem dX10_setAnchor_54 : decode cX10_setAnchor 54 = .ok (.iconst 0, 1) := by decide +kernel
theorem dX10_setAnchor_55 : decode cX10_setAnchor 55 = .ok (.iload_n 1, 1) := by decide +kernel
theorem dX10_setAnchor_56 : decode cX10_setAnchor 56 = .ok (.i2l, 1) := by decide +kernel
theorem dX10_setAnchor_57 : decode cX10_setAnchor 57 = .ok (.lastore, 1) := by decide +kernel
theorem dX10_setAnchor_58 : decode cX10_setAnchor 58 = .ok (.aload_n 0, 1) := by decide +kernel
theorem dX10_setAnchor_59 : decode cX10_setAnchor 59 = .ok (.getfield 7, 3) := by decide +kernel
theorem dX10_setAnchor_62 : decode cX10_setAnchor 62 = .ok (.iconst 1, 1) := by decide +kernel
theorem dX10_setAnchor_63 : decode cX10_setAnchor 63 = .ok (.iload_n 2, 1) := by decide +kernel
theorem dX10_setAnchor_64 : decode cX10_setAnchor 64 = .ok (.i2l, 1) := by decide +kernel
theorem dX10_setAnchor_65 : decode cX10_setAnchor 65 = .ok (.lastore, 1) := by decide +kernel
theorem dX10_setAnchor_66 : decode cX10_setAnchor 66 = .ok (.aload_n 0, 1) := by decide +kernel
theorem dX10_setAnchor_67 : decode cX10_setAnchor 67 = .ok (.invokevirtual 183, 3) := by decide +kernel
theorem dX10_setAnchor_70 : decode cX10_setAnchor 70 = .ok (.ireturn, 1) := by decide +kernel
theorem dX10_isSetting_0 : decode cX10_isSetting 0 = .ok (.iload_n 0, 1) := by decide +kernel
theorem dX10_isSetting_1 : decode cX10_isSetting 1 = .ok (.i2l, 1) := by decide +kernel
theorem dX10_isSetting_2 : decode cX10_isSetting 2 = .ok (.lconst 0, 1) := by decide +kernel
theorem dX10_isSetting_3 : decode cX10_isSetting 3 = .ok (.ldc2_w 186, 3) := by decide +kernel
theorem dX10_isSetting_6 : decode cX10_isSetting 6 = .ok (.invokestatic 43, 3) := by decide +kernel
theorem dX10_isSetting_9 : decode cX10_isSetting 9 = .ok (.ireturn, 1) := by decide +kernel
