theorem dX10_isValue_0 : decode cX10_isValue 0 = .ok (.iload_n 0, 1) := by decide +kernel
theorem dX10_isValue_1 : decode cX10_isValue 1 = .ok (.tableswitch 63 0 3 #[31, 31, 43, 55], 31) := by decide +kernel
theorem dX10_isValue_32 : decode cX10_isValue 32 = .ok (.iload_n 1, 1) := by decide +kernel
theorem dX10_isValue_33 : decode cX10_isValue 33 = .ok (.i2l, 1) := by decide +kernel
theorem dX10_isValue_34 : decode cX10_isValue 34 = .ok (.ldc2_w 33, 3) := by decide +kernel
theorem dX10_isValue_37 : decode cX10_isValue 37 = .ok (.ldc2_w 188, 3) := by decide +kernel
theorem dX10_isValue_40 : decode cX10_isValue 40 = .ok (.invokestatic 43, 3) := by decide +kernel
theorem dX10_isValue_43 : decode cX10_isValue 43 = .ok (.ireturn, 1) := by decide +kernel
theorem dX10_isValue_44 : decode cX10_isValue 44 = .ok (.iload_n 1, 1) := by decide +kernel
theorem dX10_isValue_45 : decode cX10_isValue 45 = .ok (.i2l, 1) := by decide +kernel
theorem dX10_isValue_46 : decode cX10_isValue 46 = .ok (.ldc2_w 190, 3) := by decide +kernel
theorem dX10_isValue_49 : decode cX10_isValue 49 = .ok (.ldc2_w 33, 3) := by decide +kernel
theorem dX10_isValue_52 : decode cX10_isValue 52 = .ok (.invokestatic 43, 3) := by decide +kernel
theorem dX10_isValue_55 : decode cX10_isValue 55 = .ok (.ireturn, 1) := by decide +kernel
theorem dX10_isValue_56 : decode cX10_isValue 56 = .ok (.iload_n 1, 1) := by decide +kernel
theorem dX10_isValue_57 : decode cX10_isValue 57 = .ok (.i2l, 1) := by decide +kernel
theorem dX10_isValue_58 : decode cX10_isValue 58 = .ok (.lconst 0, 1) := by decide +kernel
theorem dX10_isValue_59 : decode cX10_isValue 59 = .ok (.lconst 1, 1) := by decide +kernel
theorem dX10_isValue_60 : decode cX10_isValue 60 = .ok (.invokestatic 43, 3) := by decide +kernel
theorem dX10_isValue_63 : decode cX10_isValue 63 = .ok (.ireturn, 1) := by decide +kernel
theorem dX10_isValue_64 : decode cX10_isValue 64 = .ok (.iload_n 1, 1) := by decide +kernel
theorem dX10_isValue_65 : decode cX10_isValue 65 = .ok (.i2l, 1) := by decide +kernel
theorem dX10_isValue_66 : decode cX10_isValue 66 = .ok (.lconst 0, 1) := by decide +kernel
theorem dX10_isValue_67 : decode cX10_isValue 67 = .ok (.ldc2_w 192, 3) := by decide +kernel
theorem dX10_isValue_70 : decode cX10_isValue 70 = .ok (.invokestatic 43, 3) := by decide +kernel
theorem dX10_isValue_73 : decode cX10_isValue 73 = .ok (.ireturn, 1) := by decide +kernel
theorem dX10_replaced_0 : decode cX10_replaced 0 = .ok (.aload_n 0, 1) := by decide +kernel
theorem dX10_replaced_1 : decode cX10_replaced 1 = .ok (.invokevirtual 180, 3) := by decide +kernel
theorem dX10_replaced_4 : decode cX10_replaced 4 = .ok (.aload_n 0, 1) := by decide +kernel
theorem dX10_replaced_5 : decode cX10_replaced 5 = .ok (.getfield 7, 3) := by decide +kernel
theorem dX10_replaced_8 : decode cX10_replaced 8 = .ok (.iload_n 1, 1) := by decide +kernel
theorem dX10_replaced_9 : decode cX10_replaced 9 = .ok (.laload, 1) := by decide +kernel
theorem dX10_replaced_10 : decode cX10_replaced 10 = .ok (.l2i, 1) := by decide +kernel
theorem dX10_replaced_11 : decode cX10_replaced 11 = .ok (.istore_n 3, 1) := by decide +kernel
theorem dX10_replaced_12 : decode cX10_replaced 12 = .ok (.aload_n 0, 1) := by decide +kernel
theorem dX10_replaced_13 : decode cX10_replaced 13 = .ok (.getfield 7, 3) := by decide +kernel
theorem dX10_replaced_16 : decode cX10_replaced 16 = .ok (.iload_n 1, 1) := by decide +kernel
theorem dX10_replaced_17 : decode cX10_replaced 17 = .ok (.iload_n 2, 1) := by decide +kernel
theorem dX10_replaced_18 : decode cX10_replaced 18 = .ok (.i2l, 1) := by decide +kernel
theorem dX10_replaced_19 : decode cX10_replaced 19 = .ok (.lastore, 1) := by decide +kernel
theorem dX10_replaced_20 : decode cX10_replaced 20 = .ok (.iload_n 3, 1) := by decide +kernel
theorem dX10_replaced_21 : decode cX10_replaced 21 = .ok (.ireturn, 1) := by decide +kernel
theorem dX10_set_0 : decode cX10_set 0 = .ok (.aload_n 0, 1) := by decide +kernel
theorem dX10_set_1 : decode cX10_set 1 = .ok (.iload_n 1, 1) := by decide +kernel
theorem dX10_set_2 : decode cX10_set 2 = .ok (.invokestatic 194, 3) := by decide +kernel
theorem dX10_set_5 : decode cX10_set 5 = .ok (.ifCond .ne 7, 3) := by decide +kernel
theorem dX10_set_8 : decode cX10_set 8 = .ok (.iconst 1, 1) := by decide +kernel
theorem dX10_set_9 : decode cX10_set 9 = .ok (.goto 16, 3) := by decide +kernel
theorem dX10_set_12 : decode cX10_set 12 = .ok (.iload_n 1, 1) := by decide +kernel
theorem dX10_set_13 : decode cX10_set 13 = .ok (.iload_n 2, 1) := by decide +kernel
theorem dX10_set_14 : decode cX10_set 14 = .ok (.invokestatic 197, 3) := by decide +kernel
theorem dX10_set_17 : decode cX10_set 17 = .ok (.ifCond .eq 7, 3) := by decide +kernel
theorem dX10_set_20 : decode cX10_set 20 = .ok (.iconst 0, 1) := by decide +kernel
theorem dX10_set_21 : decode cX10_set 21 = .ok (.goto 4, 3) := by decide +kernel
theorem dX10_set_24 : decode cX10_set 24 = .ok (.iconst 2, 1) := by decide +kernel
theorem dX10_set_25 : decode cX10_set 25 = .ok (.putfield 35, 3) := by decide +kernel
theorem dX10_set_28 : decode cX10_set 28 = .ok (.aload_n 0, 1) := by decide +kernel
theorem dX10_set_29 : decode cX10_set 29 = .ok (.getfield 35, 3) := by decide +kernel
theorem dX10_set_32 : decode cX10_set 32 = .ok (.ifCond .le 5, 3) := by decide +kernel
theorem dX10_set_35 : decode cX10_set 35 = .ok (.iconst 0, 1) := by decide +kernel
theorem dX10_set_36 : decode cX10_set 36 = .ok (.ireturn, 1) := by decide +kernel
theorem dX10_set_37 : decode cX10_set 37 = .ok (.aload_n 0, 1) := by decide +kernel
theorem dX10_set_38 : decode cX10_set 38 = .ok (.iconst 2, 1) := by decide +kernel
theorem dX10_set_39 : decode cX10_set 39 = .ok (.iload_n 1, 1) := by decide +kernel
theorem dX10_set_40 : decode cX10_set 40 = .ok (.iadd, 1) := by decide +kernel
theorem dX10_set_41 : decode cX10_set 41 = .ok (.iload_n 2, 1) := by decide +kernel
theorem dX10_set_42 : decode cX10_set 42 = .ok (.invokevirtual 201, 3) := by decide +kernel
theorem dX10_set_45 : decode cX10_set 45 = .ok (.istore_n 3, 1) := by decide +kernel
theorem dX10_set_46 : decode cX10_set 46 = .ok (.aload_n 0, 1) := by decide +kernel
theorem dX10_set_47 : decode cX10_set 47 = .ok (.invokevirtual 183, 3) := by decide +kernel
theorem dX10_set_50 : decode cX10_set 50 = .ok (.pop, 1) := by decide +kernel
theorem dX10_set_51 : decode cX10_set 51 = .ok (.iload_n 3, 1) := by decide +kernel
theorem dX10_set_52 : decode cX10_set 52 = .ok (.ireturn, 1) := by decide +kernel
theorem dX10_setTolerance_0 : decode cX10_setTolerance 0 = .ok (.aload_n 0, 1) := by decide +kernel
theorem dX10_setTolerance_1 : decode cX10_setTolerance 1 = .ok (.iload_n 1, 1) := by decide +kernel
theorem dX10_setTolerance_2 : decode cX10_setTolerance 2 = .ok (.i2l, 1) := by decide +kernel
theorem dX10_setTolerance_3 : decode cX10_setTolerance 3 = .ok (.lconst 0, 1) := by decide +kernel
theorem dX10_setTolerance_4 : decode cX10_setTolerance 4 = .ok (.ldc2_w 205, 3) := by decide +kernel
theorem dX10_setTolerance_7 : decode cX10_setTolerance 7 = .ok (.invokestatic 43, 3) := by decide +kernel
theorem dX10_setTolerance_10 : decode cX10_setTolerance 10 = .ok (.ifCond .eq 7, 3) := by decide +kernel
theorem dX10_setTolerance_13 : decode cX10_setTolerance 13 = .ok (.iconst 0, 1) := by decide +kernel
theorem dX10_setTolerance_14 : decode cX10_setTolerance 14 = .ok (.goto 4, 3) := by decide +kernel
theorem dX10_setTolerance_17 : decode cX10_setTolerance 17 = .ok (.iconst 1, 1) := by decide +kernel
theorem dX10_setTolerance_18 : decode cX10_setTolerance 18 = .ok (.putfield 35, 3) := by decide +kernel
theorem dX10_setTolerance_21 : decode cX10_setTolerance 21 = .ok (.aload_n 0, 1) := by decide +kernel
theorem dX10_setTolerance_22 : decode cX10_setTolerance 22 = .ok (.getfield 35, 3) := by decide +kernel
theorem dX10_setTolerance_25 : decode cX10_setTolerance 25 = .ok (.ifCond .le 7, 3) := by decide +kernel
theorem dX10_setTolerance_28 : decode cX10_setTolerance 28 = .ok (.iconst 0, 1) := by decide +kernel
theorem dX10_setTolerance_29 : decode cX10_setTolerance 29 = .ok (.goto 10, 3) := by decide +kernel
theorem dX10_setTolerance_32 : decode cX10_setTolerance 32 = .ok (.aload_n 0, 1) := by decide +kernel
theorem dX10_setTolerance_33 : decode cX10_setTolerance 33 = .ok (.bipush 7, 2) := by decide +kernel
theorem dX10_setTolerance_35 : decode cX10_setTolerance 35 = .ok (.iload_n 1, 1) := by decide +kernel
theorem dX10_setTolerance_36 : decode cX10_setTolerance 36 = .ok (.invokevirtual 201, 3) := by decide +kernel
theorem dX10_setTolerance_39 : decode cX10_setTolerance 39 = .ok (.ireturn, 1) := by decide +kernel
theorem dX10_isPoint_0 : decode cX10_isPoint 0 = .ok (.iload_n 0, 1) := by decide +kernel
theorem dX10_isPoint_1 : decode cX10_isPoint 1 = .ok (.i2l, 1) := by decide +kernel
theorem dX10_isPoint_2 : decode cX10_isPoint 2 = .ok (.ldc2_w 207, 3) := by decide +kernel
theorem dX10_isPoint_5 : decode cX10_isPoint 5 = .ok (.ldc2_w 29, 3) := by decide +kernel
theorem dX10_isPoint_8 : decode cX10_isPoint 8 = .ok (.invokestatic 43, 3) := by decide +kernel
theorem dX10_isPoint_11 : decode cX10_isPoint 11 = .ok (.ifCond .eq 21, 3) := by decide +kernel
theorem dX10_isPoint_14 : decode cX10_isPoint 14 = .ok (.iload_n 1, 1) := by decide +kernel
theorem dX10_isPoint_15 : decode cX10_isPoint 15 = .ok (.i2l, 1) := by decide +kernel
theorem dX10_isPoint_16 : decode cX10_isPoint 16 = .ok (.ldc2_w 207, 3) := by decide +kernel
theorem dX10_isPoint_19 : decode cX10_isPoint 19 = .ok (.ldc2_w 29, 3) := by decide +kernel
theorem dX10_isPoint_22 : decode cX10_isPoint 22 = .ok (.invokestatic 43, 3) := by decide +kernel
theorem dX10_isPoint_25 : decode cX10_isPoint 25 = .ok (.ifCond .eq 7, 3) := by decide +kernel
theorem dX10_isPoint_28 : decode cX10_isPoint 28 = .ok (.iconst 1, 1) := by decide +kernel
theorem dX10_isPoint_29 : decode cX10_isPoint 29 = .ok (.goto 4, 3) := by decide +kernel
theorem dX10_isPoint_32 : decode cX10_isPoint 32 = .ok (.iconst 0, 1) := by decide +kernel
theorem dX10_isPoint_33 : decode cX10_isPoint 33 = .ok (.ireturn, 1) := by decide +kernel
theorem dX10_putCorner_0 : decode cX10_putCorner 0 = .ok (.aload_n 0, 1) := by decide +kernel
theorem dX10_putCorner_1 : decode cX10_putCorner 1 = .ok (.getfield 7, 3) := by decide +kernel
theorem dX10_putCorner_4 : decode cX10_putCorner 4 = .ok (.bipush 9, 2) := by decide +kernel
theorem dX10_putCorner_6 : decode cX10_putCorner 6 = .ok (.iconst 3, 1) := by decide +kernel
theorem dX10_putCorner_7 : decode cX10_putCorner 7 = .ok (.iload_n 1, 1) := by decide +kernel
theorem dX10_putCorner_8 : decode cX10_putCorner 8 = .ok (.imul, 1) := by decide +kernel
theorem dX10_putCorner_9 : decode cX10_putCorner 9 = .ok (.iadd, 1) := by decide +kernel
theorem dX10_putCorner_10 : decode cX10_putCorner 10 = .ok (.iload_n 2, 1) := by decide +kernel
theorem dX10_putCorner_11 : decode cX10_putCorner 11 = .ok (.i2l, 1) := by decide +kernel
theorem dX10_putCorner_12 : decode cX10_putCorner 12 = .ok (.lastore, 1) := by decide +kernel
theorem dX10_putCorner_13 : decode cX10_putCorner 13 = .ok (.aload_n 0, 1) := by decide +kernel
theorem dX10_putCorner_14 : decode cX10_putCorner 14 = .ok (.getfield 7, 3) := by decide +kernel
theorem dX10_putCorner_17 : decode cX10_putCorner 17 = .ok (.bipush 9, 2) := by decide +kernel
theorem dX10_putCorner_19 : decode cX10_putCorner 19 = .ok (.iconst 3, 1) := by decide +kernel
theorem dX10_putCorner_20 : decode cX10_putCorner 20 = .ok (.iload_n 1, 1) := by decide +kernel
theorem dX10_putCorner_21 : decode cX10_putCorner 21 = .ok (.imul, 1) := by decide +kernel
theorem dX10_putCorner_22 : decode cX10_putCorner 22 = .ok (.iadd, 1) := by decide +kernel
theorem dX10_putCorner_23 : decode cX10_putCorner 23 = .ok (.iconst 1, 1) := by decide +kernel
theorem dX10_putCorner_24 : decode cX10_putCorner 24 = .ok (.iadd, 1) := by decide +kernel
theorem dX10_putCorner_25 : decode cX10_putCorner 25 = .ok (.iload_n 3, 1) := by decide +kernel
theorem dX10_putCorner_26 : decode cX10_putCorner 26 = .ok (.i2l, 1) := by decide +kernel
theorem dX10_putCorner_27 : decode cX10_putCorner 27 = .ok (.lastore, 1) := by decide +kernel
theorem dX10_putCorner_28 : decode cX10_putCorner 28 = .ok (.aload_n 0, 1) := by decide +kernel
theorem dX10_putCorner_29 : decode cX10_putCorner 29 = .ok (.getfield 7, 3) := by decide +kernel
theorem dX10_putCorner_32 : decode cX10_putCorner 32 = .ok (.bipush 9, 2) := by decide +kernel
theorem dX10_putCorner_34 : decode cX10_putCorner 34 = .ok (.iconst 3, 1) := by decide +kernel
theorem dX10_putCorner_35 : decode cX10_putCorner 35 = .ok (.iload_n 1, 1) := by decide +kernel
theorem dX10_putCorner_36 : decode cX10_putCorner 36 = .ok (.imul, 1) := by decide +kernel
theorem dX10_putCorner_37 : decode cX10_putCorner 37 = .ok (.iadd, 1) := by decide +kernel
theorem dX10_putCorner_38 : decode cX10_putCorner 38 = .ok (.iconst 2, 1) := by decide +kernel
theorem dX10_putCorner_39 : decode cX10_putCorner 39 = .ok (.iadd, 1) := by decide +kernel
theorem dX10_putCorner_40 : decode cX10_putCorner 40 = .ok (.iload 4, 2) := by decide +kernel
theorem dX10_putCorner_42 : decode cX10_putCorner 42 = .ok (.i2l, 1) := by decide +kernel
theorem dX10_putCorner_43 : decode cX10_putCorner 43 = .ok (.lastore, 1) := by decide +kernel
theorem dX10_putCorner_44 : decode cX10_putCorner 44 = .ok (.return_, 1) := by decide +kernel
theorem dX10_insert_0 : decode cX10_insert 0 = .ok (.aload_n 0, 1) := by decide +kernel
theorem dX10_insert_1 : decode cX10_insert 1 = .ok (.iload_n 1, 1) := by decide +kernel
theorem dX10_insert_2 : decode cX10_insert 2 = .ok (.i2l, 1) := by decide +kernel
theorem dX10_insert_3 : decode cX10_insert 3 = .ok (.lconst 0, 1) := by decide +kernel
theorem dX10_insert_4 : decode cX10_insert 4 = .ok (.aload_n 0, 1) := by decide +kernel
theorem dX10_insert_5 : decode cX10_insert 5 = .ok (.invokevirtual 39, 3) := by decide +kernel
theorem dX10_insert_8 : decode cX10_insert 8 = .ok (.i2l, 1) := by decide +kernel
theorem dX10_insert_9 : decode cX10_insert 9 = .ok (.invokestatic 43, 3) := by decide +kernel
theorem dX10_insert_12 : decode cX10_insert 12 = .ok (.ifCond .ne 7, 3) := by decide +kernel
theorem dX10_insert_15 : decode cX10_insert 15 = .ok (.iconst 1, 1) := by decide +kernel
theorem dX10_insert_16 : decode cX10_insert 16 = .ok (.goto 29, 3) := by decide +kernel
theorem dX10_insert_19 : decode cX10_insert 19 = .ok (.iload_n 2, 1) := by decide +kernel
theorem dX10_insert_20 : decode cX10_insert 20 = .ok (.iload_n 3, 1) := by decide +kernel
theorem dX10_insert_21 : decode cX10_insert 21 = .ok (.invokestatic 209, 3) := by decide +kernel
theorem dX10_insert_24 : decode cX10_insert 24 = .ok (.ifCond .ne 7, 3) := by decide +kernel
theorem dX10_insert_27 : decode cX10_insert 27 = .ok (.iconst 2, 1) := by decide +kernel
theorem dX10_insert_28 : decode cX10_insert 28 = .ok (.goto 17, 3) := by decide +kernel
theorem dX10_insert_31 : decode cX10_insert 31 = .ok (.aload_n 0, 1) := by decide +kernel
theorem dX10_insert_32 : decode cX10_insert 32 = .ok (.invokevirtual 39, 3) := by decide +kernel
theorem dX10_insert_35 : decode cX10_insert 35 = .ok (.bipush 20, 2) := by decide +kernel
theorem dX10_insert_37 : decode cX10_insert 37 = .ok (.if_icmp .ne 7, 3) := by decide +kernel
theorem dX10_insert_40 : decode cX10_insert 40 = .ok (.iconst 3, 1) := by decide +kernel
theorem dX10_insert_41 : decode cX10_insert 41 = .ok (.goto 4, 3) := by decide +kernel
theorem dX10_insert_44 : decode cX10_insert 44 = .ok (.iconst 0, 1) := by decide +kernel
theorem dX10_insert_45 : decode cX10_insert 45 = .ok (.putfield 35, 3) := by decide +kernel
theorem dX10_insert_48 : decode cX10_insert 48 = .ok (.aload_n 0, 1) := by decide +kernel
theorem dX10_insert_49 : decode cX10_insert 49 = .ok (.getfield 35, 3) := by decide +kernel
theorem dX10_insert_52 : decode cX10_insert 52 = .ok (.ifCond .le 5, 3) := by decide +kernel
theorem dX10_insert_55 : decode cX10_insert 55 = .ok (.iconst 0, 1) := by decide +kernel
theorem dX10_insert_56 : decode cX10_insert 56 = .ok (.ireturn, 1) := by decide +kernel
theorem dX10_insert_57 : decode cX10_insert 57 = .ok (.aload_n 0, 1) := by decide +kernel
theorem dX10_insert_58 : decode cX10_insert 58 = .ok (.invokevirtual 180, 3) := by decide +kernel
theorem dX10_insert_61 : decode cX10_insert 61 = .ok (.bipush 9, 2) := by decide +kernel
theorem dX10_insert_63 : decode cX10_insert 63 = .ok (.iconst 3, 1) := by decide +kernel
theorem dX10_insert_64 : decode cX10_insert 64 = .ok (.aload_n 0, 1) := by decide +kernel
theorem dX10_insert_65 : decode cX10_insert 65 = .ok (.invokevirtual 39, 3) := by decide +kernel
theorem dX10_insert_68 : decode cX10_insert 68 = .ok (.imul, 1) := by decide +kernel
theorem dX10_insert_69 : decode cX10_insert 69 = .ok (.iadd, 1) := by decide +kernel
theorem dX10_insert_70 : decode cX10_insert 70 = .ok (.iconst 1, 1) := by decide +kernel
theorem dX10_insert_71 : decode cX10_insert 71 = .ok (.isub, 1) := by decide +kernel
theorem dX10_insert_72 : decode cX10_insert 72 = .ok (.istore 4, 2) := by decide +kernel
theorem dX10_insert_74 : decode cX10_insert 74 = .ok (.iload 4, 2) := by decide +kernel
theorem dX10_insert_76 : decode cX10_insert 76 = .ok (.bipush 9, 2) := by decide +kernel
theorem dX10_insert_78 : decode cX10_insert 78 = .ok (.iconst 3, 1) := by decide +kernel
theorem dX10_insert_79 : decode cX10_insert 79 = .ok (.iload_n 1, 1) := by decide +kernel
theorem dX10_insert_80 : decode cX10_insert 80 = .ok (.imul, 1) := by decide +kernel
theorem dX10_insert_81 : decode cX10_insert 81 = .ok (.iadd, 1) := by decide +kernel
theorem dX10_insert_82 : decode cX10_insert 82 = .ok (.if_icmp .lt 25, 3) := by decide +kernel
theorem dX10_insert_85 : decode cX10_insert 85 = .ok (.aload_n 0, 1) := by decide +kernel
theorem dX10_insert_86 : decode cX10_insert 86 = .ok (.getfield 7, 3) := by decide +kernel
theorem dX10_insert_89 : decode cX10_insert 89 = .ok (.iload 4, 2) := by decide +kernel
theorem dX10_insert_91 : decode cX10_insert 91 = .ok (.iconst 3, 1) := by decide +kernel
theorem dX10_insert_92 : decode cX10_insert 92 = .ok (.iadd, 1) := by decide +kernel
theorem dX10_insert_93 : decode cX10_insert 93 = .ok (.aload_n 0, 1) := by decide +kernel
theorem dX10_insert_94 : decode cX10_insert 94 = .ok (.getfield 7, 3) := by decide +kernel
theorem dX10_insert_97 : decode cX10_insert 97 = .ok (.iload 4, 2) := by decide +kernel
theorem dX10_insert_99 : decode cX10_insert 99 = .ok (.laload, 1) := by decide +kernel
theorem dX10_insert_100 : decode cX10_insert 100 = .ok (.lastore, 1) := by decide +kernel
theorem dX10_insert_101 : decode cX10_insert 101 = .ok (.iinc 4 (-1), 3) := by decide +kernel
theorem dX10_insert_104 : decode cX10_insert 104 = .ok (.goto (-30), 3) := by decide +kernel
theorem dX10_insert_107 : decode cX10_insert 107 = .ok (.aload_n 0, 1) := by decide +kernel
theorem dX10_insert_108 : decode cX10_insert 108 = .ok (.iload_n 1, 1) := by decide +kernel
theorem dX10_insert_109 : decode cX10_insert 109 = .ok (.iload_n 2, 1) := by decide +kernel
theorem dX10_insert_110 : decode cX10_insert 110 = .ok (.iload_n 3, 1) := by decide +kernel
theorem dX10_insert_111 : decode cX10_insert 111 = .ok (.iconst 0, 1) := by decide +kernel
theorem dX10_insert_112 : decode cX10_insert 112 = .ok (.invokevirtual 212, 3) := by decide +kernel
theorem dX10_insert_115 : decode cX10_insert 115 = .ok (.aload_n 0, 1) := by decide +kernel
theorem dX10_insert_116 : decode cX10_insert 116 = .ok (.getfield 7, 3) := by decide +kernel
theorem dX10_insert_119 : decode cX10_insert 119 = .ok (.bipush 8, 2) := by decide +kernel
theorem dX10_insert_121 : decode cX10_insert 121 = .ok (.dup2, 1) := by decide +kernel
theorem dX10_insert_122 : decode cX10_insert 122 = .ok (.laload, 1) := by decide +kernel
theorem dX10_insert_123 : decode cX10_insert 123 = .ok (.lconst 1, 1) := by decide +kernel
theorem dX10_insert_124 : decode cX10_insert 124 = .ok (.ladd, 1) := by decide +kernel
theorem dX10_insert_125 : decode cX10_insert 125 = .ok (.lastore, 1) := by decide +kernel
theorem dX10_insert_126 : decode cX10_insert 126 = .ok (.aload_n 0, 1) := by decide +kernel
theorem dX10_insert_127 : decode cX10_insert 127 = .ok (.invokevirtual 183, 3) := by decide +kernel
theorem dX10_insert_130 : decode cX10_insert 130 = .ok (.pop, 1) := by decide +kernel
theorem dX10_insert_131 : decode cX10_insert 131 = .ok (.aload_n 0, 1) := by decide +kernel
theorem dX10_insert_132 : decode cX10_insert 132 = .ok (.invokevirtual 39, 3) := by decide +kernel
theorem dX10_insert_135 : decode cX10_insert 135 = .ok (.ireturn, 1) := by decide +kernel
theorem dX10_move_0 : decode cX10_move 0 = .ok (.aload_n 0, 1) := by decide +kernel
theorem dX10_move_1 : decode cX10_move 1 = .ok (.aload_n 0, 1) := by decide +kernel
theorem dX10_move_2 : decode cX10_move 2 = .ok (.iload_n 1, 1) := by decide +kernel
theorem dX10_move_3 : decode cX10_move 3 = .ok (.invokevirtual 216, 3) := by decide +kernel
theorem dX10_move_6 : decode cX10_move 6 = .ok (.ifCond .ne 7, 3) := by decide +kernel
theorem dX10_move_9 : decode cX10_move 9 = .ok (.iconst 1, 1) := by decide +kernel
theorem dX10_move_10 : decode cX10_move 10 = .ok (.goto 16, 3) := by decide +kernel
theorem dX10_move_13 : decode cX10_move 13 = .ok (.iload_n 2, 1) := by decide +kernel
theorem dX10_move_14 : decode cX10_move 14 = .ok (.iload_n 3, 1) := by decide +kernel
theorem dX10_move_15 : decode cX10_move 15 = .ok (.invokestatic 209, 3) := by decide +kernel
theorem dX10_move_18 : decode cX10_move 18 = .ok (.ifCond .eq 7, 3) := by decide +kernel
theorem dX10_move_21 : decode cX10_move 21 = .ok (.iconst 0, 1) := by decide +kernel
theorem dX10_move_22 : decode cX10_move 22 = .ok (.goto 4, 3) := by decide +kernel
theorem dX10_move_25 : decode cX10_move 25 = .ok (.iconst 2, 1) := by decide +kernel
theorem dX10_move_26 : decode cX10_move 26 = .ok (.putfield 35, 3) := by decide +kernel
theorem dX10_move_29 : decode cX10_move 29 = .ok (.aload_n 0, 1) := by decide +kernel
theorem dX10_move_30 : decode cX10_move 30 = .ok (.getfield 35, 3) := by decide +kernel
theorem dX10_move_33 : decode cX10_move 33 = .ok (.ifCond .le 5, 3) := by decide +kernel
theorem dX10_move_36 : decode cX10_move 36 = .ok (.iconst 0, 1) := by decide +kernel
theorem dX10_move_37 : decode cX10_move 37 = .ok (.ireturn, 1) := by decide +kernel
theorem dX10_move_38 : decode cX10_move 38 = .ok (.aload_n 0, 1) := by decide +kernel
theorem dX10_move_39 : decode cX10_move 39 = .ok (.invokevirtual 180, 3) := by decide +kernel
theorem dX10_move_42 : decode cX10_move 42 = .ok (.aload_n 0, 1) := by decide +kernel
theorem dX10_move_43 : decode cX10_move 43 = .ok (.getfield 7, 3) := by decide +kernel
theorem dX10_move_46 : decode cX10_move 46 = .ok (.bipush 9, 2) := by decide +kernel
theorem dX10_move_48 : decode cX10_move 48 = .ok (.iconst 3, 1) := by decide +kernel
theorem dX10_move_49 : decode cX10_move 49 = .ok (.iload_n 1, 1) := by decide +kernel
theorem dX10_move_50 : decode cX10_move 50 = .ok (.imul, 1) := by decide +kernel
theorem dX10_move_51 : decode cX10_move 51 = .ok (.iadd, 1) := by decide +kernel
theorem dX10_move_52 : decode cX10_move 52 = .ok (.iload_n 2, 1) := by decide +kernel
theorem dX10_move_53 : decode cX10_move 53 = .ok (.i2l, 1) := by decide +kernel
theorem dX10_move_54 : decode cX10_move 54 = .ok (.lastore, 1) := by decide +kernel
theorem dX10_move_55 : decode cX10_move 55 = .ok (.aload_n 0, 1) := by decide +kernel
theorem dX10_move_56 : decode cX10_move 56 = .ok (.getfield 7, 3) := by decide +kernel
theorem dX10_move_59 : decode cX10_move 59 = .ok (.bipush 9, 2) := by decide +kernel
theorem dX10_move_61 : decode cX10_move 61 = .ok (.iconst 3, 1) := by decide +kernel
theorem dX10_move_62 : decode cX10_move 62 = .ok (.iload_n 1, 1) := by decide +kernel
theorem dX10_move_63 : decode cX10_move 63 = .ok (.imul, 1) := by decide +kernel
theorem dX10_move_64 : decode cX10_move 64 = .ok (.iadd, 1) := by decide +kernel
theorem dX10_move_65 : decode cX10_move 65 = .ok (.iconst 1, 1) := by decide +kernel
theorem dX10_move_66 : decode cX10_move 66 = .ok (.iadd, 1) := by decide +kernel
theorem dX10_move_67 : decode cX10_move 67 = .ok (.iload_n 3, 1) := by decide +kernel
theorem dX10_move_68 : decode cX10_move 68 = .ok (.i2l, 1) := by decide +kernel
theorem dX10_move_69 : decode cX10_move 69 = .ok (.lastore, 1) := by decide +kernel
theorem dX10_move_70 : decode cX10_move 70 = .ok (.aload_n 0, 1) := by decide +kernel
theorem dX10_move_71 : decode cX10_move 71 = .ok (.invokevirtual 183, 3) := by decide +kernel
theorem dX10_move_74 : decode cX10_move 74 = .ok (.ireturn, 1) := by decide +kernel
theorem dX10_remove_0 : decode cX10_remove 0 = .ok (.aload_n 0, 1) := by decide +kernel
theorem dX10_remove_1 : decode cX10_remove 1 = .ok (.aload_n 0, 1) := by decide +kernel
theorem dX10_remove_2 : decode cX10_remove 2 = .ok (.iload_n 1, 1) := by decide +kernel
theorem dX10_remove_3 : decode cX10_remove 3 = .ok (.invokevirtual 216, 3) := by decide +kernel
theorem dX10_remove_6 : decode cX10_remove 6 = .ok (.ifCond .eq 7, 3) := by decide +kernel
theorem dX10_remove_9 : decode cX10_remove 9 = .ok (.iconst 0, 1) := by decide +kernel
theorem dX10_remove_10 : decode cX10_remove 10 = .ok (.goto 4, 3) := by decide +kernel
theorem dX10_remove_13 : decode cX10_remove 13 = .ok (.iconst 1, 1) := by decide +kernel
theorem dX10_remove_14 : decode cX10_remove 14 = .ok (.putfield 35, 3) := by decide +kernel
theorem dX10_remove_17 : decode cX10_remove 17 = .ok (.aload_n 0, 1) := by decide +kernel
theorem dX10_remove_18 : decode cX10_remove 18 = .ok (.getfield 35, 3) := by decide +kernel
theorem dX10_remove_21 : decode cX10_remove 21 = .ok (.ifCond .le 5, 3) := by decide +kernel
theorem dX10_remove_24 : decode cX10_remove 24 = .ok (.iconst 0, 1) := by decide +kernel
theorem dX10_remove_25 : decode cX10_remove 25 = .ok (.ireturn, 1) := by decide +kernel
theorem dX10_remove_26 : decode cX10_remove 26 = .ok (.aload_n 0, 1) := by decide +kernel
theorem dX10_remove_27 : decode cX10_remove 27 = .ok (.invokevirtual 180, 3) := by decide +kernel
theorem dX10_remove_30 : decode cX10_remove 30 = .ok (.aload_n 0, 1) := by decide +kernel
theorem dX10_remove_31 : decode cX10_remove 31 = .ok (.getfield 7, 3) := by decide +kernel
theorem dX10_remove_34 : decode cX10_remove 34 = .ok (.bipush 8, 2) := by decide +kernel
theorem dX10_remove_36 : decode cX10_remove 36 = .ok (.dup2, 1) := by decide +kernel
theorem dX10_remove_37 : decode cX10_remove 37 = .ok (.laload, 1) := by decide +kernel
theorem dX10_remove_38 : decode cX10_remove 38 = .ok (.lconst 1, 1) := by decide +kernel
theorem dX10_remove_39 : decode cX10_remove 39 = .ok (.lsub, 1) := by decide +kernel
theorem dX10_remove_40 : decode cX10_remove 40 = .ok (.lastore, 1) := by decide +kernel
theorem dX10_remove_41 : decode cX10_remove 41 = .ok (.bipush 9, 2) := by decide +kernel
theorem dX10_remove_43 : decode cX10_remove 43 = .ok (.iconst 3, 1) := by decide +kernel
theorem dX10_remove_44 : decode cX10_remove 44 = .ok (.iload_n 1, 1) := by decide +kernel
theorem dX10_remove_45 : decode cX10_remove 45 = .ok (.imul, 1) := by decide +kernel
theorem dX10_remove_46 : decode cX10_remove 46 = .ok (.iadd, 1) := by decide +kernel
theorem dX10_remove_47 : decode cX10_remove 47 = .ok (.istore_n 2, 1) := by decide +kernel
theorem dX10_remove_48 : decode cX10_remove 48 = .ok (.iload_n 2, 1) := by decide +kernel
theorem dX10_remove_49 : decode cX10_remove 49 = .ok (.bipush 9, 2) := by decide +kernel
theorem dX10_remove_51 : decode cX10_remove 51 = .ok (.iconst 3, 1) := by decide +kernel
theorem dX10_remove_52 : decode cX10_remove 52 = .ok (.aload_n 0, 1) := by decide +kernel
theorem dX10_remove_53 : decode cX10_remove 53 = .ok (.invokevirtual 39, 3) := by decide +kernel
theorem dX10_remove_56 : decode cX10_remove 56 = .ok (.imul, 1) := by decide +kernel
theorem dX10_remove_57 : decode cX10_remove 57 = .ok (.iadd, 1) := by decide +kernel
theorem dX10_remove_58 : decode cX10_remove 58 = .ok (.if_icmp .ge 23, 3) := by decide +kernel
theorem dX10_remove_61 : decode cX10_remove 61 = .ok (.aload_n 0, 1) := by decide +kernel
theorem dX10_remove_62 : decode cX10_remove 62 = .ok (.getfield 7, 3) := by decide +kernel
theorem dX10_remove_65 : decode cX10_remove 65 = .ok (.iload_n 2, 1) := by decide +kernel
theorem dX10_remove_66 : decode cX10_remove 66 = .ok (.aload_n 0, 1) := by decide +kernel
theorem dX10_remove_67 : decode cX10_remove 67 = .ok (.getfield 7, 3) := by decide +kernel
theorem dX10_remove_70 : decode cX10_remove 70 = .ok (.iload_n 2, 1) := by decide +kernel
theorem dX10_remove_71 : decode cX10_remove 71 = .ok (.iconst 3, 1) := by decide +kernel
theorem dX10_remove_72 : decode cX10_remove 72 = .ok (.iadd, 1) := by decide +kernel
theorem dX10_remove_73 : decode cX10_remove 73 = .ok (.laload, 1) := by decide +kernel
theorem dX10_remove_74 : decode cX10_remove 74 = .ok (.lastore, 1) := by decide +kernel
theorem dX10_remove_75 : decode cX10_remove 75 = .ok (.iinc 2 1, 3) := by decide +kernel
theorem dX10_remove_78 : decode cX10_remove 78 = .ok (.goto (-30), 3) := by decide +kernel
theorem dX10_remove_81 : decode cX10_remove 81 = .ok (.aload_n 0, 1) := by decide +kernel
theorem dX10_remove_82 : decode cX10_remove 82 = .ok (.invokevirtual 183, 3) := by decide +kernel
theorem dX10_remove_85 : decode cX10_remove 85 = .ok (.pop, 1) := by decide +kernel
theorem dX10_remove_86 : decode cX10_remove 86 = .ok (.aload_n 0, 1) := by decide +kernel
theorem dX10_remove_87 : decode cX10_remove 87 = .ok (.invokevirtual 39, 3) := by decide +kernel
theorem dX10_remove_90 : decode cX10_remove 90 = .ok (.ireturn, 1) := by decide +kernel
theorem dX10_setSlip_0 : decode cX10_setSlip 0 = .ok (.aload_n 0, 1) := by decide +kernel
theorem dX10_setSlip_1 : decode cX10_setSlip 1 = .ok (.aload_n 0, 1) := by decide +kernel
theorem dX10_setSlip_2 : decode cX10_setSlip 2 = .ok (.iload_n 1, 1) := by decide +kernel
theorem dX10_setSlip_3 : decode cX10_setSlip 3 = .ok (.invokevirtual 216, 3) := by decide +kernel
theorem dX10_setSlip_6 : decode cX10_setSlip 6 = .ok (.ifCond .ne 7, 3) := by decide +kernel
theorem dX10_setSlip_9 : decode cX10_setSlip 9 = .ok (.iconst 1, 1) := by decide +kernel
theorem dX10_setSlip_10 : decode cX10_setSlip 10 = .ok (.goto 20, 3) := by decide +kernel
theorem dX10_setSlip_13 : decode cX10_setSlip 13 = .ok (.iload_n 2, 1) := by decide +kernel
theorem dX10_setSlip_14 : decode cX10_setSlip 14 = .ok (.i2l, 1) := by decide +kernel
theorem dX10_setSlip_15 : decode cX10_setSlip 15 = .ok (.lconst 0, 1) := by decide +kernel
theorem dX10_setSlip_16 : decode cX10_setSlip 16 = .ok (.ldc2_w 117, 3) := by decide +kernel
theorem dX10_setSlip_19 : decode cX10_setSlip 19 = .ok (.invokestatic 43, 3) := by decide +kernel
theorem dX10_setSlip_22 : decode cX10_setSlip 22 = .ok (.ifCond .eq 7, 3) := by decide +kernel
theorem dX10_setSlip_25 : decode cX10_setSlip 25 = .ok (.iconst 0, 1) := by decide +kernel
theorem dX10_setSlip_26 : decode cX10_setSlip 26 = .ok (.goto 4, 3) := by decide +kernel
theorem dX10_setSlip_29 : decode cX10_setSlip 29 = .ok (.iconst 2, 1) := by decide +kernel
theorem dX10_setSlip_30 : decode cX10_setSlip 30 = .ok (.putfield 35, 3) := by decide +kernel
theorem dX10_setSlip_33 : decode cX10_setSlip 33 = .ok (.aload_n 0, 1) := by decide +kernel
theorem dX10_setSlip_34 : decode cX10_setSlip 34 = .ok (.getfield 35, 3) := by decide +kernel
theorem dX10_setSlip_37 : decode cX10_setSlip 37 = .ok (.ifCond .le 7, 3) := by decide +kernel
theorem dX10_setSlip_40 : decode cX10_setSlip 40 = .ok (.iconst 0, 1) := by decide +kernel
theorem dX10_setSlip_41 : decode cX10_setSlip 41 = .ok (.goto 16, 3) := by decide +kernel
theorem dX10_setSlip_44 : decode cX10_setSlip 44 = .ok (.aload_n 0, 1) := by decide +kernel
theorem dX10_setSlip_45 : decode cX10_setSlip 45 = .ok (.bipush 9, 2) := by decide +kernel
theorem dX10_setSlip_47 : decode cX10_setSlip 47 = .ok (.iconst 3, 1) := by decide +kernel
theorem dX10_setSlip_48 : decode cX10_setSlip 48 = .ok (.iload_n 1, 1) := by decide +kernel
theorem dX10_setSlip_49 : decode cX10_setSlip 49 = .ok (.imul, 1) := by decide +kernel
theorem dX10_setSlip_50 : decode cX10_setSlip 50 = .ok (.iadd, 1) := by decide +kernel
theorem dX10_setSlip_51 : decode cX10_setSlip 51 = .ok (.iconst 2, 1) := by decide +kernel
theorem dX10_setSlip_52 : decode cX10_setSlip 52 = .ok (.iadd, 1) := by decide +kernel
theorem dX10_setSlip_53 : decode cX10_setSlip 53 = .ok (.iload_n 2, 1) := by decide +kernel
theorem dX10_setSlip_54 : decode cX10_setSlip 54 = .ok (.invokevirtual 201, 3) := by decide +kernel
theorem dX10_setSlip_57 : decode cX10_setSlip 57 = .ok (.ireturn, 1) := by decide +kernel
theorem dX10_make_0 : decode cX10_make 0 = .ok (.bipush 70, 2) := by decide +kernel
theorem dX10_make_2 : decode cX10_make 2 = .ok (.iconst 3, 1) := by decide +kernel
theorem dX10_make_3 : decode cX10_make 3 = .ok (.aload_n 0, 1) := by decide +kernel
theorem dX10_make_4 : decode cX10_make 4 = .ok (.getfield 7, 3) := by decide +kernel
theorem dX10_make_7 : decode cX10_make 7 = .ok (.bipush 69, 2) := by decide +kernel
theorem dX10_make_9 : decode cX10_make 9 = .ok (.laload, 1) := by decide +kernel
theorem dX10_make_10 : decode cX10_make 10 = .ok (.l2i, 1) := by decide +kernel
theorem dX10_make_11 : decode cX10_make 11 = .ok (.imul, 1) := by decide +kernel
theorem dX10_make_12 : decode cX10_make 12 = .ok (.iadd, 1) := by decide +kernel
theorem dX10_make_13 : decode cX10_make 13 = .ok (.istore_n 3, 1) := by decide +kernel
theorem dX10_make_14 : decode cX10_make 14 = .ok (.aload_n 0, 1) := by decide +kernel
theorem dX10_make_15 : decode cX10_make 15 = .ok (.getfield 7, 3) := by decide +kernel
theorem dX10_make_18 : decode cX10_make 18 = .ok (.iload_n 3, 1) := by decide +kernel
theorem dX10_make_19 : decode cX10_make 19 = .ok (.iload_n 1, 1) := by decide +kernel
theorem dX10_make_20 : decode cX10_make 20 = .ok (.i2l, 1) := by decide +kernel
theorem dX10_make_21 : decode cX10_make 21 = .ok (.lastore, 1) := by decide +kernel
theorem dX10_make_22 : decode cX10_make 22 = .ok (.aload_n 0, 1) := by decide +kernel
theorem dX10_make_23 : decode cX10_make 23 = .ok (.getfield 7, 3) := by decide +kernel
theorem dX10_make_26 : decode cX10_make 26 = .ok (.iload_n 3, 1) := by decide +kernel
theorem dX10_make_27 : decode cX10_make 27 = .ok (.iconst 1, 1) := by decide +kernel
theorem dX10_make_28 : decode cX10_make 28 = .ok (.iadd, 1) := by decide +kernel
theorem dX10_make_29 : decode cX10_make 29 = .ok (.iload_n 2, 1) := by decide +kernel
theorem dX10_make_30 : decode cX10_make 30 = .ok (.ifCond .eq 7, 3) := by decide +kernel
theorem dX10_make_33 : decode cX10_make 33 = .ok (.lconst 1, 1) := by decide +kernel
theorem dX10_make_34 : decode cX10_make 34 = .ok (.goto 4, 3) := by decide +kernel
theorem dX10_make_37 : decode cX10_make 37 = .ok (.lconst 0, 1) := by decide +kernel
theorem dX10_make_38 : decode cX10_make 38 = .ok (.lastore, 1) := by decide +kernel
theorem dX10_make_39 : decode cX10_make 39 = .ok (.aload_n 0, 1) := by decide +kernel
theorem dX10_make_40 : decode cX10_make 40 = .ok (.getfield 7, 3) := by decide +kernel
theorem dX10_make_43 : decode cX10_make 43 = .ok (.iload_n 3, 1) := by decide +kernel
theorem dX10_make_44 : decode cX10_make 44 = .ok (.iconst 2, 1) := by decide +kernel
theorem dX10_make_45 : decode cX10_make 45 = .ok (.iadd, 1) := by decide +kernel
theorem dX10_make_46 : decode cX10_make 46 = .ok (.aload_n 0, 1) := by decide +kernel
theorem dX10_make_47 : decode cX10_make 47 = .ok (.iload_n 1, 1) := by decide +kernel
theorem dX10_make_48 : decode cX10_make 48 = .ok (.iload_n 2, 1) := by decide +kernel
theorem dX10_make_49 : decode cX10_make 49 = .ok (.invokevirtual 219, 3) := by decide +kernel
theorem dX10_make_52 : decode cX10_make 52 = .ok (.lastore, 1) := by decide +kernel
theorem dX10_make_53 : decode cX10_make 53 = .ok (.aload_n 0, 1) := by decide +kernel
theorem dX10_make_54 : decode cX10_make 54 = .ok (.getfield 7, 3) := by decide +kernel
theorem dX10_make_57 : decode cX10_make 57 = .ok (.bipush 69, 2) := by decide +kernel
theorem dX10_make_59 : decode cX10_make 59 = .ok (.dup2, 1) := by decide +kernel
theorem dX10_make_60 : decode cX10_make 60 = .ok (.laload, 1) := by decide +kernel
theorem dX10_make_61 : decode cX10_make 61 = .ok (.lconst 1, 1) := by decide +kernel
theorem dX10_make_62 : decode cX10_make 62 = .ok (.ladd, 1) := by decide +kernel
theorem dX10_make_63 : decode cX10_make 63 = .ok (.lastore, 1) := by decide +kernel
theorem dX10_make_64 : decode cX10_make 64 = .ok (.return_, 1) := by decide +kernel
theorem dX10_run_0 : decode cX10_run 0 = .ok (.aload_n 0, 1) := by decide +kernel
theorem dX10_run_1 : decode cX10_run 1 = .ok (.aload_n 0, 1) := by decide +kernel
theorem dX10_run_2 : decode cX10_run 2 = .ok (.iload_n 1, 1) := by decide +kernel
theorem dX10_run_3 : decode cX10_run 3 = .ok (.invokevirtual 216, 3) := by decide +kernel
theorem dX10_run_6 : decode cX10_run 6 = .ok (.ifCond .eq 7, 3) := by decide +kernel
theorem dX10_run_9 : decode cX10_run 9 = .ok (.iconst 0, 1) := by decide +kernel
theorem dX10_run_10 : decode cX10_run 10 = .ok (.goto 4, 3) := by decide +kernel
theorem dX10_run_13 : decode cX10_run 13 = .ok (.iconst 1, 1) := by decide +kernel
theorem dX10_run_14 : decode cX10_run 14 = .ok (.putfield 35, 3) := by decide +kernel
theorem dX10_run_17 : decode cX10_run 17 = .ok (.aload_n 0, 1) := by decide +kernel
theorem dX10_run_18 : decode cX10_run 18 = .ok (.getfield 35, 3) := by decide +kernel
theorem dX10_run_21 : decode cX10_run 21 = .ok (.ifCond .le 5, 3) := by decide +kernel
theorem dX10_run_24 : decode cX10_run 24 = .ok (.iconst 0, 1) := by decide +kernel
theorem dX10_run_25 : decode cX10_run 25 = .ok (.ireturn, 1) := by decide +kernel
theorem dX10_run_26 : decode cX10_run 26 = .ok (.aload_n 0, 1) := by decide +kernel
theorem dX10_run_27 : decode cX10_run 27 = .ok (.aload_n 0, 1) := by decide +kernel
theorem dX10_run_28 : decode cX10_run 28 = .ok (.invokevirtual 223, 3) := by decide +kernel
theorem dX10_run_31 : decode cX10_run 31 = .ok (.putfield 226, 3) := by decide +kernel
theorem dX10_run_34 : decode cX10_run 34 = .ok (.aload_n 0, 1) := by decide +kernel
theorem dX10_run_35 : decode cX10_run 35 = .ok (.aload_n 0, 1) := by decide +kernel
theorem dX10_run_36 : decode cX10_run 36 = .ok (.getfield 226, 3) := by decide +kernel
theorem dX10_run_39 : decode cX10_run 39 = .ok (.ifCond .ne 7, 3) := by decide +kernel
theorem dX10_run_42 : decode cX10_run 42 = .ok (.iconst 0, 1) := by decide +kernel
theorem dX10_run_43 : decode cX10_run 43 = .ok (.goto 4, 3) := by decide +kernel
theorem dX10_run_46 : decode cX10_run 46 = .ok (.iconst 2, 1) := by decide +kernel
theorem dX10_run_47 : decode cX10_run 47 = .ok (.putfield 35, 3) := by decide +kernel
theorem dX10_run_50 : decode cX10_run 50 = .ok (.aload_n 0, 1) := by decide +kernel
theorem dX10_run_51 : decode cX10_run 51 = .ok (.getfield 35, 3) := by decide +kernel
theorem dX10_run_54 : decode cX10_run 54 = .ok (.ifCond .le 5, 3) := by decide +kernel
theorem dX10_run_57 : decode cX10_run 57 = .ok (.iconst 0, 1) := by decide +kernel
theorem dX10_run_58 : decode cX10_run 58 = .ok (.ireturn, 1) := by decide +kernel
theorem dX10_run_59 : decode cX10_run 59 = .ok (.aload_n 0, 1) := by decide +kernel
theorem dX10_run_60 : decode cX10_run 60 = .ok (.invokevirtual 180, 3) := by decide +kernel
theorem dX10_run_63 : decode cX10_run 63 = .ok (.aload_n 0, 1) := by decide +kernel
theorem dX10_run_64 : decode cX10_run 64 = .ok (.iload_n 1, 1) := by decide +kernel
theorem dX10_run_65 : decode cX10_run 65 = .ok (.iload_n 2, 1) := by decide +kernel
theorem dX10_run_66 : decode cX10_run 66 = .ok (.invokevirtual 229, 3) := by decide +kernel
theorem dX10_run_69 : decode cX10_run 69 = .ok (.aload_n 0, 1) := by decide +kernel
theorem dX10_run_70 : decode cX10_run 70 = .ok (.getfield 7, 3) := by decide +kernel
theorem dX10_run_73 : decode cX10_run 73 = .ok (.bipush 69, 2) := by decide +kernel
theorem dX10_run_75 : decode cX10_run 75 = .ok (.laload, 1) := by decide +kernel
theorem dX10_run_76 : decode cX10_run 76 = .ok (.l2i, 1) := by decide +kernel
theorem dX10_run_77 : decode cX10_run 77 = .ok (.iconst 1, 1) := by decide +kernel
theorem dX10_run_78 : decode cX10_run 78 = .ok (.isub, 1) := by decide +kernel
theorem dX10_run_79 : decode cX10_run 79 = .ok (.ireturn, 1) := by decide +kernel
theorem dX10_runAll_0 : decode cX10_runAll 0 = .ok (.aload_n 0, 1) := by decide +kernel
theorem dX10_runAll_1 : decode cX10_runAll 1 = .ok (.iconst 0, 1) := by decide +kernel
theorem dX10_runAll_2 : decode cX10_runAll 2 = .ok (.putfield 35, 3) := by decide +kernel
theorem dX10_runAll_5 : decode cX10_runAll 5 = .ok (.aload_n 0, 1) := by decide +kernel
theorem dX10_runAll_6 : decode cX10_runAll 6 = .ok (.invokevirtual 180, 3) := by decide +kernel
theorem dX10_runAll_9 : decode cX10_runAll 9 = .ok (.aload_n 0, 1) := by decide +kernel
theorem dX10_runAll_10 : decode cX10_runAll 10 = .ok (.iconst 0, 1) := by decide +kernel
theorem dX10_runAll_11 : decode cX10_runAll 11 = .ok (.putfield 226, 3) := by decide +kernel
theorem dX10_runAll_14 : decode cX10_runAll 14 = .ok (.iconst 0, 1) := by decide +kernel
theorem dX10_runAll_15 : decode cX10_runAll 15 = .ok (.istore_n 1, 1) := by decide +kernel
theorem dX10_runAll_16 : decode cX10_runAll 16 = .ok (.iconst 0, 1) := by decide +kernel
theorem dX10_runAll_17 : decode cX10_runAll 17 = .ok (.istore_n 2, 1) := by decide +kernel
theorem dX10_runAll_18 : decode cX10_runAll 18 = .ok (.iload_n 2, 1) := by decide +kernel
theorem dX10_runAll_19 : decode cX10_runAll 19 = .ok (.iconst 2, 1) := by decide +kernel
theorem dX10_runAll_20 : decode cX10_runAll 20 = .ok (.aload_n 0, 1) := by decide +kernel
theorem dX10_runAll_21 : decode cX10_runAll 21 = .ok (.invokevirtual 39, 3) := by decide +kernel
theorem dX10_runAll_24 : decode cX10_runAll 24 = .ok (.imul, 1) := by decide +kernel
theorem dX10_runAll_25 : decode cX10_runAll 25 = .ok (.if_icmp .ge 53, 3) := by decide +kernel
theorem dX10_runAll_28 : decode cX10_runAll 28 = .ok (.aload_n 0, 1) := by decide +kernel
theorem dX10_runAll_29 : decode cX10_runAll 29 = .ok (.getfield 226, 3) := by decide +kernel
theorem dX10_runAll_32 : decode cX10_runAll 32 = .ok (.ifCond .ne 46, 3) := by decide +kernel
theorem dX10_runAll_35 : decode cX10_runAll 35 = .ok (.aload_n 0, 1) := by decide +kernel
theorem dX10_runAll_36 : decode cX10_runAll 36 = .ok (.aload_n 0, 1) := by decide +kernel
theorem dX10_runAll_37 : decode cX10_runAll 37 = .ok (.invokevirtual 223, 3) := by decide +kernel
theorem dX10_runAll_40 : decode cX10_runAll 40 = .ok (.putfield 226, 3) := by decide +kernel
theorem dX10_runAll_43 : decode cX10_runAll 43 = .ok (.aload_n 0, 1) := by decide +kernel
theorem dX10_runAll_44 : decode cX10_runAll 44 = .ok (.getfield 226, 3) := by decide +kernel
theorem dX10_runAll_47 : decode cX10_runAll 47 = .ok (.ifCond .ne 25, 3) := by decide +kernel
theorem dX10_runAll_50 : decode cX10_runAll 50 = .ok (.aload_n 0, 1) := by decide +kernel
theorem dX10_runAll_51 : decode cX10_runAll 51 = .ok (.iload_n 2, 1) := by decide +kernel
theorem dX10_runAll_52 : decode cX10_runAll 52 = .ok (.iconst 2, 1) := by decide +kernel
theorem dX10_runAll_53 : decode cX10_runAll 53 = .ok (.idiv, 1) := by decide +kernel
theorem dX10_runAll_54 : decode cX10_runAll 54 = .ok (.iload_n 2, 1) := by decide +kernel
theorem dX10_runAll_55 : decode cX10_runAll 55 = .ok (.iconst 2, 1) := by decide +kernel
theorem dX10_runAll_56 : decode cX10_runAll 56 = .ok (.irem, 1) := by decide +kernel
theorem dX10_runAll_57 : decode cX10_runAll 57 = .ok (.iconst 1, 1) := by decide +kernel
theorem dX10_runAll_58 : decode cX10_runAll 58 = .ok (.if_icmp .ne 7, 3) := by decide +kernel
theorem dX10_runAll_61 : decode cX10_runAll 61 = .ok (.iconst 1, 1) := by decide +kernel
theorem dX10_runAll_62 : decode cX10_runAll 62 = .ok (.goto 4, 3) := by decide +kernel
theorem dX10_runAll_65 : decode cX10_runAll 65 = .ok (.iconst 0, 1) := by decide +kernel
theorem dX10_runAll_66 : decode cX10_runAll 66 = .ok (.invokevirtual 229, 3) := by decide +kernel
theorem dX10_runAll_69 : decode cX10_runAll 69 = .ok (.iinc 1 1, 3) := by decide +kernel
theorem dX10_runAll_72 : decode cX10_runAll 72 = .ok (.iinc 2 1, 3) := by decide +kernel
theorem dX10_runAll_75 : decode cX10_runAll 75 = .ok (.goto (-57), 3) := by decide +kernel
theorem dX10_runAll_78 : decode cX10_runAll 78 = .ok (.iload_n 1, 1) := by decide +kernel
theorem dX10_runAll_79 : decode cX10_runAll 79 = .ok (.ireturn, 1) := by decide +kernel
theorem dX10_forget_0 : decode cX10_forget 0 = .ok (.aload_n 0, 1) := by decide +kernel
theorem dX10_forget_1 : decode cX10_forget 1 = .ok (.iconst 0, 1) := by decide +kernel
theorem dX10_forget_2 : decode cX10_forget 2 = .ok (.putfield 35, 3) := by decide +kernel
theorem dX10_forget_5 : decode cX10_forget 5 = .ok (.aload_n 0, 1) := by decide +kernel
theorem dX10_forget_6 : decode cX10_forget 6 = .ok (.invokevirtual 180, 3) := by decide +kernel
theorem dX10_forget_9 : decode cX10_forget 9 = .ok (.aload_n 0, 1) := by decide +kernel
theorem dX10_forget_10 : decode cX10_forget 10 = .ok (.invokevirtual 183, 3) := by decide +kernel
theorem dX10_forget_13 : decode cX10_forget 13 = .ok (.ireturn, 1) := by decide +kernel
theorem dX10_append_0 : decode cX10_append 0 = .ok (.aload_n 0, 1) := by decide +kernel
theorem dX10_append_1 : decode cX10_append 1 = .ok (.iload_n 1, 1) := by decide +kernel
theorem dX10_append_2 : decode cX10_append 2 = .ok (.i2l, 1) := by decide +kernel
theorem dX10_append_3 : decode cX10_append 3 = .ok (.ldc2_w 232, 3) := by decide +kernel
theorem dX10_append_6 : decode cX10_append 6 = .ok (.ldc2_w 234, 3) := by decide +kernel
theorem dX10_append_9 : decode cX10_append 9 = .ok (.invokestatic 43, 3) := by decide +kernel
theorem dX10_append_12 : decode cX10_append 12 = .ok (.ifCond .ne 7, 3) := by decide +kernel
theorem dX10_append_15 : decode cX10_append 15 = .ok (.iconst 1, 1) := by decide +kernel
theorem dX10_append_16 : decode cX10_append 16 = .ok (.goto 17, 3) := by decide +kernel
theorem dX10_append_19 : decode cX10_append 19 = .ok (.aload_n 0, 1) := by decide +kernel
theorem dX10_append_20 : decode cX10_append 20 = .ok (.getfield 236, 3) := by decide +kernel
theorem dX10_append_23 : decode cX10_append 23 = .ok (.bipush 60, 2) := by decide +kernel
theorem dX10_append_25 : decode cX10_append 25 = .ok (.if_icmp .ne 7, 3) := by decide +kernel
theorem dX10_append_28 : decode cX10_append 28 = .ok (.iconst 2, 1) := by decide +kernel
theorem dX10_append_29 : decode cX10_append 29 = .ok (.goto 4, 3) := by decide +kernel
theorem dX10_append_32 : decode cX10_append 32 = .ok (.iconst 0, 1) := by decide +kernel
theorem dX10_append_33 : decode cX10_append 33 = .ok (.putfield 35, 3) := by decide +kernel
theorem dX10_append_36 : decode cX10_append 36 = .ok (.aload_n 0, 1) := by decide +kernel
theorem dX10_append_37 : decode cX10_append 37 = .ok (.getfield 35, 3) := by decide +kernel
theorem dX10_append_40 : decode cX10_append 40 = .ok (.ifCond .le 5, 3) := by decide +kernel
theorem dX10_append_43 : decode cX10_append 43 = .ok (.iconst 0, 1) := by decide +kernel
theorem dX10_append_44 : decode cX10_append 44 = .ok (.ireturn, 1) := by decide +kernel
theorem dX10_append_45 : decode cX10_append 45 = .ok (.aload_n 0, 1) := by decide +kernel
theorem dX10_append_46 : decode cX10_append 46 = .ok (.getfield 16, 3) := by decide +kernel
theorem dX10_append_49 : decode cX10_append 49 = .ok (.aload_n 0, 1) := by decide +kernel
theorem dX10_append_50 : decode cX10_append 50 = .ok (.getfield 236, 3) := by decide +kernel
theorem dX10_append_53 : decode cX10_append 53 = .ok (.iload_n 1, 1) := by decide +kernel
theorem dX10_append_54 : decode cX10_append 54 = .ok (.iastore, 1) := by decide +kernel
theorem dX10_append_55 : decode cX10_append 55 = .ok (.aload_n 0, 1) := by decide +kernel
theorem dX10_append_56 : decode cX10_append 56 = .ok (.dup, 1) := by decide +kernel
theorem dX10_append_57 : decode cX10_append 57 = .ok (.getfield 236, 3) := by decide +kernel
theorem dX10_append_60 : decode cX10_append 60 = .ok (.iconst 1, 1) := by decide +kernel
theorem dX10_append_61 : decode cX10_append 61 = .ok (.iadd, 1) := by decide +kernel
theorem dX10_append_62 : decode cX10_append 62 = .ok (.putfield 236, 3) := by decide +kernel
theorem dX10_append_65 : decode cX10_append 65 = .ok (.aload_n 0, 1) := by decide +kernel
theorem dX10_append_66 : decode cX10_append 66 = .ok (.getfield 236, 3) := by decide +kernel
theorem dX10_append_69 : decode cX10_append 69 = .ok (.ireturn, 1) := by decide +kernel
theorem dX10_clearBuffer_0 : decode cX10_clearBuffer 0 = .ok (.aload_n 0, 1) := by decide +kernel
theorem dX10_clearBuffer_1 : decode cX10_clearBuffer 1 = .ok (.iconst 0, 1) := by decide +kernel
theorem dX10_clearBuffer_2 : decode cX10_clearBuffer 2 = .ok (.putfield 35, 3) := by decide +kernel
theorem dX10_clearBuffer_5 : decode cX10_clearBuffer 5 = .ok (.aload_n 0, 1) := by decide +kernel
theorem dX10_clearBuffer_6 : decode cX10_clearBuffer 6 = .ok (.getfield 236, 3) := by decide +kernel
theorem dX10_clearBuffer_9 : decode cX10_clearBuffer 9 = .ok (.istore_n 1, 1) := by decide +kernel
theorem dX10_clearBuffer_10 : decode cX10_clearBuffer 10 = .ok (.aload_n 0, 1) := by decide +kernel
theorem dX10_clearBuffer_11 : decode cX10_clearBuffer 11 = .ok (.iconst 0, 1) := by decide +kernel
theorem dX10_clearBuffer_12 : decode cX10_clearBuffer 12 = .ok (.putfield 236, 3) := by decide +kernel
theorem dX10_clearBuffer_15 : decode cX10_clearBuffer 15 = .ok (.iload_n 1, 1) := by decide +kernel
theorem dX10_clearBuffer_16 : decode cX10_clearBuffer 16 = .ok (.ireturn, 1) := by decide +kernel
theorem dX10_begins_0 : decode cX10_begins 0 = .ok (.aload_n 0, 1) := by decide +kernel
theorem dX10_begins_1 : decode cX10_begins 1 = .ok (.getfield 239, 3) := by decide +kernel
theorem dX10_begins_4 : decode cX10_begins 4 = .ok (.ifCond .ne 21, 3) := by decide +kernel
theorem dX10_begins_7 : decode cX10_begins 7 = .ok (.iload_n 1, 1) := by decide +kernel
theorem dX10_begins_8 : decode cX10_begins 8 = .ok (.bipush 45, 2) := by decide +kernel
theorem dX10_begins_10 : decode cX10_begins 10 = .ok (.if_icmp .ne 15, 3) := by decide +kernel
theorem dX10_begins_13 : decode cX10_begins 13 = .ok (.aload_n 0, 1) := by decide +kernel
theorem dX10_begins_14 : decode cX10_begins 14 = .ok (.iconst 1, 1) := by decide +kernel
theorem dX10_begins_15 : decode cX10_begins 15 = .ok (.putfield 239, 3) := by decide +kernel
theorem dX10_begins_18 : decode cX10_begins 18 = .ok (.aload_n 0, 1) := by decide +kernel
theorem dX10_begins_19 : decode cX10_begins 19 = .ok (.iconst 1, 1) := by decide +kernel
theorem dX10_begins_20 : decode cX10_begins 20 = .ok (.putfield 242, 3) := by decide +kernel
theorem dX10_begins_23 : decode cX10_begins 23 = .ok (.iconst 1, 1) := by decide +kernel
theorem dX10_begins_24 : decode cX10_begins 24 = .ok (.ireturn, 1) := by decide +kernel
theorem dX10_begins_25 : decode cX10_begins 25 = .ok (.iload_n 1, 1) := by decide +kernel
theorem dX10_begins_26 : decode cX10_begins 26 = .ok (.i2l, 1) := by decide +kernel
theorem dX10_begins_27 : decode cX10_begins 27 = .ok (.aload_n 0, 1) := by decide +kernel
theorem dX10_begins_28 : decode cX10_begins 28 = .ok (.getfield 239, 3) := by decide +kernel
theorem dX10_begins_31 : decode cX10_begins 31 = .ok (.ifCond .ne 9, 3) := by decide +kernel
theorem dX10_begins_34 : decode cX10_begins 34 = .ok (.ldc2_w 246, 3) := by decide +kernel
theorem dX10_begins_37 : decode cX10_begins 37 = .ok (.goto 6, 3) := by decide +kernel
theorem dX10_begins_40 : decode cX10_begins 40 = .ok (.ldc2_w 248, 3) := by decide +kernel
theorem dX10_begins_43 : decode cX10_begins 43 = .ok (.ldc2_w 250, 3) := by decide +kernel
theorem dX10_begins_46 : decode cX10_begins 46 = .ok (.invokestatic 43, 3) := by decide +kernel
theorem dX10_begins_49 : decode cX10_begins 49 = .ok (.istore_n 2, 1) := by decide +kernel
theorem dX10_begins_50 : decode cX10_begins 50 = .ok (.aload_n 0, 1) := by decide +kernel
theorem dX10_begins_51 : decode cX10_begins 51 = .ok (.aload_n 0, 1) := by decide +kernel
theorem dX10_begins_52 : decode cX10_begins 52 = .ok (.getfield 239, 3) := by decide +kernel
theorem dX10_begins_55 : decode cX10_begins 55 = .ok (.iconst 1, 1) := by decide +kernel
theorem dX10_begins_56 : decode cX10_begins 56 = .ok (.if_icmp .ne 7, 3) := by decide +kernel
theorem dX10_begins_59 : decode cX10_begins 59 = .ok (.iconst 1, 1) := by decide +kernel
theorem dX10_begins_60 : decode cX10_begins 60 = .ok (.goto 4, 3) := by decide +kernel
theorem dX10_begins_63 : decode cX10_begins 63 = .ok (.iconst 0, 1) := by decide +kernel
theorem dX10_begins_64 : decode cX10_begins 64 = .ok (.putfield 242, 3) := by decide +kernel
theorem dX10_begins_67 : decode cX10_begins 67 = .ok (.aload_n 0, 1) := by decide +kernel
theorem dX10_begins_68 : decode cX10_begins 68 = .ok (.iload_n 1, 1) := by decide +kernel
theorem dX10_begins_69 : decode cX10_begins 69 = .ok (.bipush 48, 2) := by decide +kernel
theorem dX10_begins_71 : decode cX10_begins 71 = .ok (.isub, 1) := by decide +kernel
theorem dX10_begins_72 : decode cX10_begins 72 = .ok (.putfield 252, 3) := by decide +kernel
theorem dX10_begins_75 : decode cX10_begins 75 = .ok (.aload_n 0, 1) := by decide +kernel
theorem dX10_begins_76 : decode cX10_begins 76 = .ok (.iload_n 2, 1) := by decide +kernel
theorem dX10_begins_77 : decode cX10_begins 77 = .ok (.ifCond .eq 7, 3) := by decide +kernel
theorem dX10_begins_80 : decode cX10_begins 80 = .ok (.iconst 2, 1) := by decide +kernel
theorem dX10_begins_81 : decode cX10_begins 81 = .ok (.goto 7, 3) := by decide +kernel
theorem dX10_begins_84 : decode cX10_begins 84 = .ok (.aload_n 0, 1) := by decide +kernel
theorem dX10_begins_85 : decode cX10_begins 85 = .ok (.getfield 239, 3) := by decide +kernel
theorem dX10_begins_88 : decode cX10_begins 88 = .ok (.putfield 239, 3) := by decide +kernel
theorem dX10_begins_91 : decode cX10_begins 91 = .ok (.iload_n 2, 1) := by decide +kernel
theorem dX10_begins_92 : decode cX10_begins 92 = .ok (.ireturn, 1) := by decide +kernel
theorem dX10_endNumber_0 : decode cX10_endNumber 0 = .ok (.aload_n 0, 1) := by decide +kernel
theorem dX10_endNumber_1 : decode cX10_endNumber 1 = .ok (.getfield 24, 3) := by decide +kernel
theorem dX10_endNumber_4 : decode cX10_endNumber 4 = .ok (.aload_n 0, 1) := by decide +kernel
theorem dX10_endNumber_5 : decode cX10_endNumber 5 = .ok (.getfield 255, 3) := by decide +kernel
theorem dX10_endNumber_8 : decode cX10_endNumber 8 = .ok (.aload_n 0, 1) := by decide +kernel
theorem dX10_endNumber_9 : decode cX10_endNumber 9 = .ok (.getfield 242, 3) := by decide +kernel
theorem dX10_endNumber_12 : decode cX10_endNumber 12 = .ok (.ifCond .eq 11, 3) := by decide +kernel
theorem dX10_endNumber_15 : decode cX10_endNumber 15 = .ok (.aload_n 0, 1) := by decide +kernel
theorem dX10_endNumber_16 : decode cX10_endNumber 16 = .ok (.getfield 252, 3) := by decide +kernel
theorem dX10_endNumber_19 : decode cX10_endNumber 19 = .ok (.ineg, 1) := by decide +kernel
theorem dX10_endNumber_20 : decode cX10_endNumber 20 = .ok (.goto 7, 3) := by decide +kernel
theorem dX10_endNumber_23 : decode cX10_endNumber 23 = .ok (.aload_n 0, 1) := by decide +kernel
theorem dX10_endNumber_24 : decode cX10_endNumber 24 = .ok (.getfield 252, 3) := by decide +kernel
theorem dX10_endNumber_27 : decode cX10_endNumber 27 = .ok (.iastore, 1) := by decide +kernel
theorem dX10_endNumber_28 : decode cX10_endNumber 28 = .ok (.aload_n 0, 1) := by decide +kernel
theorem dX10_endNumber_29 : decode cX10_endNumber 29 = .ok (.dup, 1) := by decide +kernel
theorem dX10_endNumber_30 : decode cX10_endNumber 30 = .ok (.getfield 255, 3) := by decide +kernel
theorem dX10_endNumber_33 : decode cX10_endNumber 33 = .ok (.iconst 1, 1) := by decide +kernel
theorem dX10_endNumber_34 : decode cX10_endNumber 34 = .ok (.iadd, 1) := by decide +kernel
theorem dX10_endNumber_35 : decode cX10_endNumber 35 = .ok (.putfield 255, 3) := by decide +kernel
theorem dX10_endNumber_38 : decode cX10_endNumber 38 = .ok (.aload_n 0, 1) := by decide +kernel
theorem dX10_endNumber_39 : decode cX10_endNumber 39 = .ok (.iconst 0, 1) := by decide +kernel
theorem dX10_endNumber_40 : decode cX10_endNumber 40 = .ok (.putfield 239, 3) := by decide +kernel
theorem dX10_endNumber_43 : decode cX10_endNumber 43 = .ok (.return_, 1) := by decide +kernel
theorem dX10_goesOn_0 : decode cX10_goesOn 0 = .ok (.aload_n 0, 1) := by decide +kernel
theorem dX10_goesOn_1 : decode cX10_goesOn 1 = .ok (.getfield 255, 3) := by decide +kernel
theorem dX10_goesOn_4 : decode cX10_goesOn 4 = .ok (.iconst 2, 1) := by decide +kernel
theorem dX10_goesOn_5 : decode cX10_goesOn 5 = .ok (.irem, 1) := by decide +kernel
theorem dX10_goesOn_6 : decode cX10_goesOn 6 = .ok (.ifCond .ne 17, 3) := by decide +kernel
theorem dX10_goesOn_9 : decode cX10_goesOn 9 = .ok (.iload_n 1, 1) := by decide +kernel
theorem dX10_goesOn_10 : decode cX10_goesOn 10 = .ok (.bipush 44, 2) := by decide +kernel
theorem dX10_goesOn_12 : decode cX10_goesOn 12 = .ok (.if_icmp .ne 7, 3) := by decide +kernel
theorem dX10_goesOn_15 : decode cX10_goesOn 15 = .ok (.iconst 1, 1) := by decide +kernel
theorem dX10_goesOn_16 : decode cX10_goesOn 16 = .ok (.goto 29, 3) := by decide +kernel
theorem dX10_goesOn_19 : decode cX10_goesOn 19 = .ok (.iconst 0, 1) := by decide +kernel
theorem dX10_goesOn_20 : decode cX10_goesOn 20 = .ok (.goto 25, 3) := by decide +kernel
theorem dX10_goesOn_23 : decode cX10_goesOn 23 = .ok (.iload_n 1, 1) := by decide +kernel
theorem dX10_goesOn_24 : decode cX10_goesOn 24 = .ok (.bipush 59, 2) := by decide +kernel
theorem dX10_goesOn_26 : decode cX10_goesOn 26 = .ok (.if_icmp .ne 18, 3) := by decide +kernel
theorem dX10_goesOn_29 : decode cX10_goesOn 29 = .ok (.aload_n 0, 1) := by decide +kernel
theorem dX10_goesOn_30 : decode cX10_goesOn 30 = .ok (.getfield 255, 3) := by decide +kernel
theorem dX10_goesOn_33 : decode cX10_goesOn 33 = .ok (.iconst 1, 1) := by decide +kernel
theorem dX10_goesOn_34 : decode cX10_goesOn 34 = .ok (.iadd, 1) := by decide +kernel
theorem dX10_goesOn_35 : decode cX10_goesOn 35 = .ok (.bipush 40, 2) := by decide +kernel
theorem dX10_goesOn_37 : decode cX10_goesOn 37 = .ok (.if_icmp .ge 7, 3) := by decide +kernel
theorem dX10_goesOn_40 : decode cX10_goesOn 40 = .ok (.iconst 1, 1) := by decide +kernel
theorem dX10_goesOn_41 : decode cX10_goesOn 41 = .ok (.goto 4, 3) := by decide +kernel
theorem dX10_goesOn_44 : decode cX10_goesOn 44 = .ok (.iconst 0, 1) := by decide +kernel
theorem dX10_goesOn_45 : decode cX10_goesOn 45 = .ok (.istore_n 2, 1) := by decide +kernel
theorem dX10_goesOn_46 : decode cX10_goesOn 46 = .ok (.iload_n 2, 1) := by decide +kernel
theorem dX10_goesOn_47 : decode cX10_goesOn 47 = .ok (.ifCond .eq 9, 3) := by decide +kernel
theorem dX10_goesOn_50 : decode cX10_goesOn 50 = .ok (.aload_n 0, 1) := by decide +kernel
theorem dX10_goesOn_51 : decode cX10_goesOn 51 = .ok (.invokevirtual 258, 3) := by decide +kernel
theorem dX10_goesOn_54 : decode cX10_goesOn 54 = .ok (.iconst 1, 1) := by decide +kernel
theorem dX10_goesOn_55 : decode cX10_goesOn 55 = .ok (.ireturn, 1) := by decide +kernel
theorem dX10_goesOn_56 : decode cX10_goesOn 56 = .ok (.bipush 10, 2) := by decide +kernel
theorem dX10_goesOn_58 : decode cX10_goesOn 58 = .ok (.aload_n 0, 1) := by decide +kernel
theorem dX10_goesOn_59 : decode cX10_goesOn 59 = .ok (.getfield 252, 3) := by decide +kernel
theorem dX10_goesOn_62 : decode cX10_goesOn 62 = .ok (.imul, 1) := by decide +kernel
theorem dX10_goesOn_63 : decode cX10_goesOn 63 = .ok (.iload_n 1, 1) := by decide +kernel
theorem dX10_goesOn_64 : decode cX10_goesOn 64 = .ok (.iadd, 1) := by decide +kernel
theorem dX10_goesOn_65 : decode cX10_goesOn 65 = .ok (.bipush 48, 2) := by decide +kernel
theorem dX10_goesOn_67 : decode cX10_goesOn 67 = .ok (.isub, 1) := by decide +kernel
theorem dX10_goesOn_68 : decode cX10_goesOn 68 = .ok (.istore_n 3, 1) := by decide +kernel
theorem dX10_goesOn_69 : decode cX10_goesOn 69 = .ok (.iload_n 1, 1) := by decide +kernel
theorem dX10_goesOn_70 : decode cX10_goesOn 70 = .ok (.i2l, 1) := by decide +kernel
theorem dX10_goesOn_71 : decode cX10_goesOn 71 = .ok (.ldc2_w 246, 3) := by decide +kernel
theorem dX10_goesOn_74 : decode cX10_goesOn 74 = .ok (.ldc2_w 250, 3) := by decide +kernel
theorem dX10_goesOn_77 : decode cX10_goesOn 77 = .ok (.invokestatic 43, 3) := by decide +kernel
theorem dX10_goesOn_80 : decode cX10_goesOn 80 = .ok (.ifCond .eq 21, 3) := by decide +kernel
theorem dX10_goesOn_83 : decode cX10_goesOn 83 = .ok (.aload_n 0, 1) := by decide +kernel
theorem dX10_goesOn_84 : decode cX10_goesOn 84 = .ok (.getfield 252, 3) := by decide +kernel
theorem dX10_goesOn_87 : decode cX10_goesOn 87 = .ok (.ifCond .le 14, 3) := by decide +kernel
theorem dX10_goesOn_90 : decode cX10_goesOn 90 = .ok (.iload_n 3, 1) := by decide +kernel
theorem dX10_goesOn_91 : decode cX10_goesOn 91 = .ok (.sipush 1000, 3) := by decide +kernel
theorem dX10_goesOn_94 : decode cX10_goesOn 94 = .ok (.if_icmp .gt 7, 3) := by decide +kernel
theorem dX10_goesOn_97 : decode cX10_goesOn 97 = .ok (.iconst 1, 1) := by decide +kernel
theorem dX10_goesOn_98 : decode cX10_goesOn 98 = .ok (.goto 4, 3) := by decide +kernel
theorem dX10_goesOn_101 : decode cX10_goesOn 101 = .ok (.iconst 0, 1) := by decide +kernel
theorem dX10_goesOn_102 : decode cX10_goesOn 102 = .ok (.istore 4, 2) := by decide +kernel
theorem dX10_goesOn_104 : decode cX10_goesOn 104 = .ok (.aload_n 0, 1) := by decide +kernel
theorem dX10_goesOn_105 : decode cX10_goesOn 105 = .ok (.iload 4, 2) := by decide +kernel
theorem dX10_goesOn_107 : decode cX10_goesOn 107 = .ok (.ifCond .eq 7, 3) := by decide +kernel
theorem dX10_goesOn_110 : decode cX10_goesOn 110 = .ok (.iload_n 3, 1) := by decide +kernel
theorem dX10_goesOn_111 : decode cX10_goesOn 111 = .ok (.goto 7, 3) := by decide +kernel
theorem dX10_goesOn_114 : decode cX10_goesOn 114 = .ok (.aload_n 0, 1) := by decide +kernel
theorem dX10_goesOn_115 : decode cX10_goesOn 115 = .ok (.getfield 252, 3) := by decide +kernel
theorem dX10_goesOn_118 : decode cX10_goesOn 118 = .ok (.putfield 252, 3) := by decide +kernel
theorem dX10_goesOn_121 : decode cX10_goesOn 121 = .ok (.iload 4, 2) := by decide +kernel
theorem dX10_goesOn_123 : decode cX10_goesOn 123 = .ok (.ireturn, 1) := by decide +kernel
theorem dX10_readText_0 : decode cX10_readText 0 = .ok (.aload_n 0, 1) := by decide +kernel
theorem dX10_readText_1 : decode cX10_readText 1 = .ok (.iconst 0, 1) := by decide +kernel
theorem dX10_readText_2 : decode cX10_readText 2 = .ok (.putfield 239, 3) := by decide +kernel
theorem dX10_readText_5 : decode cX10_readText 5 = .ok (.aload_n 0, 1) := by decide +kernel
theorem dX10_readText_6 : decode cX10_readText 6 = .ok (.iconst 0, 1) := by decide +kernel
theorem dX10_readText_7 : decode cX10_readText 7 = .ok (.putfield 255, 3) := by decide +kernel
theorem dX10_readText_10 : decode cX10_readText 10 = .ok (.iconst 0, 1) := by decide +kernel
theorem dX10_readText_11 : decode cX10_readText 11 = .ok (.istore_n 1, 1) := by decide +kernel
theorem dX10_readText_12 : decode cX10_readText 12 = .ok (.iload_n 1, 1) := by decide +kernel
theorem dX10_readText_13 : decode cX10_readText 13 = .ok (.aload_n 0, 1) := by decide +kernel
theorem dX10_readText_14 : decode cX10_readText 14 = .ok (.getfield 236, 3) := by decide +kernel
theorem dX10_readText_17 : decode cX10_readText 17 = .ok (.if_icmp .ge 46, 3) := by decide +kernel
theorem dX10_readText_20 : decode cX10_readText 20 = .ok (.aload_n 0, 1) := by decide +kernel
theorem dX10_readText_21 : decode cX10_readText 21 = .ok (.getfield 239, 3) := by decide +kernel
theorem dX10_readText_24 : decode cX10_readText 24 = .ok (.iconst 2, 1) := by decide +kernel
theorem dX10_readText_25 : decode cX10_readText 25 = .ok (.if_icmp .ne 19, 3) := by decide +kernel
theorem dX10_readText_28 : decode cX10_readText 28 = .ok (.aload_n 0, 1) := by decide +kernel
theorem dX10_readText_29 : decode cX10_readText 29 = .ok (.aload_n 0, 1) := by decide +kernel
theorem dX10_readText_30 : decode cX10_readText 30 = .ok (.getfield 16, 3) := by decide +kernel
theorem dX10_readText_33 : decode cX10_readText 33 = .ok (.iload_n 1, 1) := by decide +kernel
theorem dX10_readText_34 : decode cX10_readText 34 = .ok (.iaload, 1) := by decide +kernel
theorem dX10_readText_35 : decode cX10_readText 35 = .ok (.invokevirtual 261, 3) := by decide +kernel
theorem dX10_readText_38 : decode cX10_readText 38 = .ok (.ifCond .eq 25, 3) := by decide +kernel
theorem dX10_readText_41 : decode cX10_readText 41 = .ok (.goto 16, 3) := by decide +kernel
theorem dX10_readText_44 : decode cX10_readText 44 = .ok (.aload_n 0, 1) := by decide +kernel
theorem dX10_readText_45 : decode cX10_readText 45 = .ok (.aload_n 0, 1) := by decide +kernel
theorem dX10_readText_46 : decode cX10_readText 46 = .ok (.getfield 16, 3) := by decide +kernel
theorem dX10_readText_49 : decode cX10_readText 49 = .ok (.iload_n 1, 1) := by decide +kernel
theorem dX10_readText_50 : decode cX10_readText 50 = .ok (.iaload, 1) := by decide +kernel
theorem dX10_readText_51 : decode cX10_readText 51 = .ok (.invokevirtual 264, 3) := by decide +kernel
theorem dX10_readText_54 : decode cX10_readText 54 = .ok (.ifCond .eq 9, 3) := by decide +kernel
theorem dX10_readText_57 : decode cX10_readText 57 = .ok (.iinc 1 1, 3) := by decide +kernel
theorem dX10_readText_60 : decode cX10_readText 60 = .ok (.goto (-48), 3) := by decide +kernel
theorem dX10_readText_63 : decode cX10_readText 63 = .ok (.iload_n 1, 1) := by decide +kernel
theorem dX10_readText_64 : decode cX10_readText 64 = .ok (.ireturn, 1) := by decide +kernel
theorem dX10_firstError_0 : decode cX10_firstError 0 = .ok (.aload_n 0, 1) := by decide +kernel
theorem dX10_firstError_1 : decode cX10_firstError 1 = .ok (.iconst 0, 1) := by decide +kernel
theorem dX10_firstError_2 : decode cX10_firstError 2 = .ok (.putfield 35, 3) := by decide +kernel
theorem dX10_firstError_5 : decode cX10_firstError 5 = .ok (.aload_n 0, 1) := by decide +kernel
theorem dX10_firstError_6 : decode cX10_firstError 6 = .ok (.invokevirtual 267, 3) := by decide +kernel
theorem dX10_firstError_9 : decode cX10_firstError 9 = .ok (.ireturn, 1) := by decide +kernel
theorem dX10_load_0 : decode cX10_load 0 = .ok (.aload_n 0, 1) := by decide +kernel
theorem dX10_load_1 : decode cX10_load 1 = .ok (.invokevirtual 267, 3) := by decide +kernel
theorem dX10_load_4 : decode cX10_load 4 = .ok (.aload_n 0, 1) := by decide +kernel
theorem dX10_load_5 : decode cX10_load 5 = .ok (.getfield 236, 3) := by decide +kernel
theorem dX10_load_8 : decode cX10_load 8 = .ok (.if_icmp .ne 33, 3) := by decide +kernel
theorem dX10_load_11 : decode cX10_load 11 = .ok (.aload_n 0, 1) := by decide +kernel
theorem dX10_load_12 : decode cX10_load 12 = .ok (.getfield 239, 3) := by decide +kernel
theorem dX10_load_15 : decode cX10_load 15 = .ok (.iconst 2, 1) := by decide +kernel
theorem dX10_load_16 : decode cX10_load 16 = .ok (.if_icmp .ne 25, 3) := by decide +kernel
theorem dX10_load_19 : decode cX10_load 19 = .ok (.aload_n 0, 1) := by decide +kernel
theorem dX10_load_20 : decode cX10_load 20 = .ok (.getfield 255, 3) := by decide +kernel
theorem dX10_load_23 : decode cX10_load 23 = .ok (.iconst 2, 1) := by decide +kernel
theorem dX10_load_24 : decode cX10_load 24 = .ok (.irem, 1) := by decide +kernel
theorem dX10_load_25 : decode cX10_load 25 = .ok (.iconst 1, 1) := by decide +kernel
theorem dX10_load_26 : decode cX10_load 26 = .ok (.if_icmp .ne 15, 3) := by decide +kernel
theorem dX10_load_29 : decode cX10_load 29 = .ok (.aload_n 0, 1) := by decide +kernel
theorem dX10_load_30 : decode cX10_load 30 = .ok (.getfield 255, 3) := by decide +kernel
theorem dX10_load_33 : decode cX10_load 33 = .ok (.iconst 4, 1) := by decide +kernel
theorem dX10_load_34 : decode cX10_load 34 = .ok (.if_icmp .le 7, 3) := by decide +kernel
theorem dX10_load_37 : decode cX10_load 37 = .ok (.iconst 1, 1) := by decide +kernel
theorem dX10_load_38 : decode cX10_load 38 = .ok (.goto 4, 3) := by decide +kernel
theorem dX10_load_41 : decode cX10_load 41 = .ok (.iconst 0, 1) := by decide +kernel
theorem dX10_load_42 : decode cX10_load 42 = .ok (.istore_n 1, 1) := by decide +kernel
theorem dX10_load_43 : decode cX10_load 43 = .ok (.aload_n 0, 1) := by decide +kernel
theorem dX10_load_44 : decode cX10_load 44 = .ok (.iload_n 1, 1) := by decide +kernel
theorem dX10_load_45 : decode cX10_load 45 = .ok (.ifCond .eq 7, 3) := by decide +kernel
theorem dX10_load_48 : decode cX10_load 48 = .ok (.iconst 0, 1) := by decide +kernel
theorem dX10_load_49 : decode cX10_load 49 = .ok (.goto 4, 3) := by decide +kernel
theorem dX10_load_52 : decode cX10_load 52 = .ok (.iconst 1, 1) := by decide +kernel
theorem dX10_load_53 : decode cX10_load 53 = .ok (.putfield 35, 3) := by decide +kernel
theorem dX10_load_56 : decode cX10_load 56 = .ok (.aload_n 0, 1) := by decide +kernel
theorem dX10_load_57 : decode cX10_load 57 = .ok (.getfield 35, 3) := by decide +kernel
theorem dX10_load_60 : decode cX10_load 60 = .ok (.ifCond .le 5, 3) := by decide +kernel
theorem dX10_load_63 : decode cX10_load 63 = .ok (.iconst 0, 1) := by decide +kernel
theorem dX10_load_64 : decode cX10_load 64 = .ok (.ireturn, 1) := by decide +kernel
theorem dX10_load_65 : decode cX10_load 65 = .ok (.aload_n 0, 1) := by decide +kernel
theorem dX10_load_66 : decode cX10_load 66 = .ok (.invokevirtual 258, 3) := by decide +kernel
theorem dX10_load_69 : decode cX10_load 69 = .ok (.aload_n 0, 1) := by decide +kernel
theorem dX10_load_70 : decode cX10_load 70 = .ok (.invokevirtual 180, 3) := by decide +kernel
theorem dX10_load_73 : decode cX10_load 73 = .ok (.aload_n 0, 1) := by decide +kernel
theorem dX10_load_74 : decode cX10_load 74 = .ok (.getfield 7, 3) := by decide +kernel
theorem dX10_load_77 : decode cX10_load 77 = .ok (.bipush 8, 2) := by decide +kernel
theorem dX10_load_79 : decode cX10_load 79 = .ok (.aload_n 0, 1) := by decide +kernel
theorem dX10_load_80 : decode cX10_load 80 = .ok (.getfield 255, 3) := by decide +kernel
theorem dX10_load_83 : decode cX10_load 83 = .ok (.iconst 2, 1) := by decide +kernel
theorem dX10_load_84 : decode cX10_load 84 = .ok (.idiv, 1) := by decide +kernel
theorem dX10_load_85 : decode cX10_load 85 = .ok (.i2l, 1) := by decide +kernel
theorem dX10_load_86 : decode cX10_load 86 = .ok (.lastore, 1) := by decide +kernel
theorem dX10_load_87 : decode cX10_load 87 = .ok (.iconst 0, 1) := by decide +kernel
theorem dX10_load_88 : decode cX10_load 88 = .ok (.istore_n 2, 1) := by decide +kernel
theorem dX10_load_89 : decode cX10_load 89 = .ok (.iload_n 2, 1) := by decide +kernel
theorem dX10_load_90 : decode cX10_load 90 = .ok (.aload_n 0, 1) := by decide +kernel
theorem dX10_load_91 : decode cX10_load 91 = .ok (.invokevirtual 39, 3) := by decide +kernel
theorem dX10_load_94 : decode cX10_load 94 = .ok (.if_icmp .ge 33, 3) := by decide +kernel
theorem dX10_load_97 : decode cX10_load 97 = .ok (.aload_n 0, 1) := by decide +kernel
theorem dX10_load_98 : decode cX10_load 98 = .ok (.iload_n 2, 1) := by decide +kernel
theorem dX10_load_99 : decode cX10_load 99 = .ok (.aload_n 0, 1) := by decide +kernel
theorem dX10_load_100 : decode cX10_load 100 = .ok (.getfield 24, 3) := by decide +kernel
theorem dX10_load_103 : decode cX10_load 103 = .ok (.iconst 2, 1) := by decide +kernel
theorem dX10_load_104 : decode cX10_load 104 = .ok (.iload_n 2, 1) := by decide +kernel
theorem dX10_load_105 : decode cX10_load 105 = .ok (.imul, 1) := by decide +kernel
theorem dX10_load_106 : decode cX10_load 106 = .ok (.iaload, 1) := by decide +kernel
theorem dX10_load_107 : decode cX10_load 107 = .ok (.aload_n 0, 1) := by decide +kernel
theorem dX10_load_108 : decode cX10_load 108 = .ok (.getfield 24, 3) := by decide +kernel
theorem dX10_load_111 : decode cX10_load 111 = .ok (.iconst 2, 1) := by decide +kernel
theorem dX10_load_112 : decode cX10_load 112 = .ok (.iload_n 2, 1) := by decide +kernel
theorem dX10_load_113 : decode cX10_load 113 = .ok (.imul, 1) := by decide +kernel
theorem dX10_load_114 : decode cX10_load 114 = .ok (.iconst 1, 1) := by decide +kernel
theorem dX10_load_115 : decode cX10_load 115 = .ok (.iadd, 1) := by decide +kernel
theorem dX10_load_116 : decode cX10_load 116 = .ok (.iaload, 1) := by decide +kernel
theorem dX10_load_117 : decode cX10_load 117 = .ok (.iconst 0, 1) := by decide +kernel
theorem dX10_load_118 : decode cX10_load 118 = .ok (.invokevirtual 212, 3) := by decide +kernel
theorem dX10_load_121 : decode cX10_load 121 = .ok (.iinc 2 1, 3) := by decide +kernel
theorem dX10_load_124 : decode cX10_load 124 = .ok (.goto (-35), 3) := by decide +kernel
theorem dX10_load_127 : decode cX10_load 127 = .ok (.aload_n 0, 1) := by decide +kernel
theorem dX10_load_128 : decode cX10_load 128 = .ok (.invokevirtual 183, 3) := by decide +kernel
theorem dX10_load_131 : decode cX10_load 131 = .ok (.pop, 1) := by decide +kernel
theorem dX10_load_132 : decode cX10_load 132 = .ok (.aload_n 0, 1) := by decide +kernel
theorem dX10_load_133 : decode cX10_load 133 = .ok (.iconst 0, 1) := by decide +kernel
theorem dX10_load_134 : decode cX10_load 134 = .ok (.putfield 236, 3) := by decide +kernel
theorem dX10_load_137 : decode cX10_load 137 = .ok (.aload_n 0, 1) := by decide +kernel
theorem dX10_load_138 : decode cX10_load 138 = .ok (.invokevirtual 39, 3) := by decide +kernel
theorem dX10_load_141 : decode cX10_load 141 = .ok (.ireturn, 1) := by decide +kernel
theorem dX10_reason_0 : decode cX10_reason 0 = .ok (.aload_n 0, 1) := by decide +kernel
theorem dX10_reason_1 : decode cX10_reason 1 = .ok (.iconst 0, 1) := by decide +kernel
theorem dX10_reason_2 : decode cX10_reason 2 = .ok (.putfield 35, 3) := by decide +kernel
theorem dX10_reason_5 : decode cX10_reason 5 = .ok (.aload_n 0, 1) := by decide +kernel
theorem dX10_reason_6 : decode cX10_reason 6 = .ok (.getfield 226, 3) := by decide +kernel
theorem dX10_reason_9 : decode cX10_reason 9 = .ok (.ireturn, 1) := by decide +kernel
theorem dX10_cornerNow_0 : decode cX10_cornerNow 0 = .ok (.iload_n 2, 1) := by decide +kernel
theorem dX10_cornerNow_1 : decode cX10_cornerNow 1 = .ok (.tableswitch 66 3 5 #[27, 34, 52], 27) := by decide +kernel
theorem dX10_cornerNow_28 : decode cX10_cornerNow 28 = .ok (.aload_n 0, 1) := by decide +kernel
theorem dX10_cornerNow_29 : decode cX10_cornerNow 29 = .ok (.iload_n 1, 1) := by decide +kernel
theorem dX10_cornerNow_30 : decode cX10_cornerNow 30 = .ok (.invokevirtual 77, 3) := by decide +kernel
theorem dX10_cornerNow_33 : decode cX10_cornerNow 33 = .ok (.i2l, 1) := by decide +kernel
theorem dX10_cornerNow_34 : decode cX10_cornerNow 34 = .ok (.lreturn, 1) := by decide +kernel
theorem dX10_cornerNow_35 : decode cX10_cornerNow 35 = .ok (.aload_n 0, 1) := by decide +kernel
theorem dX10_cornerNow_36 : decode cX10_cornerNow 36 = .ok (.iload_n 1, 1) := by decide +kernel
theorem dX10_cornerNow_37 : decode cX10_cornerNow 37 = .ok (.invokevirtual 92, 3) := by decide +kernel
theorem dX10_cornerNow_40 : decode cX10_cornerNow 40 = .ok (.ifCond .eq 11, 3) := by decide +kernel
theorem dX10_cornerNow_43 : decode cX10_cornerNow 43 = .ok (.aload_n 0, 1) := by decide +kernel
theorem dX10_cornerNow_44 : decode cX10_cornerNow 44 = .ok (.iload_n 1, 1) := by decide +kernel
theorem dX10_cornerNow_45 : decode cX10_cornerNow 45 = .ok (.invokevirtual 270, 3) := by decide +kernel
theorem dX10_cornerNow_48 : decode cX10_cornerNow 48 = .ok (.goto 4, 3) := by decide +kernel
theorem dX10_cornerNow_51 : decode cX10_cornerNow 51 = .ok (.lconst 0, 1) := by decide +kernel
theorem dX10_cornerNow_52 : decode cX10_cornerNow 52 = .ok (.lreturn, 1) := by decide +kernel
theorem dX10_cornerNow_53 : decode cX10_cornerNow 53 = .ok (.aload_n 0, 1) := by decide +kernel
theorem dX10_cornerNow_54 : decode cX10_cornerNow 54 = .ok (.iload_n 1, 1) := by decide +kernel
theorem dX10_cornerNow_55 : decode cX10_cornerNow 55 = .ok (.invokevirtual 92, 3) := by decide +kernel
theorem dX10_cornerNow_58 : decode cX10_cornerNow 58 = .ok (.ifCond .eq 7, 3) := by decide +kernel
theorem dX10_cornerNow_61 : decode cX10_cornerNow 61 = .ok (.lconst 1, 1) := by decide +kernel
theorem dX10_cornerNow_62 : decode cX10_cornerNow 62 = .ok (.goto 4, 3) := by decide +kernel
theorem dX10_cornerNow_65 : decode cX10_cornerNow 65 = .ok (.lconst 0, 1) := by decide +kernel
theorem dX10_cornerNow_66 : decode cX10_cornerNow 66 = .ok (.lreturn, 1) := by decide +kernel
theorem dX10_cornerNow_67 : decode cX10_cornerNow 67 = .ok (.aload_n 0, 1) := by decide +kernel
theorem dX10_cornerNow_68 : decode cX10_cornerNow 68 = .ok (.getfield 7, 3) := by decide +kernel
theorem dX10_cornerNow_71 : decode cX10_cornerNow 71 = .ok (.bipush 9, 2) := by decide +kernel
theorem dX10_cornerNow_73 : decode cX10_cornerNow 73 = .ok (.iconst 3, 1) := by decide +kernel
theorem dX10_cornerNow_74 : decode cX10_cornerNow 74 = .ok (.iload_n 1, 1) := by decide +kernel
theorem dX10_cornerNow_75 : decode cX10_cornerNow 75 = .ok (.imul, 1) := by decide +kernel
theorem dX10_cornerNow_76 : decode cX10_cornerNow 76 = .ok (.iadd, 1) := by decide +kernel
theorem dX10_cornerNow_77 : decode cX10_cornerNow 77 = .ok (.iload_n 2, 1) := by decide +kernel
theorem dX10_cornerNow_78 : decode cX10_cornerNow 78 = .ok (.iadd, 1) := by decide +kernel
theorem dX10_cornerNow_79 : decode cX10_cornerNow 79 = .ok (.laload, 1) := by decide +kernel
theorem dX10_cornerNow_80 : decode cX10_cornerNow 80 = .ok (.lreturn, 1) := by decide +kernel
theorem dX10_corner_0 : decode cX10_corner 0 = .ok (.aload_n 0, 1) := by decide +kernel
theorem dX10_corner_1 : decode cX10_corner 1 = .ok (.aload_n 0, 1) := by decide +kernel
theorem dX10_corner_2 : decode cX10_corner 2 = .ok (.iload_n 1, 1) := by decide +kernel
theorem dX10_corner_3 : decode cX10_corner 3 = .ok (.invokevirtual 216, 3) := by decide +kernel
theorem dX10_corner_6 : decode cX10_corner 6 = .ok (.ifCond .ne 7, 3) := by decide +kernel
theorem dX10_corner_9 : decode cX10_corner 9 = .ok (.iconst 1, 1) := by decide +kernel
theorem dX10_corner_10 : decode cX10_corner 10 = .ok (.goto 20, 3) := by decide +kernel
theorem dX10_corner_13 : decode cX10_corner 13 = .ok (.iload_n 2, 1) := by decide +kernel
theorem dX10_corner_14 : decode cX10_corner 14 = .ok (.i2l, 1) := by decide +kernel
theorem dX10_corner_15 : decode cX10_corner 15 = .ok (.lconst 0, 1) := by decide +kernel
theorem dX10_corner_16 : decode cX10_corner 16 = .ok (.ldc2_w 273, 3) := by decide +kernel
theorem dX10_corner_19 : decode cX10_corner 19 = .ok (.invokestatic 43, 3) := by decide +kernel
theorem dX10_corner_22 : decode cX10_corner 22 = .ok (.ifCond .eq 7, 3) := by decide +kernel
theorem dX10_corner_25 : decode cX10_corner 25 = .ok (.iconst 0, 1) := by decide +kernel
theorem dX10_corner_26 : decode cX10_corner 26 = .ok (.goto 4, 3) := by decide +kernel
theorem dX10_corner_29 : decode cX10_corner 29 = .ok (.iconst 2, 1) := by decide +kernel
theorem dX10_corner_30 : decode cX10_corner 30 = .ok (.putfield 35, 3) := by decide +kernel
theorem dX10_corner_33 : decode cX10_corner 33 = .ok (.aload_n 0, 1) := by decide +kernel
theorem dX10_corner_34 : decode cX10_corner 34 = .ok (.getfield 35, 3) := by decide +kernel
theorem dX10_corner_37 : decode cX10_corner 37 = .ok (.ifCond .le 7, 3) := by decide +kernel
theorem dX10_corner_40 : decode cX10_corner 40 = .ok (.lconst 0, 1) := by decide +kernel
theorem dX10_corner_41 : decode cX10_corner 41 = .ok (.goto 9, 3) := by decide +kernel
theorem dX10_corner_44 : decode cX10_corner 44 = .ok (.aload_n 0, 1) := by decide +kernel
theorem dX10_corner_45 : decode cX10_corner 45 = .ok (.iload_n 1, 1) := by decide +kernel
theorem dX10_corner_46 : decode cX10_corner 46 = .ok (.iload_n 2, 1) := by decide +kernel
theorem dX10_corner_47 : decode cX10_corner 47 = .ok (.invokevirtual 275, 3) := by decide +kernel
theorem dX10_corner_50 : decode cX10_corner 50 = .ok (.lreturn, 1) := by decide +kernel
theorem dX10_madeNow_0 : decode cX10_madeNow 0 = .ok (.iload_n 2, 1) := by decide +kernel
theorem dX10_madeNow_1 : decode cX10_madeNow 1 = .ok (.tableswitch 76 3 5 #[27, 51, 57], 27) := by decide +kernel
theorem dX10_madeNow_28 : decode cX10_madeNow 28 = .ok (.aload_n 0, 1) := by decide +kernel
theorem dX10_madeNow_29 : decode cX10_madeNow 29 = .ok (.getfield 7, 3) := by decide +kernel
theorem dX10_madeNow_32 : decode cX10_madeNow 32 = .ok (.bipush 70, 2) := by decide +kernel
theorem dX10_madeNow_34 : decode cX10_madeNow 34 = .ok (.iconst 3, 1) := by decide +kernel
theorem dX10_madeNow_35 : decode cX10_madeNow 35 = .ok (.iload_n 1, 1) := by decide +kernel
theorem dX10_madeNow_36 : decode cX10_madeNow 36 = .ok (.imul, 1) := by decide +kernel
theorem dX10_madeNow_37 : decode cX10_madeNow 37 = .ok (.iadd, 1) := by decide +kernel
theorem dX10_madeNow_38 : decode cX10_madeNow 38 = .ok (.iconst 2, 1) := by decide +kernel
theorem dX10_madeNow_39 : decode cX10_madeNow 39 = .ok (.iadd, 1) := by decide +kernel
theorem dX10_madeNow_40 : decode cX10_madeNow 40 = .ok (.laload, 1) := by decide +kernel
theorem dX10_madeNow_41 : decode cX10_madeNow 41 = .ok (.ldc2_w 112, 3) := by decide +kernel
theorem dX10_madeNow_44 : decode cX10_madeNow 44 = .ok (.aload_n 0, 1) := by decide +kernel
theorem dX10_madeNow_45 : decode cX10_madeNow 45 = .ok (.iconst 1, 1) := by decide +kernel
theorem dX10_madeNow_46 : decode cX10_madeNow 46 = .ok (.invokevirtual 57, 3) := by decide +kernel
theorem dX10_madeNow_49 : decode cX10_madeNow 49 = .ok (.lmul, 1) := by decide +kernel
theorem dX10_madeNow_50 : decode cX10_madeNow 50 = .ok (.ldiv, 1) := by decide +kernel
theorem dX10_madeNow_51 : decode cX10_madeNow 51 = .ok (.lreturn, 1) := by decide +kernel
theorem dX10_madeNow_52 : decode cX10_madeNow 52 = .ok (.aload_n 0, 1) := by decide +kernel
theorem dX10_madeNow_53 : decode cX10_madeNow 53 = .ok (.iload_n 1, 1) := by decide +kernel
theorem dX10_madeNow_54 : decode cX10_madeNow 54 = .ok (.invokevirtual 164, 3) := by decide +kernel
theorem dX10_madeNow_57 : decode cX10_madeNow 57 = .ok (.lreturn, 1) := by decide +kernel
theorem dX10_madeNow_58 : decode cX10_madeNow 58 = .ok (.aload_n 0, 1) := by decide +kernel
theorem dX10_madeNow_59 : decode cX10_madeNow 59 = .ok (.invokevirtual 170, 3) := by decide +kernel
theorem dX10_madeNow_62 : decode cX10_madeNow 62 = .ok (.aload_n 0, 1) := by decide +kernel
theorem dX10_madeNow_63 : decode cX10_madeNow 63 = .ok (.getfield 20, 3) := by decide +kernel
theorem dX10_madeNow_66 : decode cX10_madeNow 66 = .ok (.iload_n 1, 1) := by decide +kernel
theorem dX10_madeNow_67 : decode cX10_madeNow 67 = .ok (.baload, 1) := by decide +kernel
theorem dX10_madeNow_68 : decode cX10_madeNow 68 = .ok (.ifCond .eq 7, 3) := by decide +kernel
theorem dX10_madeNow_71 : decode cX10_madeNow 71 = .ok (.lconst 1, 1) := by decide +kernel
theorem dX10_madeNow_72 : decode cX10_madeNow 72 = .ok (.goto 4, 3) := by decide +kernel
theorem dX10_madeNow_75 : decode cX10_madeNow 75 = .ok (.lconst 0, 1) := by decide +kernel
theorem dX10_madeNow_76 : decode cX10_madeNow 76 = .ok (.lreturn, 1) := by decide +kernel
theorem dX10_madeNow_77 : decode cX10_madeNow 77 = .ok (.aload_n 0, 1) := by decide +kernel
theorem dX10_madeNow_78 : decode cX10_madeNow 78 = .ok (.getfield 7, 3) := by decide +kernel
theorem dX10_madeNow_81 : decode cX10_madeNow 81 = .ok (.bipush 70, 2) := by decide +kernel
theorem dX10_madeNow_83 : decode cX10_madeNow 83 = .ok (.iconst 3, 1) := by decide +kernel
theorem dX10_madeNow_84 : decode cX10_madeNow 84 = .ok (.iload_n 1, 1) := by decide +kernel
theorem dX10_madeNow_85 : decode cX10_madeNow 85 = .ok (.imul, 1) := by decide +kernel
theorem dX10_madeNow_86 : decode cX10_madeNow 86 = .ok (.iadd, 1) := by decide +kernel
theorem dX10_madeNow_87 : decode cX10_madeNow 87 = .ok (.iload_n 2, 1) := by decide +kernel
theorem dX10_madeNow_88 : decode cX10_madeNow 88 = .ok (.iadd, 1) := by decide +kernel
theorem dX10_madeNow_89 : decode cX10_madeNow 89 = .ok (.laload, 1) := by decide +kernel
theorem dX10_madeNow_90 : decode cX10_madeNow 90 = .ok (.lreturn, 1) := by decide +kernel
theorem dX10_made_0 : decode cX10_made 0 = .ok (.aload_n 0, 1) := by decide +kernel
theorem dX10_made_1 : decode cX10_made 1 = .ok (.iload_n 1, 1) := by decide +kernel
theorem dX10_made_2 : decode cX10_made 2 = .ok (.i2l, 1) := by decide +kernel
theorem dX10_made_3 : decode cX10_made 3 = .ok (.lconst 0, 1) := by decide +kernel
theorem dX10_made_4 : decode cX10_made 4 = .ok (.aload_n 0, 1) := by decide +kernel
theorem dX10_made_5 : decode cX10_made 5 = .ok (.getfield 7, 3) := by decide +kernel
theorem dX10_made_8 : decode cX10_made 8 = .ok (.bipush 69, 2) := by decide +kernel
theorem dX10_made_10 : decode cX10_made 10 = .ok (.laload, 1) := by decide +kernel
theorem dX10_made_11 : decode cX10_made 11 = .ok (.lconst 1, 1) := by decide +kernel
theorem dX10_made_12 : decode cX10_made 12 = .ok (.lsub, 1) := by decide +kernel
theorem dX10_made_13 : decode cX10_made 13 = .ok (.invokestatic 43, 3) := by decide +kernel
theorem dX10_made_16 : decode cX10_made 16 = .ok (.ifCond .ne 7, 3) := by decide +kernel
theorem dX10_made_19 : decode cX10_made 19 = .ok (.iconst 1, 1) := by decide +kernel
theorem dX10_made_20 : decode cX10_made 20 = .ok (.goto 20, 3) := by decide +kernel
theorem dX10_made_23 : decode cX10_made 23 = .ok (.iload_n 2, 1) := by decide +kernel
theorem dX10_made_24 : decode cX10_made 24 = .ok (.i2l, 1) := by decide +kernel
theorem dX10_made_25 : decode cX10_made 25 = .ok (.lconst 0, 1) := by decide +kernel
theorem dX10_made_26 : decode cX10_made 26 = .ok (.ldc2_w 273, 3) := by decide +kernel
theorem dX10_made_29 : decode cX10_made 29 = .ok (.invokestatic 43, 3) := by decide +kernel
theorem dX10_made_32 : decode cX10_made 32 = .ok (.ifCond .eq 7, 3) := by decide +kernel
theorem dX10_made_35 : decode cX10_made 35 = .ok (.iconst 0, 1) := by decide +kernel
theorem dX10_made_36 : decode cX10_made 36 = .ok (.goto 4, 3) := by decide +kernel
theorem dX10_made_39 : decode cX10_made 39 = .ok (.iconst 2, 1) := by decide +kernel
theorem dX10_made_40 : decode cX10_made 40 = .ok (.putfield 35, 3) := by decide +kernel
theorem dX10_made_43 : decode cX10_made 43 = .ok (.aload_n 0, 1) := by decide +kernel
theorem dX10_made_44 : decode cX10_made 44 = .ok (.getfield 35, 3) := by decide +kernel
theorem dX10_made_47 : decode cX10_made 47 = .ok (.ifCond .le 7, 3) := by decide +kernel
theorem dX10_made_50 : decode cX10_made 50 = .ok (.lconst 0, 1) := by decide +kernel
theorem dX10_made_51 : decode cX10_made 51 = .ok (.goto 9, 3) := by decide +kernel
theorem dX10_made_54 : decode cX10_made 54 = .ok (.aload_n 0, 1) := by decide +kernel
theorem dX10_made_55 : decode cX10_made 55 = .ok (.iload_n 1, 1) := by decide +kernel
theorem dX10_made_56 : decode cX10_made 56 = .ok (.iload_n 2, 1) := by decide +kernel
theorem dX10_made_57 : decode cX10_made 57 = .ok (.invokevirtual 278, 3) := by decide +kernel
theorem dX10_made_60 : decode cX10_made 60 = .ok (.lreturn, 1) := by decide +kernel
theorem dX10_elbowNow_0 : decode cX10_elbowNow 0 = .ok (.aload_n 0, 1) := by decide +kernel
theorem dX10_elbowNow_1 : decode cX10_elbowNow 1 = .ok (.lload_n 1, 1) := by decide +kernel
theorem dX10_elbowNow_2 : decode cX10_elbowNow 2 = .ok (.lload_n 3, 1) := by decide +kernel
theorem dX10_elbowNow_3 : decode cX10_elbowNow 3 = .ok (.invokevirtual 88, 3) := by decide +kernel
theorem dX10_elbowNow_6 : decode cX10_elbowNow 6 = .ok (.ifCond .ne 5, 3) := by decide +kernel
theorem dX10_elbowNow_9 : decode cX10_elbowNow 9 = .ok (.lconst 0, 1) := by decide +kernel
theorem dX10_elbowNow_10 : decode cX10_elbowNow 10 = .ok (.lreturn, 1) := by decide +kernel
theorem dX10_elbowNow_11 : decode cX10_elbowNow 11 = .ok (.aload_n 0, 1) := by decide +kernel
theorem dX10_elbowNow_12 : decode cX10_elbowNow 12 = .ok (.lload_n 1, 1) := by decide +kernel
theorem dX10_elbowNow_13 : decode cX10_elbowNow 13 = .ok (.lload_n 3, 1) := by decide +kernel
theorem dX10_elbowNow_14 : decode cX10_elbowNow 14 = .ok (.invokevirtual 96, 3) := by decide +kernel
theorem dX10_elbowNow_17 : decode cX10_elbowNow 17 = .ok (.iload 5, 2) := by decide +kernel
theorem dX10_elbowNow_19 : decode cX10_elbowNow 19 = .ok (.ifCond .ne 7, 3) := by decide +kernel
theorem dX10_elbowNow_22 : decode cX10_elbowNow 22 = .ok (.lconst 1, 1) := by decide +kernel
theorem dX10_elbowNow_23 : decode cX10_elbowNow 23 = .ok (.goto 20, 3) := by decide +kernel
theorem dX10_elbowNow_26 : decode cX10_elbowNow 26 = .ok (.iload 5, 2) := by decide +kernel
theorem dX10_elbowNow_28 : decode cX10_elbowNow 28 = .ok (.iconst 1, 1) := by decide +kernel
theorem dX10_elbowNow_29 : decode cX10_elbowNow 29 = .ok (.if_icmp .ne 10, 3) := by decide +kernel
theorem dX10_elbowNow_32 : decode cX10_elbowNow 32 = .ok (.aload_n 0, 1) := by decide +kernel
theorem dX10_elbowNow_33 : decode cX10_elbowNow 33 = .ok (.getfield 64, 3) := by decide +kernel
theorem dX10_elbowNow_36 : decode cX10_elbowNow 36 = .ok (.goto 7, 3) := by decide +kernel
theorem dX10_elbowNow_39 : decode cX10_elbowNow 39 = .ok (.aload_n 0, 1) := by decide +kernel
theorem dX10_elbowNow_40 : decode cX10_elbowNow 40 = .ok (.getfield 68, 3) := by decide +kernel
theorem dX10_elbowNow_43 : decode cX10_elbowNow 43 = .ok (.lreturn, 1) := by decide +kernel
theorem dX10_elbow_0 : decode cX10_elbow 0 = .ok (.aload_n 0, 1) := by decide +kernel
theorem dX10_elbow_1 : decode cX10_elbow 1 = .ok (.iload_n 1, 1) := by decide +kernel
theorem dX10_elbow_2 : decode cX10_elbow 2 = .ok (.i2l, 1) := by decide +kernel
theorem dX10_elbow_3 : decode cX10_elbow 3 = .ok (.ldc2_w 281, 3) := by decide +kernel
theorem dX10_elbow_6 : decode cX10_elbow 6 = .ok (.ldc2_w 283, 3) := by decide +kernel
theorem dX10_elbow_9 : decode cX10_elbow 9 = .ok (.invokestatic 43, 3) := by decide +kernel
theorem dX10_elbow_12 : decode cX10_elbow 12 = .ok (.ifCond .eq 33, 3) := by decide +kernel
theorem dX10_elbow_15 : decode cX10_elbow 15 = .ok (.iload_n 2, 1) := by decide +kernel
theorem dX10_elbow_16 : decode cX10_elbow 16 = .ok (.i2l, 1) := by decide +kernel
theorem dX10_elbow_17 : decode cX10_elbow 17 = .ok (.ldc2_w 281, 3) := by decide +kernel
theorem dX10_elbow_20 : decode cX10_elbow 20 = .ok (.ldc2_w 283, 3) := by decide +kernel
theorem dX10_elbow_23 : decode cX10_elbow 23 = .ok (.invokestatic 43, 3) := by decide +kernel
theorem dX10_elbow_26 : decode cX10_elbow 26 = .ok (.ifCond .eq 19, 3) := by decide +kernel
theorem dX10_elbow_29 : decode cX10_elbow 29 = .ok (.iload_n 3, 1) := by decide +kernel
theorem dX10_elbow_30 : decode cX10_elbow 30 = .ok (.i2l, 1) := by decide +kernel
theorem dX10_elbow_31 : decode cX10_elbow 31 = .ok (.lconst 0, 1) := by decide +kernel
theorem dX10_elbow_32 : decode cX10_elbow 32 = .ok (.ldc2_w 49, 3) := by decide +kernel
theorem dX10_elbow_35 : decode cX10_elbow 35 = .ok (.invokestatic 43, 3) := by decide +kernel
theorem dX10_elbow_38 : decode cX10_elbow 38 = .ok (.ifCond .eq 7, 3) := by decide +kernel
theorem dX10_elbow_41 : decode cX10_elbow 41 = .ok (.iconst 0, 1) := by decide +kernel
theorem dX10_elbow_42 : decode cX10_elbow 42 = .ok (.goto 4, 3) := by decide +kernel
theorem dX10_elbow_45 : decode cX10_elbow 45 = .ok (.iconst 1, 1) := by decide +kernel
theorem dX10_elbow_46 : decode cX10_elbow 46 = .ok (.putfield 35, 3) := by decide +kernel
theorem dX10_elbow_49 : decode cX10_elbow 49 = .ok (.aload_n 0, 1) := by decide +kernel
theorem dX10_elbow_50 : decode cX10_elbow 50 = .ok (.getfield 35, 3) := by decide +kernel
theorem dX10_elbow_53 : decode cX10_elbow 53 = .ok (.ifCond .le 7, 3) := by decide +kernel
theorem dX10_elbow_56 : decode cX10_elbow 56 = .ok (.lconst 0, 1) := by decide +kernel
theorem dX10_elbow_57 : decode cX10_elbow 57 = .ok (.goto 12, 3) := by decide +kernel
theorem dX10_elbow_60 : decode cX10_elbow 60 = .ok (.aload_n 0, 1) := by decide +kernel
theorem dX10_elbow_61 : decode cX10_elbow 61 = .ok (.iload_n 1, 1) := by decide +kernel
theorem dX10_elbow_62 : decode cX10_elbow 62 = .ok (.i2l, 1) := by decide +kernel
theorem dX10_elbow_63 : decode cX10_elbow 63 = .ok (.iload_n 2, 1) := by decide +kernel
theorem dX10_elbow_64 : decode cX10_elbow 64 = .ok (.i2l, 1) := by decide +kernel
theorem dX10_elbow_65 : decode cX10_elbow 65 = .ok (.iload_n 3, 1) := by decide +kernel
theorem dX10_elbow_66 : decode cX10_elbow 66 = .ok (.invokevirtual 285, 3) := by decide +kernel
theorem dX10_elbow_69 : decode cX10_elbow 69 = .ok (.lreturn, 1) := by decide +kernel
theorem dX10_difference_0 : decode cX10_difference 0 = .ok (.aload_n 0, 1) := by decide +kernel
theorem dX10_difference_1 : decode cX10_difference 1 = .ok (.getfield 7, 3) := by decide +kernel
theorem dX10_difference_4 : decode cX10_difference 4 = .ok (.bipush 69, 2) := by decide +kernel
theorem dX10_difference_6 : decode cX10_difference 6 = .ok (.laload, 1) := by decide +kernel
theorem dX10_difference_7 : decode cX10_difference 7 = .ok (.lconst 0, 1) := by decide +kernel
theorem dX10_difference_8 : decode cX10_difference 8 = .ok (.lcmp, 1) := by decide +kernel
theorem dX10_difference_9 : decode cX10_difference 9 = .ok (.ifCond .ne 7, 3) := by decide +kernel
theorem dX10_difference_12 : decode cX10_difference 12 = .ok (.lconst 0, 1) := by decide +kernel
theorem dX10_difference_13 : decode cX10_difference 13 = .ok (.goto 16, 3) := by decide +kernel
theorem dX10_difference_16 : decode cX10_difference 16 = .ok (.aload_n 0, 1) := by decide +kernel
theorem dX10_difference_17 : decode cX10_difference 17 = .ok (.invokevirtual 289, 3) := by decide +kernel
theorem dX10_difference_20 : decode cX10_difference 20 = .ok (.aload_n 0, 1) := by decide +kernel
theorem dX10_difference_21 : decode cX10_difference 21 = .ok (.invokevirtual 292, 3) := by decide +kernel
theorem dX10_difference_24 : decode cX10_difference 24 = .ok (.ldc2_w 49, 3) := by decide +kernel
theorem dX10_difference_27 : decode cX10_difference 27 = .ok (.ldiv, 1) := by decide +kernel
theorem dX10_difference_28 : decode cX10_difference 28 = .ok (.lsub, 1) := by decide +kernel
theorem dX10_difference_29 : decode cX10_difference 29 = .ok (.lreturn, 1) := by decide +kernel
theorem dX10_outs_0 : decode cX10_outs 0 = .ok (.aload_n 0, 1) := by decide +kernel
theorem dX10_outs_1 : decode cX10_outs 1 = .ok (.invokevirtual 170, 3) := by decide +kernel
theorem dX10_outs_4 : decode cX10_outs 4 = .ok (.aload_n 0, 1) := by decide +kernel
theorem dX10_outs_5 : decode cX10_outs 5 = .ok (.getfield 7, 3) := by decide +kernel
theorem dX10_outs_8 : decode cX10_outs 8 = .ok (.bipush 69, 2) := by decide +kernel
theorem dX10_outs_10 : decode cX10_outs 10 = .ok (.laload, 1) := by decide +kernel
theorem dX10_outs_11 : decode cX10_outs 11 = .ok (.aload_n 0, 1) := by decide +kernel
theorem dX10_outs_12 : decode cX10_outs 12 = .ok (.invokevirtual 161, 3) := by decide +kernel
theorem dX10_outs_15 : decode cX10_outs 15 = .ok (.i2l, 1) := by decide +kernel
theorem dX10_outs_16 : decode cX10_outs 16 = .ok (.lsub, 1) := by decide +kernel
theorem dX10_outs_17 : decode cX10_outs 17 = .ok (.lreturn, 1) := by decide +kernel
theorem dX10_allSteps_0 : decode cX10_allSteps 0 = .ok (.lconst 0, 1) := by decide +kernel
theorem dX10_allSteps_1 : decode cX10_allSteps 1 = .ok (.lstore_n 1, 1) := by decide +kernel
theorem dX10_allSteps_2 : decode cX10_allSteps 2 = .ok (.iconst 0, 1) := by decide +kernel
theorem dX10_allSteps_3 : decode cX10_allSteps 3 = .ok (.istore_n 3, 1) := by decide +kernel
theorem dX10_allSteps_4 : decode cX10_allSteps 4 = .ok (.iload_n 3, 1) := by decide +kernel
theorem dX10_allSteps_5 : decode cX10_allSteps 5 = .ok (.aload_n 0, 1) := by decide +kernel
theorem dX10_allSteps_6 : decode cX10_allSteps 6 = .ok (.invokevirtual 39, 3) := by decide +kernel
theorem dX10_allSteps_9 : decode cX10_allSteps 9 = .ok (.if_icmp .ge 18, 3) := by decide +kernel
theorem dX10_allSteps_12 : decode cX10_allSteps 12 = .ok (.lload_n 1, 1) := by decide +kernel
theorem dX10_allSteps_13 : decode cX10_allSteps 13 = .ok (.aload_n 0, 1) := by decide +kernel
theorem dX10_allSteps_14 : decode cX10_allSteps 14 = .ok (.iload_n 3, 1) := by decide +kernel
theorem dX10_allSteps_15 : decode cX10_allSteps 15 = .ok (.invokevirtual 77, 3) := by decide +kernel
theorem dX10_allSteps_18 : decode cX10_allSteps 18 = .ok (.i2l, 1) := by decide +kernel
theorem dX10_allSteps_19 : decode cX10_allSteps 19 = .ok (.ladd, 1) := by decide +kernel
theorem dX10_allSteps_20 : decode cX10_allSteps 20 = .ok (.lstore_n 1, 1) := by decide +kernel
theorem dX10_allSteps_21 : decode cX10_allSteps 21 = .ok (.iinc 3 1, 3) := by decide +kernel
theorem dX10_allSteps_24 : decode cX10_allSteps 24 = .ok (.goto (-20), 3) := by decide +kernel
theorem dX10_allSteps_27 : decode cX10_allSteps 27 = .ok (.lload_n 1, 1) := by decide +kernel
theorem dX10_allSteps_28 : decode cX10_allSteps 28 = .ok (.lreturn, 1) := by decide +kernel
theorem dX10_counted_0 : decode cX10_counted 0 = .ok (.iload_n 1, 1) := by decide +kernel
theorem dX10_counted_1 : decode cX10_counted 1 = .ok (.tableswitch 166 0 13 #[71, 79, 87, 94, 101, 109, 114, 123, 128, 133, 146, 151, 156, 161], 71) := by decide +kernel
theorem dX10_counted_72 : decode cX10_counted 72 = .ok (.aload_n 0, 1) := by decide +kernel
theorem dX10_counted_73 : decode cX10_counted 73 = .ok (.getfield 7, 3) := by decide +kernel
theorem dX10_counted_76 : decode cX10_counted 76 = .ok (.bipush 8, 2) := by decide +kernel
theorem dX10_counted_78 : decode cX10_counted 78 = .ok (.laload, 1) := by decide +kernel
theorem dX10_counted_79 : decode cX10_counted 79 = .ok (.lreturn, 1) := by decide +kernel
theorem dX10_counted_80 : decode cX10_counted 80 = .ok (.aload_n 0, 1) := by decide +kernel
theorem dX10_counted_81 : decode cX10_counted 81 = .ok (.getfield 7, 3) := by decide +kernel
theorem dX10_counted_84 : decode cX10_counted 84 = .ok (.bipush 69, 2) := by decide +kernel
theorem dX10_counted_86 : decode cX10_counted 86 = .ok (.laload, 1) := by decide +kernel
theorem dX10_counted_87 : decode cX10_counted 87 = .ok (.lreturn, 1) := by decide +kernel
theorem dX10_counted_88 : decode cX10_counted 88 = .ok (.aload_n 0, 1) := by decide +kernel
theorem dX10_counted_89 : decode cX10_counted 89 = .ok (.getfield 7, 3) := by decide +kernel
theorem dX10_counted_92 : decode cX10_counted 92 = .ok (.iconst 0, 1) := by decide +kernel
theorem dX10_counted_93 : decode cX10_counted 93 = .ok (.laload, 1) := by decide +kernel
theorem dX10_counted_94 : decode cX10_counted 94 = .ok (.lreturn, 1) := by decide +kernel
theorem dX10_counted_95 : decode cX10_counted 95 = .ok (.aload_n 0, 1) := by decide +kernel
theorem dX10_counted_96 : decode cX10_counted 96 = .ok (.getfield 7, 3) := by decide +kernel
theorem dX10_counted_99 : decode cX10_counted 99 = .ok (.iconst 1, 1) := by decide +kernel
theorem dX10_counted_100 : decode cX10_counted 100 = .ok (.laload, 1) := by decide +kernel
theorem dX10_counted_101 : decode cX10_counted 101 = .ok (.lreturn, 1) := by decide +kernel
theorem dX10_counted_102 : decode cX10_counted 102 = .ok (.aload_n 0, 1) := by decide +kernel
theorem dX10_counted_103 : decode cX10_counted 103 = .ok (.getfield 7, 3) := by decide +kernel
theorem dX10_counted_106 : decode cX10_counted 106 = .ok (.bipush 7, 2) := by decide +kernel
theorem dX10_counted_108 : decode cX10_counted 108 = .ok (.laload, 1) := by decide +kernel
theorem dX10_counted_109 : decode cX10_counted 109 = .ok (.lreturn, 1) := by decide +kernel
theorem dX10_counted_110 : decode cX10_counted 110 = .ok (.aload_n 0, 1) := by decide +kernel
theorem dX10_counted_111 : decode cX10_counted 111 = .ok (.invokevirtual 292, 3) := by decide +kernel
theorem dX10_counted_114 : decode cX10_counted 114 = .ok (.lreturn, 1) := by decide +kernel
theorem dX10_counted_115 : decode cX10_counted 115 = .ok (.aload_n 0, 1) := by decide +kernel
theorem dX10_counted_116 : decode cX10_counted 116 = .ok (.invokevirtual 292, 3) := by decide +kernel
theorem dX10_counted_119 : decode cX10_counted 119 = .ok (.ldc2_w 49, 3) := by decide +kernel
theorem dX10_counted_122 : decode cX10_counted 122 = .ok (.ldiv, 1) := by decide +kernel
theorem dX10_counted_123 : decode cX10_counted 123 = .ok (.lreturn, 1) := by decide +kernel
theorem dX10_counted_124 : decode cX10_counted 124 = .ok (.aload_n 0, 1) := by decide +kernel
theorem dX10_counted_125 : decode cX10_counted 125 = .ok (.invokevirtual 138, 3) := by decide +kernel
theorem dX10_counted_128 : decode cX10_counted 128 = .ok (.lreturn, 1) := by decide +kernel
theorem dX10_counted_129 : decode cX10_counted 129 = .ok (.aload_n 0, 1) := by decide +kernel
theorem dX10_counted_130 : decode cX10_counted 130 = .ok (.invokevirtual 158, 3) := by decide +kernel
theorem dX10_counted_133 : decode cX10_counted 133 = .ok (.lreturn, 1) := by decide +kernel
theorem dX10_counted_134 : decode cX10_counted 134 = .ok (.aload_n 0, 1) := by decide +kernel
theorem dX10_counted_135 : decode cX10_counted 135 = .ok (.invokevirtual 146, 3) := by decide +kernel
theorem dX10_counted_138 : decode cX10_counted 138 = .ok (.ifCond .eq 7, 3) := by decide +kernel
theorem dX10_counted_141 : decode cX10_counted 141 = .ok (.lconst 1, 1) := by decide +kernel
theorem dX10_counted_142 : decode cX10_counted 142 = .ok (.goto 4, 3) := by decide +kernel
theorem dX10_counted_145 : decode cX10_counted 145 = .ok (.lconst 0, 1) := by decide +kernel
theorem dX10_counted_146 : decode cX10_counted 146 = .ok (.lreturn, 1) := by decide +kernel
theorem dX10_counted_147 : decode cX10_counted 147 = .ok (.aload_n 0, 1) := by decide +kernel
theorem dX10_counted_148 : decode cX10_counted 148 = .ok (.invokevirtual 289, 3) := by decide +kernel
theorem dX10_counted_151 : decode cX10_counted 151 = .ok (.lreturn, 1) := by decide +kernel
theorem dX10_counted_152 : decode cX10_counted 152 = .ok (.aload_n 0, 1) := by decide +kernel
theorem dX10_counted_153 : decode cX10_counted 153 = .ok (.invokevirtual 295, 3) := by decide +kernel
theorem dX10_counted_156 : decode cX10_counted 156 = .ok (.lreturn, 1) := by decide +kernel
theorem dX10_counted_157 : decode cX10_counted 157 = .ok (.aload_n 0, 1) := by decide +kernel
theorem dX10_counted_158 : decode cX10_counted 158 = .ok (.invokevirtual 298, 3) := by decide +kernel
theorem dX10_counted_161 : decode cX10_counted 161 = .ok (.lreturn, 1) := by decide +kernel
theorem dX10_counted_162 : decode cX10_counted 162 = .ok (.aload_n 0, 1) := by decide +kernel
theorem dX10_counted_163 : decode cX10_counted 163 = .ok (.invokevirtual 301, 3) := by decide +kernel
theorem dX10_counted_166 : decode cX10_counted 166 = .ok (.lreturn, 1) := by decide +kernel
theorem dX10_counted_167 : decode cX10_counted 167 = .ok (.aload_n 0, 1) := by decide +kernel
theorem dX10_counted_168 : decode cX10_counted 168 = .ok (.getfield 173, 3) := by decide +kernel
theorem dX10_counted_171 : decode cX10_counted 171 = .ok (.i2l, 1) := by decide +kernel
theorem dX10_counted_172 : decode cX10_counted 172 = .ok (.lreturn, 1) := by decide +kernel
theorem dX10_count_0 : decode cX10_count 0 = .ok (.aload_n 0, 1) := by decide +kernel
theorem dX10_count_1 : decode cX10_count 1 = .ok (.iload_n 1, 1) := by decide +kernel
theorem dX10_count_2 : decode cX10_count 2 = .ok (.i2l, 1) := by decide +kernel
theorem dX10_count_3 : decode cX10_count 3 = .ok (.lconst 0, 1) := by decide +kernel
theorem dX10_count_4 : decode cX10_count 4 = .ok (.ldc2_w 304, 3) := by decide +kernel
theorem dX10_count_7 : decode cX10_count 7 = .ok (.invokestatic 43, 3) := by decide +kernel
theorem dX10_count_10 : decode cX10_count 10 = .ok (.ifCond .eq 7, 3) := by decide +kernel
theorem dX10_count_13 : decode cX10_count 13 = .ok (.iconst 0, 1) := by decide +kernel
theorem dX10_count_14 : decode cX10_count 14 = .ok (.goto 4, 3) := by decide +kernel
theorem dX10_count_17 : decode cX10_count 17 = .ok (.iconst 1, 1) := by decide +kernel
theorem dX10_count_18 : decode cX10_count 18 = .ok (.putfield 35, 3) := by decide +kernel
theorem dX10_count_21 : decode cX10_count 21 = .ok (.aload_n 0, 1) := by decide +kernel
theorem dX10_count_22 : decode cX10_count 22 = .ok (.getfield 35, 3) := by decide +kernel
theorem dX10_count_25 : decode cX10_count 25 = .ok (.ifCond .le 7, 3) := by decide +kernel
theorem dX10_count_28 : decode cX10_count 28 = .ok (.lconst 0, 1) := by decide +kernel
theorem dX10_count_29 : decode cX10_count 29 = .ok (.goto 8, 3) := by decide +kernel
theorem dX10_count_32 : decode cX10_count 32 = .ok (.aload_n 0, 1) := by decide +kernel
theorem dX10_count_33 : decode cX10_count 33 = .ok (.iload_n 1, 1) := by decide +kernel
theorem dX10_count_34 : decode cX10_count 34 = .ok (.invokevirtual 306, 3) := by decide +kernel
theorem dX10_count_37 : decode cX10_count 37 = .ok (.lreturn, 1) := by decide +kernel
theorem dX10_setting_0 : decode cX10_setting 0 = .ok (.aload_n 0, 1) := by decide +kernel
theorem dX10_setting_1 : decode cX10_setting 1 = .ok (.iload_n 1, 1) := by decide +kernel
theorem dX10_setting_2 : decode cX10_setting 2 = .ok (.invokestatic 194, 3) := by decide +kernel
theorem dX10_setting_5 : decode cX10_setting 5 = .ok (.ifCond .eq 7, 3) := by decide +kernel
theorem dX10_setting_8 : decode cX10_setting 8 = .ok (.iconst 0, 1) := by decide +kernel
theorem dX10_setting_9 : decode cX10_setting 9 = .ok (.goto 4, 3) := by decide +kernel
theorem dX10_setting_12 : decode cX10_setting 12 = .ok (.iconst 1, 1) := by decide +kernel
theorem dX10_setting_13 : decode cX10_setting 13 = .ok (.putfield 35, 3) := by decide +kernel
theorem dX10_setting_16 : decode cX10_setting 16 = .ok (.aload_n 0, 1) := by decide +kernel
theorem dX10_setting_17 : decode cX10_setting 17 = .ok (.getfield 35, 3) := by decide +kernel
theorem dX10_setting_20 : decode cX10_setting 20 = .ok (.ifCond .le 7, 3) := by decide +kernel
theorem dX10_setting_23 : decode cX10_setting 23 = .ok (.iconst 0, 1) := by decide +kernel
theorem dX10_setting_24 : decode cX10_setting 24 = .ok (.goto 9, 3) := by decide +kernel
theorem dX10_setting_27 : decode cX10_setting 27 = .ok (.aload_n 0, 1) := by decide +kernel
theorem dX10_setting_28 : decode cX10_setting 28 = .ok (.iload_n 1, 1) := by decide +kernel
theorem dX10_setting_29 : decode cX10_setting 29 = .ok (.invokevirtual 57, 3) := by decide +kernel
theorem dX10_setting_32 : decode cX10_setting 32 = .ok (.l2i, 1) := by decide +kernel
theorem dX10_setting_33 : decode cX10_setting 33 = .ok (.ireturn, 1) := by decide +kernel
theorem dX10_why_0 : decode cX10_why 0 = .ok (.aload_n 0, 1) := by decide +kernel
theorem dX10_why_1 : decode cX10_why 1 = .ok (.aload_n 0, 1) := by decide +kernel
theorem dX10_why_2 : decode cX10_why 2 = .ok (.iload_n 1, 1) := by decide +kernel
theorem dX10_why_3 : decode cX10_why 3 = .ok (.invokevirtual 216, 3) := by decide +kernel
theorem dX10_why_6 : decode cX10_why 6 = .ok (.ifCond .eq 7, 3) := by decide +kernel
theorem dX10_why_9 : decode cX10_why 9 = .ok (.iconst 0, 1) := by decide +kernel
theorem dX10_why_10 : decode cX10_why 10 = .ok (.goto 4, 3) := by decide +kernel
theorem dX10_why_13 : decode cX10_why 13 = .ok (.iconst 1, 1) := by decide +kernel
theorem dX10_why_14 : decode cX10_why 14 = .ok (.putfield 35, 3) := by decide +kernel
theorem dX10_why_17 : decode cX10_why 17 = .ok (.aload_n 0, 1) := by decide +kernel
theorem dX10_why_18 : decode cX10_why 18 = .ok (.getfield 35, 3) := by decide +kernel
theorem dX10_why_21 : decode cX10_why 21 = .ok (.ifCond .le 7, 3) := by decide +kernel
theorem dX10_why_24 : decode cX10_why 24 = .ok (.iconst 0, 1) := by decide +kernel
theorem dX10_why_25 : decode cX10_why 25 = .ok (.goto 7, 3) := by decide +kernel
theorem dX10_why_28 : decode cX10_why 28 = .ok (.aload_n 0, 1) := by decide +kernel
theorem dX10_why_29 : decode cX10_why 29 = .ok (.invokevirtual 223, 3) := by decide +kernel
theorem dX10_why_32 : decode cX10_why 32 = .ok (.ireturn, 1) := by decide +kernel
theorem dX10_sumWith_0 : decode cX10_sumWith 0 = .ok (.aload_n 0, 1) := by decide +kernel
theorem dX10_sumWith_1 : decode cX10_sumWith 1 = .ok (.iload_n 3, 1) := by decide +kernel
theorem dX10_sumWith_2 : decode cX10_sumWith 2 = .ok (.invokevirtual 57, 3) := by decide +kernel
theorem dX10_sumWith_5 : decode cX10_sumWith 5 = .ok (.lstore 5, 2) := by decide +kernel
theorem dX10_sumWith_7 : decode cX10_sumWith 7 = .ok (.aload_n 0, 1) := by decide +kernel
theorem dX10_sumWith_8 : decode cX10_sumWith 8 = .ok (.getfield 7, 3) := by decide +kernel
theorem dX10_sumWith_11 : decode cX10_sumWith 11 = .ok (.iconst 2, 1) := by decide +kernel
theorem dX10_sumWith_12 : decode cX10_sumWith 12 = .ok (.iload_n 3, 1) := by decide +kernel
theorem dX10_sumWith_13 : decode cX10_sumWith 13 = .ok (.iadd, 1) := by decide +kernel
theorem dX10_sumWith_14 : decode cX10_sumWith 14 = .ok (.iload 4, 2) := by decide +kernel
theorem dX10_sumWith_16 : decode cX10_sumWith 16 = .ok (.i2l, 1) := by decide +kernel
theorem dX10_sumWith_17 : decode cX10_sumWith 17 = .ok (.lastore, 1) := by decide +kernel
theorem dX10_sumWith_18 : decode cX10_sumWith 18 = .ok (.aload_n 0, 1) := by decide +kernel
theorem dX10_sumWith_19 : decode cX10_sumWith 19 = .ok (.invokevirtual 153, 3) := by decide +kernel
theorem dX10_sumWith_22 : decode cX10_sumWith 22 = .ok (.ifCond .ne 12, 3) := by decide +kernel
theorem dX10_sumWith_25 : decode cX10_sumWith 25 = .ok (.aload_n 0, 1) := by decide +kernel
theorem dX10_sumWith_26 : decode cX10_sumWith 26 = .ok (.iload_n 1, 1) := by decide +kernel
theorem dX10_sumWith_27 : decode cX10_sumWith 27 = .ok (.iload_n 2, 1) := by decide +kernel
theorem dX10_sumWith_28 : decode cX10_sumWith 28 = .ok (.invokevirtual 219, 3) := by decide +kernel
theorem dX10_sumWith_31 : decode cX10_sumWith 31 = .ok (.goto 4, 3) := by decide +kernel
theorem dX10_sumWith_34 : decode cX10_sumWith 34 = .ok (.lconst 0, 1) := by decide +kernel
theorem dX10_sumWith_35 : decode cX10_sumWith 35 = .ok (.lstore 7, 2) := by decide +kernel
theorem dX10_sumWith_37 : decode cX10_sumWith 37 = .ok (.aload_n 0, 1) := by decide +kernel
theorem dX10_sumWith_38 : decode cX10_sumWith 38 = .ok (.getfield 7, 3) := by decide +kernel
theorem dX10_sumWith_41 : decode cX10_sumWith 41 = .ok (.iconst 2, 1) := by decide +kernel
theorem dX10_sumWith_42 : decode cX10_sumWith 42 = .ok (.iload_n 3, 1) := by decide +kernel
theorem dX10_sumWith_43 : decode cX10_sumWith 43 = .ok (.iadd, 1) := by decide +kernel
theorem dX10_sumWith_44 : decode cX10_sumWith 44 = .ok (.lload 5, 2) := by decide +kernel
theorem dX10_sumWith_46 : decode cX10_sumWith 46 = .ok (.lastore, 1) := by decide +kernel
theorem dX10_sumWith_47 : decode cX10_sumWith 47 = .ok (.lload 7, 2) := by decide +kernel
theorem dX10_sumWith_49 : decode cX10_sumWith 49 = .ok (.lreturn, 1) := by decide +kernel
theorem dX10_ifSet_0 : decode cX10_ifSet 0 = .ok (.aload_n 0, 1) := by decide +kernel
theorem dX10_ifSet_1 : decode cX10_ifSet 1 = .ok (.aload_n 0, 1) := by decide +kernel
theorem dX10_ifSet_2 : decode cX10_ifSet 2 = .ok (.iload_n 1, 1) := by decide +kernel
theorem dX10_ifSet_3 : decode cX10_ifSet 3 = .ok (.invokevirtual 216, 3) := by decide +kernel
theorem dX10_ifSet_6 : decode cX10_ifSet 6 = .ok (.ifCond .eq 10, 3) := by decide +kernel
theorem dX10_ifSet_9 : decode cX10_ifSet 9 = .ok (.iload_n 3, 1) := by decide +kernel
theorem dX10_ifSet_10 : decode cX10_ifSet 10 = .ok (.invokestatic 194, 3) := by decide +kernel
theorem dX10_ifSet_13 : decode cX10_ifSet 13 = .ok (.ifCond .ne 7, 3) := by decide +kernel
theorem dX10_ifSet_16 : decode cX10_ifSet 16 = .ok (.iconst 1, 1) := by decide +kernel
theorem dX10_ifSet_17 : decode cX10_ifSet 17 = .ok (.goto 17, 3) := by decide +kernel
theorem dX10_ifSet_20 : decode cX10_ifSet 20 = .ok (.iload_n 3, 1) := by decide +kernel
theorem dX10_ifSet_21 : decode cX10_ifSet 21 = .ok (.iload 4, 2) := by decide +kernel
theorem dX10_ifSet_23 : decode cX10_ifSet 23 = .ok (.invokestatic 197, 3) := by decide +kernel
theorem dX10_ifSet_26 : decode cX10_ifSet 26 = .ok (.ifCond .eq 7, 3) := by decide +kernel
theorem dX10_ifSet_29 : decode cX10_ifSet 29 = .ok (.iconst 0, 1) := by decide +kernel
theorem dX10_ifSet_30 : decode cX10_ifSet 30 = .ok (.goto 4, 3) := by decide +kernel
theorem dX10_ifSet_33 : decode cX10_ifSet 33 = .ok (.iconst 2, 1) := by decide +kernel
theorem dX10_ifSet_34 : decode cX10_ifSet 34 = .ok (.putfield 35, 3) := by decide +kernel
theorem dX10_ifSet_37 : decode cX10_ifSet 37 = .ok (.aload_n 0, 1) := by decide +kernel
theorem dX10_ifSet_38 : decode cX10_ifSet 38 = .ok (.getfield 35, 3) := by decide +kernel
theorem dX10_ifSet_41 : decode cX10_ifSet 41 = .ok (.ifCond .le 7, 3) := by decide +kernel
theorem dX10_ifSet_44 : decode cX10_ifSet 44 = .ok (.lconst 0, 1) := by decide +kernel
theorem dX10_ifSet_45 : decode cX10_ifSet 45 = .ok (.goto 12, 3) := by decide +kernel
theorem dX10_ifSet_48 : decode cX10_ifSet 48 = .ok (.aload_n 0, 1) := by decide +kernel
theorem dX10_ifSet_49 : decode cX10_ifSet 49 = .ok (.iload_n 1, 1) := by decide +kernel
theorem dX10_ifSet_50 : decode cX10_ifSet 50 = .ok (.iload_n 2, 1) := by decide +kernel
theorem dX10_ifSet_51 : decode cX10_ifSet 51 = .ok (.iload_n 3, 1) := by decide +kernel
theorem dX10_ifSet_52 : decode cX10_ifSet 52 = .ok (.iload 4, 2) := by decide +kernel
theorem dX10_ifSet_54 : decode cX10_ifSet 54 = .ok (.invokevirtual 309, 3) := by decide +kernel
theorem dX10_ifSet_57 : decode cX10_ifSet 57 = .ok (.lreturn, 1) := by decide +kernel
theorem dX10_leastNow_0 : decode cX10_leastNow 0 = .ok (.aload_n 0, 1) := by decide +kernel
theorem dX10_leastNow_1 : decode cX10_leastNow 1 = .ok (.iconst 1, 1) := by decide +kernel
theorem dX10_leastNow_2 : decode cX10_leastNow 2 = .ok (.invokevirtual 57, 3) := by decide +kernel
theorem dX10_leastNow_5 : decode cX10_leastNow 5 = .ok (.lstore_n 1, 1) := by decide +kernel
theorem dX10_leastNow_6 : decode cX10_leastNow 6 = .ok (.iconst (-1), 1) := by decide +kernel
theorem dX10_leastNow_7 : decode cX10_leastNow 7 = .ok (.istore_n 3, 1) := by decide +kernel
theorem dX10_leastNow_8 : decode cX10_leastNow 8 = .ok (.sipush 3000, 3) := by decide +kernel
theorem dX10_leastNow_11 : decode cX10_leastNow 11 = .ok (.istore 4, 2) := by decide +kernel
theorem dX10_leastNow_13 : decode cX10_leastNow 13 = .ok (.iload 4, 2) := by decide +kernel
theorem dX10_leastNow_15 : decode cX10_leastNow 15 = .ok (.sipush 200, 3) := by decide +kernel
theorem dX10_leastNow_18 : decode cX10_leastNow 18 = .ok (.if_icmp .lt 39, 3) := by decide +kernel
theorem dX10_leastNow_21 : decode cX10_leastNow 21 = .ok (.aload_n 0, 1) := by decide +kernel
theorem dX10_leastNow_22 : decode cX10_leastNow 22 = .ok (.invokevirtual 39, 3) := by decide +kernel
theorem dX10_leastNow_25 : decode cX10_leastNow 25 = .ok (.ifCond .le 32, 3) := by decide +kernel
theorem dX10_leastNow_28 : decode cX10_leastNow 28 = .ok (.aload_n 0, 1) := by decide +kernel
theorem dX10_leastNow_29 : decode cX10_leastNow 29 = .ok (.getfield 7, 3) := by decide +kernel
theorem dX10_leastNow_32 : decode cX10_leastNow 32 = .ok (.iconst 3, 1) := by decide +kernel
theorem dX10_leastNow_33 : decode cX10_leastNow 33 = .ok (.iload 4, 2) := by decide +kernel
theorem dX10_leastNow_35 : decode cX10_leastNow 35 = .ok (.i2l, 1) := by decide +kernel
theorem dX10_leastNow_36 : decode cX10_leastNow 36 = .ok (.lastore, 1) := by decide +kernel
theorem dX10_leastNow_37 : decode cX10_leastNow 37 = .ok (.aload_n 0, 1) := by decide +kernel
theorem dX10_leastNow_38 : decode cX10_leastNow 38 = .ok (.invokevirtual 150, 3) := by decide +kernel
theorem dX10_leastNow_41 : decode cX10_leastNow 41 = .ok (.ifCond .eq 8, 3) := by decide +kernel
theorem dX10_leastNow_44 : decode cX10_leastNow 44 = .ok (.iload 4, 2) := by decide +kernel
theorem dX10_leastNow_46 : decode cX10_leastNow 46 = .ok (.goto 4, 3) := by decide +kernel
theorem dX10_leastNow_49 : decode cX10_leastNow 49 = .ok (.iload_n 3, 1) := by decide +kernel
theorem dX10_leastNow_50 : decode cX10_leastNow 50 = .ok (.istore_n 3, 1) := by decide +kernel
theorem dX10_leastNow_51 : decode cX10_leastNow 51 = .ok (.iinc 4 (-100), 3) := by decide +kernel
theorem dX10_leastNow_54 : decode cX10_leastNow 54 = .ok (.goto (-41), 3) := by decide +kernel
theorem dX10_leastNow_57 : decode cX10_leastNow 57 = .ok (.aload_n 0, 1) := by decide +kernel
theorem dX10_leastNow_58 : decode cX10_leastNow 58 = .ok (.getfield 7, 3) := by decide +kernel
theorem dX10_leastNow_61 : decode cX10_leastNow 61 = .ok (.iconst 3, 1) := by decide +kernel
theorem dX10_leastNow_62 : decode cX10_leastNow 62 = .ok (.lload_n 1, 1) := by decide +kernel
theorem dX10_leastNow_63 : decode cX10_leastNow 63 = .ok (.lastore, 1) := by decide +kernel
theorem dX10_leastNow_64 : decode cX10_leastNow 64 = .ok (.iload_n 3, 1) := by decide +kernel
theorem dX10_leastNow_65 : decode cX10_leastNow 65 = .ok (.ireturn, 1) := by decide +kernel
theorem dX10_leastArm_0 : decode cX10_leastArm 0 = .ok (.aload_n 0, 1) := by decide +kernel
theorem dX10_leastArm_1 : decode cX10_leastArm 1 = .ok (.iconst 0, 1) := by decide +kernel
theorem dX10_leastArm_2 : decode cX10_leastArm 2 = .ok (.putfield 35, 3) := by decide +kernel
theorem dX10_leastArm_5 : decode cX10_leastArm 5 = .ok (.aload_n 0, 1) := by decide +kernel
theorem dX10_leastArm_6 : decode cX10_leastArm 6 = .ok (.invokevirtual 313, 3) := by decide +kernel
theorem dX10_leastArm_9 : decode cX10_leastArm 9 = .ok (.ireturn, 1) := by decide +kernel
theorem dX10_errorNow_0 : decode cX10_errorNow 0 = .ok (.aload_n 0, 1) := by decide +kernel
theorem dX10_errorNow_1 : decode cX10_errorNow 1 = .ok (.invokevirtual 292, 3) := by decide +kernel
theorem dX10_errorNow_4 : decode cX10_errorNow 4 = .ok (.ldc2_w 49, 3) := by decide +kernel
theorem dX10_errorNow_7 : decode cX10_errorNow 7 = .ok (.ldiv, 1) := by decide +kernel
theorem dX10_errorNow_8 : decode cX10_errorNow 8 = .ok (.lstore_n 1, 1) := by decide +kernel
theorem dX10_errorNow_9 : decode cX10_errorNow 9 = .ok (.aload_n 0, 1) := by decide +kernel
theorem dX10_errorNow_10 : decode cX10_errorNow 10 = .ok (.getfield 7, 3) := by decide +kernel
theorem dX10_errorNow_13 : decode cX10_errorNow 13 = .ok (.bipush 69, 2) := by decide +kernel
theorem dX10_errorNow_15 : decode cX10_errorNow 15 = .ok (.laload, 1) := by decide +kernel
theorem dX10_errorNow_16 : decode cX10_errorNow 16 = .ok (.lconst 0, 1) := by decide +kernel
theorem dX10_errorNow_17 : decode cX10_errorNow 17 = .ok (.lcmp, 1) := by decide +kernel
theorem dX10_errorNow_18 : decode cX10_errorNow 18 = .ok (.ifCond .eq 9, 3) := by decide +kernel
theorem dX10_errorNow_21 : decode cX10_errorNow 21 = .ok (.lload_n 1, 1) := by decide +kernel
theorem dX10_errorNow_22 : decode cX10_errorNow 22 = .ok (.lconst 0, 1) := by decide +kernel
theorem dX10_errorNow_23 : decode cX10_errorNow 23 = .ok (.lcmp, 1) := by decide +kernel
theorem dX10_errorNow_24 : decode cX10_errorNow 24 = .ok (.ifCond .ne 7, 3) := by decide +kernel
theorem dX10_errorNow_27 : decode cX10_errorNow 27 = .ok (.dconst 0, 1) := by decide +kernel
theorem dX10_errorNow_28 : decode cX10_errorNow 28 = .ok (.goto 13, 3) := by decide +kernel
theorem dX10_errorNow_31 : decode cX10_errorNow 31 = .ok (.dconst 1, 1) := by decide +kernel
theorem dX10_errorNow_32 : decode cX10_errorNow 32 = .ok (.aload_n 0, 1) := by decide +kernel
theorem dX10_errorNow_33 : decode cX10_errorNow 33 = .ok (.invokevirtual 298, 3) := by decide +kernel
theorem dX10_errorNow_36 : decode cX10_errorNow 36 = .ok (.l2d, 1) := by decide +kernel
theorem dX10_errorNow_37 : decode cX10_errorNow 37 = .ok (.dmul, 1) := by decide +kernel
theorem dX10_errorNow_38 : decode cX10_errorNow 38 = .ok (.lload_n 1, 1) := by decide +kernel
theorem dX10_errorNow_39 : decode cX10_errorNow 39 = .ok (.l2d, 1) := by decide +kernel
theorem dX10_errorNow_40 : decode cX10_errorNow 40 = .ok (.ddiv, 1) := by decide +kernel
theorem dX10_errorNow_41 : decode cX10_errorNow 41 = .ok (.dreturn, 1) := by decide +kernel
theorem dX10_error_0 : decode cX10_error 0 = .ok (.aload_n 0, 1) := by decide +kernel
theorem dX10_error_1 : decode cX10_error 1 = .ok (.iconst 0, 1) := by decide +kernel
theorem dX10_error_2 : decode cX10_error 2 = .ok (.putfield 35, 3) := by decide +kernel
theorem dX10_error_5 : decode cX10_error 5 = .ok (.aload_n 0, 1) := by decide +kernel
theorem dX10_error_6 : decode cX10_error 6 = .ok (.invokevirtual 316, 3) := by decide +kernel
theorem dX10_error_9 : decode cX10_error 9 = .ok (.dreturn, 1) := by decide +kernel
theorem dX10_mix_0 : decode cX10_mix 0 = .ok (.aload_n 0, 1) := by decide +kernel
theorem dX10_mix_1 : decode cX10_mix 1 = .ok (.ldc2_w 320, 3) := by decide +kernel
theorem dX10_mix_4 : decode cX10_mix 4 = .ok (.aload_n 0, 1) := by decide +kernel
theorem dX10_mix_5 : decode cX10_mix 5 = .ok (.getfield 322, 3) := by decide +kernel
theorem dX10_mix_8 : decode cX10_mix 8 = .ok (.lmul, 1) := by decide +kernel
theorem dX10_mix_9 : decode cX10_mix 9 = .ok (.lload_n 1, 1) := by decide +kernel
theorem dX10_mix_10 : decode cX10_mix 10 = .ok (.ladd, 1) := by decide +kernel
theorem dX10_mix_11 : decode cX10_mix 11 = .ok (.putfield 322, 3) := by decide +kernel
theorem dX10_mix_14 : decode cX10_mix 14 = .ok (.return_, 1) := by decide +kernel
theorem dX10_digest_0 : decode cX10_digest 0 = .ok (.aload_n 0, 1) := by decide +kernel
theorem dX10_digest_1 : decode cX10_digest 1 = .ok (.iconst 0, 1) := by decide +kernel
theorem dX10_digest_2 : decode cX10_digest 2 = .ok (.putfield 35, 3) := by decide +kernel
theorem dX10_digest_5 : decode cX10_digest 5 = .ok (.aload_n 0, 1) := by decide +kernel
theorem dX10_digest_6 : decode cX10_digest 6 = .ok (.ldc2_w 325, 3) := by decide +kernel
theorem dX10_digest_9 : decode cX10_digest 9 = .ok (.putfield 322, 3) := by decide +kernel
theorem dX10_digest_12 : decode cX10_digest 12 = .ok (.iconst 0, 1) := by decide +kernel
theorem dX10_digest_13 : decode cX10_digest 13 = .ok (.istore_n 1, 1) := by decide +kernel
theorem dX10_digest_14 : decode cX10_digest 14 = .ok (.iload_n 1, 1) := by decide +kernel
theorem dX10_digest_15 : decode cX10_digest 15 = .ok (.bipush 15, 2) := by decide +kernel
theorem dX10_digest_17 : decode cX10_digest 17 = .ok (.if_icmp .ge 18, 3) := by decide +kernel
theorem dX10_digest_20 : decode cX10_digest 20 = .ok (.aload_n 0, 1) := by decide +kernel
theorem dX10_digest_21 : decode cX10_digest 21 = .ok (.aload_n 0, 1) := by decide +kernel
theorem dX10_digest_22 : decode cX10_digest 22 = .ok (.iload_n 1, 1) := by decide +kernel
theorem dX10_digest_23 : decode cX10_digest 23 = .ok (.invokevirtual 306, 3) := by decide +kernel
theorem dX10_digest_26 : decode cX10_digest 26 = .ok (.invokevirtual 327, 3) := by decide +kernel
theorem dX10_digest_29 : decode cX10_digest 29 = .ok (.iinc 1 1, 3) := by decide +kernel
theorem dX10_digest_32 : decode cX10_digest 32 = .ok (.goto (-18), 3) := by decide +kernel
theorem dX10_digest_35 : decode cX10_digest 35 = .ok (.iconst 0, 1) := by decide +kernel
theorem dX10_digest_36 : decode cX10_digest 36 = .ok (.istore_n 1, 1) := by decide +kernel
theorem dX10_digest_37 : decode cX10_digest 37 = .ok (.iload_n 1, 1) := by decide +kernel
theorem dX10_digest_38 : decode cX10_digest 38 = .ok (.iconst 5, 1) := by decide +kernel
theorem dX10_digest_39 : decode cX10_digest 39 = .ok (.if_icmp .ge 18, 3) := by decide +kernel
theorem dX10_digest_42 : decode cX10_digest 42 = .ok (.aload_n 0, 1) := by decide +kernel
theorem dX10_digest_43 : decode cX10_digest 43 = .ok (.aload_n 0, 1) := by decide +kernel
theorem dX10_digest_44 : decode cX10_digest 44 = .ok (.iload_n 1, 1) := by decide +kernel
theorem dX10_digest_45 : decode cX10_digest 45 = .ok (.invokevirtual 57, 3) := by decide +kernel
theorem dX10_digest_48 : decode cX10_digest 48 = .ok (.invokevirtual 327, 3) := by decide +kernel
theorem dX10_digest_51 : decode cX10_digest 51 = .ok (.iinc 1 1, 3) := by decide +kernel
theorem dX10_digest_54 : decode cX10_digest 54 = .ok (.goto (-17), 3) := by decide +kernel
theorem dX10_digest_57 : decode cX10_digest 57 = .ok (.iconst 0, 1) := by decide +kernel
theorem dX10_digest_58 : decode cX10_digest 58 = .ok (.istore_n 1, 1) := by decide +kernel
theorem dX10_digest_59 : decode cX10_digest 59 = .ok (.iload_n 1, 1) := by decide +kernel
theorem dX10_digest_60 : decode cX10_digest 60 = .ok (.bipush 6, 2) := by decide +kernel
theorem dX10_digest_62 : decode cX10_digest 62 = .ok (.aload_n 0, 1) := by decide +kernel
theorem dX10_digest_63 : decode cX10_digest 63 = .ok (.invokevirtual 39, 3) := by decide +kernel
theorem dX10_digest_66 : decode cX10_digest 66 = .ok (.imul, 1) := by decide +kernel
theorem dX10_digest_67 : decode cX10_digest 67 = .ok (.if_icmp .ge 25, 3) := by decide +kernel
theorem dX10_digest_70 : decode cX10_digest 70 = .ok (.aload_n 0, 1) := by decide +kernel
theorem dX10_digest_71 : decode cX10_digest 71 = .ok (.aload_n 0, 1) := by decide +kernel
theorem dX10_digest_72 : decode cX10_digest 72 = .ok (.iload_n 1, 1) := by decide +kernel
theorem dX10_digest_73 : decode cX10_digest 73 = .ok (.bipush 6, 2) := by decide +kernel
theorem dX10_digest_75 : decode cX10_digest 75 = .ok (.idiv, 1) := by decide +kernel
theorem dX10_digest_76 : decode cX10_digest 76 = .ok (.iload_n 1, 1) := by decide +kernel
theorem dX10_digest_77 : decode cX10_digest 77 = .ok (.bipush 6, 2) := by decide +kernel
theorem dX10_digest_79 : decode cX10_digest 79 = .ok (.irem, 1) := by decide +kernel
theorem dX10_digest_80 : decode cX10_digest 80 = .ok (.invokevirtual 275, 3) := by decide +kernel
theorem dX10_digest_83 : decode cX10_digest 83 = .ok (.invokevirtual 327, 3) := by decide +kernel
theorem dX10_digest_86 : decode cX10_digest 86 = .ok (.iinc 1 1, 3) := by decide +kernel
theorem dX10_digest_89 : decode cX10_digest 89 = .ok (.goto (-30), 3) := by decide +kernel
theorem dX10_digest_92 : decode cX10_digest 92 = .ok (.iconst 0, 1) := by decide +kernel
theorem dX10_digest_93 : decode cX10_digest 93 = .ok (.istore_n 1, 1) := by decide +kernel
theorem dX10_digest_94 : decode cX10_digest 94 = .ok (.iload_n 1, 1) := by decide +kernel
theorem dX10_digest_95 : decode cX10_digest 95 = .ok (.i2l, 1) := by decide +kernel
theorem dX10_digest_96 : decode cX10_digest 96 = .ok (.aload_n 0, 1) := by decide +kernel
theorem dX10_digest_97 : decode cX10_digest 97 = .ok (.getfield 7, 3) := by decide +kernel
theorem dX10_digest_100 : decode cX10_digest 100 = .ok (.bipush 69, 2) := by decide +kernel
theorem dX10_digest_102 : decode cX10_digest 102 = .ok (.laload, 1) := by decide +kernel
theorem dX10_digest_103 : decode cX10_digest 103 = .ok (.lcmp, 1) := by decide +kernel
theorem dX10_digest_104 : decode cX10_digest 104 = .ok (.ifCond .ge 33, 3) := by decide +kernel
theorem dX10_digest_107 : decode cX10_digest 107 = .ok (.iconst 0, 1) := by decide +kernel
theorem dX10_digest_108 : decode cX10_digest 108 = .ok (.istore_n 2, 1) := by decide +kernel
theorem dX10_digest_109 : decode cX10_digest 109 = .ok (.iload_n 2, 1) := by decide +kernel
theorem dX10_digest_110 : decode cX10_digest 110 = .ok (.bipush 6, 2) := by decide +kernel
theorem dX10_digest_112 : decode cX10_digest 112 = .ok (.if_icmp .ge 19, 3) := by decide +kernel
theorem dX10_digest_115 : decode cX10_digest 115 = .ok (.aload_n 0, 1) := by decide +kernel
theorem dX10_digest_116 : decode cX10_digest 116 = .ok (.aload_n 0, 1) := by decide +kernel
theorem dX10_digest_117 : decode cX10_digest 117 = .ok (.iload_n 1, 1) := by decide +kernel
theorem dX10_digest_118 : decode cX10_digest 118 = .ok (.iload_n 2, 1) := by decide +kernel
theorem dX10_digest_119 : decode cX10_digest 119 = .ok (.invokevirtual 278, 3) := by decide +kernel
theorem dX10_digest_122 : decode cX10_digest 122 = .ok (.invokevirtual 327, 3) := by decide +kernel
theorem dX10_digest_125 : decode cX10_digest 125 = .ok (.iinc 2 1, 3) := by decide +kernel
theorem dX10_digest_128 : decode cX10_digest 128 = .ok (.goto (-19), 3) := by decide +kernel
theorem dX10_digest_131 : decode cX10_digest 131 = .ok (.iinc 1 1, 3) := by decide +kernel
theorem dX10_digest_134 : decode cX10_digest 134 = .ok (.goto (-40), 3) := by decide +kernel
theorem dX10_digest_137 : decode cX10_digest 137 = .ok (.aload_n 0, 1) := by decide +kernel
theorem dX10_digest_138 : decode cX10_digest 138 = .ok (.aload_n 0, 1) := by decide +kernel
theorem dX10_digest_139 : decode cX10_digest 139 = .ok (.invokevirtual 313, 3) := by decide +kernel
theorem dX10_digest_142 : decode cX10_digest 142 = .ok (.i2l, 1) := by decide +kernel
theorem dX10_digest_143 : decode cX10_digest 143 = .ok (.invokevirtual 327, 3) := by decide +kernel
theorem dX10_digest_146 : decode cX10_digest 146 = .ok (.aload_n 0, 1) := by decide +kernel
theorem dX10_digest_147 : decode cX10_digest 147 = .ok (.aload_n 0, 1) := by decide +kernel
theorem dX10_digest_148 : decode cX10_digest 148 = .ok (.invokevirtual 316, 3) := by decide +kernel
theorem dX10_digest_151 : decode cX10_digest 151 = .ok (.invokestatic 331, 3) := by decide +kernel
theorem dX10_digest_154 : decode cX10_digest 154 = .ok (.invokevirtual 327, 3) := by decide +kernel
theorem dX10_digest_157 : decode cX10_digest 157 = .ok (.aload_n 0, 1) := by decide +kernel
theorem dX10_digest_158 : decode cX10_digest 158 = .ok (.aload_n 0, 1) := by decide +kernel
theorem dX10_digest_159 : decode cX10_digest 159 = .ok (.getfield 226, 3) := by decide +kernel
theorem dX10_digest_162 : decode cX10_digest 162 = .ok (.i2l, 1) := by decide +kernel
theorem dX10_digest_163 : decode cX10_digest 163 = .ok (.invokevirtual 327, 3) := by decide +kernel
theorem dX10_digest_166 : decode cX10_digest 166 = .ok (.aload_n 0, 1) := by decide +kernel
theorem dX10_digest_167 : decode cX10_digest 167 = .ok (.aload_n 0, 1) := by decide +kernel
theorem dX10_digest_168 : decode cX10_digest 168 = .ok (.getfield 236, 3) := by decide +kernel
theorem dX10_digest_171 : decode cX10_digest 171 = .ok (.i2l, 1) := by decide +kernel
theorem dX10_digest_172 : decode cX10_digest 172 = .ok (.invokevirtual 327, 3) := by decide +kernel
theorem dX10_digest_175 : decode cX10_digest 175 = .ok (.iconst 0, 1) := by decide +kernel
theorem dX10_digest_176 : decode cX10_digest 176 = .ok (.istore_n 1, 1) := by decide +kernel
theorem dX10_digest_177 : decode cX10_digest 177 = .ok (.iload_n 1, 1) := by decide +kernel
theorem dX10_digest_178 : decode cX10_digest 178 = .ok (.aload_n 0, 1) := by decide +kernel
theorem dX10_digest_179 : decode cX10_digest 179 = .ok (.getfield 236, 3) := by decide +kernel
theorem dX10_digest_182 : decode cX10_digest 182 = .ok (.if_icmp .ge 20, 3) := by decide +kernel
theorem dX10_digest_185 : decode cX10_digest 185 = .ok (.aload_n 0, 1) := by decide +kernel
theorem dX10_digest_186 : decode cX10_digest 186 = .ok (.aload_n 0, 1) := by decide +kernel
theorem dX10_digest_187 : decode cX10_digest 187 = .ok (.getfield 16, 3) := by decide +kernel
theorem dX10_digest_190 : decode cX10_digest 190 = .ok (.iload_n 1, 1) := by decide +kernel
theorem dX10_digest_191 : decode cX10_digest 191 = .ok (.iaload, 1) := by decide +kernel
theorem dX10_digest_192 : decode cX10_digest 192 = .ok (.i2l, 1) := by decide +kernel
theorem dX10_digest_193 : decode cX10_digest 193 = .ok (.invokevirtual 327, 3) := by decide +kernel
theorem dX10_digest_196 : decode cX10_digest 196 = .ok (.iinc 1 1, 3) := by decide +kernel
theorem dX10_digest_199 : decode cX10_digest 199 = .ok (.goto (-22), 3) := by decide +kernel
theorem dX10_digest_202 : decode cX10_digest 202 = .ok (.aload_n 0, 1) := by decide +kernel
theorem dX10_digest_203 : decode cX10_digest 203 = .ok (.getfield 322, 3) := by decide +kernel
theorem dX10_digest_206 : decode cX10_digest 206 = .ok (.lreturn, 1) := by decide +kernel
