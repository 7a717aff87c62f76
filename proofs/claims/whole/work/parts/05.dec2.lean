theorem dX9_init_0 : decode cX9_init 0 = .ok (.aload_n 0, 1) := by decide +kernel
theorem dX9_init_1 : decode cX9_init 1 = .ok (.invokespecial 1, 3) := by decide +kernel
theorem dX9_init_4 : decode cX9_init 4 = .ok (.aload_n 0, 1) := by decide +kernel
theorem dX9_init_5 : decode cX9_init 5 = .ok (.new 7, 3) := by decide +kernel
theorem dX9_init_8 : decode cX9_init 8 = .ok (.dup, 1) := by decide +kernel
theorem dX9_init_9 : decode cX9_init 9 = .ok (.invokespecial 9, 3) := by decide +kernel
theorem dX9_init_12 : decode cX9_init 12 = .ok (.putfield 10, 3) := by decide +kernel
theorem dX9_init_15 : decode cX9_init 15 = .ok (.aload_n 0, 1) := by decide +kernel
theorem dX9_init_16 : decode cX9_init 16 = .ok (.new 7, 3) := by decide +kernel
theorem dX9_init_19 : decode cX9_init 19 = .ok (.dup, 1) := by decide +kernel
theorem dX9_init_20 : decode cX9_init 20 = .ok (.invokespecial 9, 3) := by decide +kernel
theorem dX9_init_23 : decode cX9_init 23 = .ok (.putfield 16, 3) := by decide +kernel
theorem dX9_init_26 : decode cX9_init 26 = .ok (.aload_n 0, 1) := by decide +kernel
theorem dX9_init_27 : decode cX9_init 27 = .ok (.new 19, 3) := by decide +kernel
theorem dX9_init_30 : decode cX9_init 30 = .ok (.dup, 1) := by decide +kernel
theorem dX9_init_31 : decode cX9_init 31 = .ok (.invokespecial 21, 3) := by decide +kernel
theorem dX9_init_34 : decode cX9_init 34 = .ok (.putfield 22, 3) := by decide +kernel
theorem dX9_init_37 : decode cX9_init 37 = .ok (.aload_n 0, 1) := by decide +kernel
theorem dX9_init_38 : decode cX9_init 38 = .ok (.new 26, 3) := by decide +kernel
theorem dX9_init_41 : decode cX9_init 41 = .ok (.dup, 1) := by decide +kernel
theorem dX9_init_42 : decode cX9_init 42 = .ok (.invokespecial 28, 3) := by decide +kernel
theorem dX9_init_45 : decode cX9_init 45 = .ok (.putfield 29, 3) := by decide +kernel
theorem dX9_init_48 : decode cX9_init 48 = .ok (.aload_n 0, 1) := by decide +kernel
theorem dX9_init_49 : decode cX9_init 49 = .ok (.new 33, 3) := by decide +kernel
theorem dX9_init_52 : decode cX9_init 52 = .ok (.dup, 1) := by decide +kernel
theorem dX9_init_53 : decode cX9_init 53 = .ok (.invokespecial 35, 3) := by decide +kernel
theorem dX9_init_56 : decode cX9_init 56 = .ok (.putfield 36, 3) := by decide +kernel
theorem dX9_init_59 : decode cX9_init 59 = .ok (.aload_n 0, 1) := by decide +kernel
theorem dX9_init_60 : decode cX9_init 60 = .ok (.new 40, 3) := by decide +kernel
theorem dX9_init_63 : decode cX9_init 63 = .ok (.dup, 1) := by decide +kernel
theorem dX9_init_64 : decode cX9_init 64 = .ok (.invokespecial 42, 3) := by decide +kernel
theorem dX9_init_67 : decode cX9_init 67 = .ok (.putfield 43, 3) := by decide +kernel
theorem dX9_init_70 : decode cX9_init 70 = .ok (.aload_n 0, 1) := by decide +kernel
theorem dX9_init_71 : decode cX9_init 71 = .ok (.bipush 60, 2) := by decide +kernel
theorem dX9_init_73 : decode cX9_init 73 = .ok (.newarray .int, 2) := by decide +kernel
theorem dX9_init_75 : decode cX9_init 75 = .ok (.putfield 47, 3) := by decide +kernel
theorem dX9_init_78 : decode cX9_init 78 = .ok (.return_, 1) := by decide +kernel
theorem dX9_setAnchor_0 : decode cX9_setAnchor 0 = .ok (.iload_n 1, 1) := by decide +kernel
theorem dX9_setAnchor_1 : decode cX9_setAnchor 1 = .ok (.sipush 2000, 3) := by decide +kernel
theorem dX9_setAnchor_4 : decode cX9_setAnchor 4 = .ok (.invokestatic 51, 3) := by decide +kernel
theorem dX9_setAnchor_7 : decode cX9_setAnchor 7 = .ok (.ifCond .eq 13, 3) := by decide +kernel
theorem dX9_setAnchor_10 : decode cX9_setAnchor 10 = .ok (.iload_n 2, 1) := by decide +kernel
theorem dX9_setAnchor_11 : decode cX9_setAnchor 11 = .ok (.sipush 2000, 3) := by decide +kernel
theorem dX9_setAnchor_14 : decode cX9_setAnchor 14 = .ok (.invokestatic 51, 3) := by decide +kernel
theorem dX9_setAnchor_17 : decode cX9_setAnchor 17 = .ok (.ifCond .ne 13, 3) := by decide +kernel
theorem dX9_setAnchor_20 : decode cX9_setAnchor 20 = .ok (.new 55, 3) := by decide +kernel
theorem dX9_setAnchor_23 : decode cX9_setAnchor 23 = .ok (.dup, 1) := by decide +kernel
theorem dX9_setAnchor_24 : decode cX9_setAnchor 24 = .ok (.ldc 57, 2) := by decide +kernel
theorem dX9_setAnchor_26 : decode cX9_setAnchor 26 = .ok (.invokespecial 59, 3) := by decide +kernel
theorem dX9_setAnchor_29 : decode cX9_setAnchor 29 = .ok (.athrow, 1) := by decide +kernel
theorem dX9_setAnchor_30 : decode cX9_setAnchor 30 = .ok (.aload_n 0, 1) := by decide +kernel
theorem dX9_setAnchor_31 : decode cX9_setAnchor 31 = .ok (.getfield 22, 3) := by decide +kernel
theorem dX9_setAnchor_34 : decode cX9_setAnchor 34 = .ok (.aload_n 0, 1) := by decide +kernel
theorem dX9_setAnchor_35 : decode cX9_setAnchor 35 = .ok (.getfield 10, 3) := by decide +kernel
theorem dX9_setAnchor_38 : decode cX9_setAnchor 38 = .ok (.invokevirtual 62, 3) := by decide +kernel
theorem dX9_setAnchor_41 : decode cX9_setAnchor 41 = .ok (.aload_n 0, 1) := by decide +kernel
theorem dX9_setAnchor_42 : decode cX9_setAnchor 42 = .ok (.getfield 10, 3) := by decide +kernel
theorem dX9_setAnchor_45 : decode cX9_setAnchor 45 = .ok (.iload_n 1, 1) := by decide +kernel
theorem dX9_setAnchor_46 : decode cX9_setAnchor 46 = .ok (.putfield 66, 3) := by decide +kernel
theorem dX9_setAnchor_49 : decode cX9_setAnchor 49 = .ok (.aload_n 0, 1) := by decide +kernel
theorem dX9_setAnchor_50 : decode cX9_setAnchor 50 = .ok (.getfield 10, 3) := by decide +kernel
theorem dX9_setAnchor_53 : decode cX9_setAnchor 53 = .ok (.iload_n 2, 1) := by decide +kernel
theorem dX9_setAnchor_54 : decode cX9_setAnchor 54 = .ok (.putfield 70, 3) := by decide +kernel
theorem dX9_setAnchor_57 : decode cX9_setAnchor 57 = .ok (.aload_n 0, 1) := by decide +kernel
theorem dX9_setAnchor_58 : decode cX9_setAnchor 58 = .ok (.getfield 10, 3) := by decide +kernel
theorem dX9_setAnchor_61 : decode cX9_setAnchor 61 = .ok (.getfield 73, 3) := by decide +kernel
theorem dX9_setAnchor_64 : decode cX9_setAnchor 64 = .ok (.invokevirtual 77, 3) := by decide +kernel
theorem dX9_setAnchor_67 : decode cX9_setAnchor 67 = .ok (.ireturn, 1) := by decide +kernel
theorem dX9_set_0 : decode cX9_set 0 = .ok (.iload_n 1, 1) := by decide +kernel
theorem dX9_set_1 : decode cX9_set 1 = .ok (.invokestatic 83, 3) := by decide +kernel
theorem dX9_set_4 : decode cX9_set 4 = .ok (.iload_n 1, 1) := by decide +kernel
theorem dX9_set_5 : decode cX9_set 5 = .ok (.iload_n 2, 1) := by decide +kernel
theorem dX9_set_6 : decode cX9_set 6 = .ok (.invokestatic 87, 3) := by decide +kernel
theorem dX9_set_9 : decode cX9_set 9 = .ok (.aload_n 0, 1) := by decide +kernel
theorem dX9_set_10 : decode cX9_set 10 = .ok (.getfield 22, 3) := by decide +kernel
theorem dX9_set_13 : decode cX9_set 13 = .ok (.aload_n 0, 1) := by decide +kernel
theorem dX9_set_14 : decode cX9_set 14 = .ok (.getfield 10, 3) := by decide +kernel
theorem dX9_set_17 : decode cX9_set 17 = .ok (.invokevirtual 62, 3) := by decide +kernel
theorem dX9_set_20 : decode cX9_set 20 = .ok (.aload_n 0, 1) := by decide +kernel
theorem dX9_set_21 : decode cX9_set 21 = .ok (.getfield 10, 3) := by decide +kernel
theorem dX9_set_24 : decode cX9_set 24 = .ok (.getfield 91, 3) := by decide +kernel
theorem dX9_set_27 : decode cX9_set 27 = .ok (.iload_n 1, 1) := by decide +kernel
theorem dX9_set_28 : decode cX9_set 28 = .ok (.iaload, 1) := by decide +kernel
theorem dX9_set_29 : decode cX9_set 29 = .ok (.istore_n 3, 1) := by decide +kernel
theorem dX9_set_30 : decode cX9_set 30 = .ok (.aload_n 0, 1) := by decide +kernel
theorem dX9_set_31 : decode cX9_set 31 = .ok (.getfield 10, 3) := by decide +kernel
theorem dX9_set_34 : decode cX9_set 34 = .ok (.getfield 91, 3) := by decide +kernel
theorem dX9_set_37 : decode cX9_set 37 = .ok (.iload_n 1, 1) := by decide +kernel
theorem dX9_set_38 : decode cX9_set 38 = .ok (.iload_n 2, 1) := by decide +kernel
theorem dX9_set_39 : decode cX9_set 39 = .ok (.iastore, 1) := by decide +kernel
theorem dX9_set_40 : decode cX9_set 40 = .ok (.aload_n 0, 1) := by decide +kernel
theorem dX9_set_41 : decode cX9_set 41 = .ok (.getfield 10, 3) := by decide +kernel
theorem dX9_set_44 : decode cX9_set 44 = .ok (.getfield 73, 3) := by decide +kernel
theorem dX9_set_47 : decode cX9_set 47 = .ok (.invokevirtual 77, 3) := by decide +kernel
theorem dX9_set_50 : decode cX9_set 50 = .ok (.pop, 1) := by decide +kernel
theorem dX9_set_51 : decode cX9_set 51 = .ok (.iload_n 3, 1) := by decide +kernel
theorem dX9_set_52 : decode cX9_set 52 = .ok (.ireturn, 1) := by decide +kernel
theorem dX9_setTolerance_0 : decode cX9_setTolerance 0 = .ok (.iload_n 1, 1) := by decide +kernel
theorem dX9_setTolerance_1 : decode cX9_setTolerance 1 = .ok (.ifCond .lt 9, 3) := by decide +kernel
theorem dX9_setTolerance_4 : decode cX9_setTolerance 4 = .ok (.iload_n 1, 1) := by decide +kernel
theorem dX9_setTolerance_5 : decode cX9_setTolerance 5 = .ok (.ldc 94, 2) := by decide +kernel
theorem dX9_setTolerance_7 : decode cX9_setTolerance 7 = .ok (.if_icmp .le 13, 3) := by decide +kernel
theorem dX9_setTolerance_10 : decode cX9_setTolerance 10 = .ok (.new 55, 3) := by decide +kernel
theorem dX9_setTolerance_13 : decode cX9_setTolerance 13 = .ok (.dup, 1) := by decide +kernel
theorem dX9_setTolerance_14 : decode cX9_setTolerance 14 = .ok (.ldc 95, 2) := by decide +kernel
theorem dX9_setTolerance_16 : decode cX9_setTolerance 16 = .ok (.invokespecial 59, 3) := by decide +kernel
theorem dX9_setTolerance_19 : decode cX9_setTolerance 19 = .ok (.athrow, 1) := by decide +kernel
theorem dX9_setTolerance_20 : decode cX9_setTolerance 20 = .ok (.aload_n 0, 1) := by decide +kernel
theorem dX9_setTolerance_21 : decode cX9_setTolerance 21 = .ok (.getfield 22, 3) := by decide +kernel
theorem dX9_setTolerance_24 : decode cX9_setTolerance 24 = .ok (.aload_n 0, 1) := by decide +kernel
theorem dX9_setTolerance_25 : decode cX9_setTolerance 25 = .ok (.getfield 10, 3) := by decide +kernel
theorem dX9_setTolerance_28 : decode cX9_setTolerance 28 = .ok (.invokevirtual 62, 3) := by decide +kernel
theorem dX9_setTolerance_31 : decode cX9_setTolerance 31 = .ok (.aload_n 0, 1) := by decide +kernel
theorem dX9_setTolerance_32 : decode cX9_setTolerance 32 = .ok (.getfield 10, 3) := by decide +kernel
theorem dX9_setTolerance_35 : decode cX9_setTolerance 35 = .ok (.getfield 97, 3) := by decide +kernel
theorem dX9_setTolerance_38 : decode cX9_setTolerance 38 = .ok (.istore_n 2, 1) := by decide +kernel
theorem dX9_setTolerance_39 : decode cX9_setTolerance 39 = .ok (.aload_n 0, 1) := by decide +kernel
theorem dX9_setTolerance_40 : decode cX9_setTolerance 40 = .ok (.getfield 10, 3) := by decide +kernel
theorem dX9_setTolerance_43 : decode cX9_setTolerance 43 = .ok (.iload_n 1, 1) := by decide +kernel
theorem dX9_setTolerance_44 : decode cX9_setTolerance 44 = .ok (.putfield 97, 3) := by decide +kernel
theorem dX9_setTolerance_47 : decode cX9_setTolerance 47 = .ok (.iload_n 2, 1) := by decide +kernel
theorem dX9_setTolerance_48 : decode cX9_setTolerance 48 = .ok (.ireturn, 1) := by decide +kernel
theorem dX9_insert_0 : decode cX9_insert 0 = .ok (.iload_n 1, 1) := by decide +kernel
theorem dX9_insert_1 : decode cX9_insert 1 = .ok (.ifCond .lt 17, 3) := by decide +kernel
theorem dX9_insert_4 : decode cX9_insert 4 = .ok (.iload_n 1, 1) := by decide +kernel
theorem dX9_insert_5 : decode cX9_insert 5 = .ok (.aload_n 0, 1) := by decide +kernel
theorem dX9_insert_6 : decode cX9_insert 6 = .ok (.getfield 10, 3) := by decide +kernel
theorem dX9_insert_9 : decode cX9_insert 9 = .ok (.getfield 100, 3) := by decide +kernel
theorem dX9_insert_12 : decode cX9_insert 12 = .ok (.getfield 104, 3) := by decide +kernel
theorem dX9_insert_15 : decode cX9_insert 15 = .ok (.if_icmp .le 13, 3) := by decide +kernel
theorem dX9_insert_18 : decode cX9_insert 18 = .ok (.new 109, 3) := by decide +kernel
theorem dX9_insert_21 : decode cX9_insert 21 = .ok (.dup, 1) := by decide +kernel
theorem dX9_insert_22 : decode cX9_insert 22 = .ok (.ldc 111, 2) := by decide +kernel
theorem dX9_insert_24 : decode cX9_insert 24 = .ok (.invokespecial 113, 3) := by decide +kernel
theorem dX9_insert_27 : decode cX9_insert 27 = .ok (.athrow, 1) := by decide +kernel
theorem dX9_insert_28 : decode cX9_insert 28 = .ok (.iload_n 2, 1) := by decide +kernel
theorem dX9_insert_29 : decode cX9_insert 29 = .ok (.iload_n 3, 1) := by decide +kernel
theorem dX9_insert_30 : decode cX9_insert 30 = .ok (.invokestatic 114, 3) := by decide +kernel
theorem dX9_insert_33 : decode cX9_insert 33 = .ok (.aload_n 0, 1) := by decide +kernel
theorem dX9_insert_34 : decode cX9_insert 34 = .ok (.getfield 10, 3) := by decide +kernel
theorem dX9_insert_37 : decode cX9_insert 37 = .ok (.getfield 100, 3) := by decide +kernel
theorem dX9_insert_40 : decode cX9_insert 40 = .ok (.getfield 104, 3) := by decide +kernel
theorem dX9_insert_43 : decode cX9_insert 43 = .ok (.bipush 20, 2) := by decide +kernel
theorem dX9_insert_45 : decode cX9_insert 45 = .ok (.if_icmp .lt 13, 3) := by decide +kernel
theorem dX9_insert_48 : decode cX9_insert 48 = .ok (.new 117, 3) := by decide +kernel
theorem dX9_insert_51 : decode cX9_insert 51 = .ok (.dup, 1) := by decide +kernel
theorem dX9_insert_52 : decode cX9_insert 52 = .ok (.ldc 119, 2) := by decide +kernel
theorem dX9_insert_54 : decode cX9_insert 54 = .ok (.invokespecial 121, 3) := by decide +kernel
theorem dX9_insert_57 : decode cX9_insert 57 = .ok (.athrow, 1) := by decide +kernel
theorem dX9_insert_58 : decode cX9_insert 58 = .ok (.aload_n 0, 1) := by decide +kernel
theorem dX9_insert_59 : decode cX9_insert 59 = .ok (.getfield 22, 3) := by decide +kernel
theorem dX9_insert_62 : decode cX9_insert 62 = .ok (.aload_n 0, 1) := by decide +kernel
theorem dX9_insert_63 : decode cX9_insert 63 = .ok (.getfield 10, 3) := by decide +kernel
theorem dX9_insert_66 : decode cX9_insert 66 = .ok (.invokevirtual 62, 3) := by decide +kernel
theorem dX9_insert_69 : decode cX9_insert 69 = .ok (.aload_n 0, 1) := by decide +kernel
theorem dX9_insert_70 : decode cX9_insert 70 = .ok (.getfield 10, 3) := by decide +kernel
theorem dX9_insert_73 : decode cX9_insert 73 = .ok (.getfield 100, 3) := by decide +kernel
theorem dX9_insert_76 : decode cX9_insert 76 = .ok (.iload_n 1, 1) := by decide +kernel
theorem dX9_insert_77 : decode cX9_insert 77 = .ok (.iload_n 2, 1) := by decide +kernel
theorem dX9_insert_78 : decode cX9_insert 78 = .ok (.iload_n 3, 1) := by decide +kernel
theorem dX9_insert_79 : decode cX9_insert 79 = .ok (.invokevirtual 122, 3) := by decide +kernel
theorem dX9_insert_82 : decode cX9_insert 82 = .ok (.aload_n 0, 1) := by decide +kernel
theorem dX9_insert_83 : decode cX9_insert 83 = .ok (.getfield 10, 3) := by decide +kernel
theorem dX9_insert_86 : decode cX9_insert 86 = .ok (.getfield 73, 3) := by decide +kernel
theorem dX9_insert_89 : decode cX9_insert 89 = .ok (.invokevirtual 77, 3) := by decide +kernel
theorem dX9_insert_92 : decode cX9_insert 92 = .ok (.pop, 1) := by decide +kernel
theorem dX9_insert_93 : decode cX9_insert 93 = .ok (.aload_n 0, 1) := by decide +kernel
theorem dX9_insert_94 : decode cX9_insert 94 = .ok (.getfield 10, 3) := by decide +kernel
theorem dX9_insert_97 : decode cX9_insert 97 = .ok (.getfield 100, 3) := by decide +kernel
theorem dX9_insert_100 : decode cX9_insert 100 = .ok (.getfield 104, 3) := by decide +kernel
theorem dX9_insert_103 : decode cX9_insert 103 = .ok (.ireturn, 1) := by decide +kernel
theorem dX9_move_0 : decode cX9_move 0 = .ok (.aload_n 0, 1) := by decide +kernel
theorem dX9_move_1 : decode cX9_move 1 = .ok (.iload_n 1, 1) := by decide +kernel
theorem dX9_move_2 : decode cX9_move 2 = .ok (.invokevirtual 126, 3) := by decide +kernel
theorem dX9_move_5 : decode cX9_move 5 = .ok (.iload_n 2, 1) := by decide +kernel
theorem dX9_move_6 : decode cX9_move 6 = .ok (.iload_n 3, 1) := by decide +kernel
theorem dX9_move_7 : decode cX9_move 7 = .ok (.invokestatic 114, 3) := by decide +kernel
theorem dX9_move_10 : decode cX9_move 10 = .ok (.aload_n 0, 1) := by decide +kernel
theorem dX9_move_11 : decode cX9_move 11 = .ok (.getfield 22, 3) := by decide +kernel
theorem dX9_move_14 : decode cX9_move 14 = .ok (.aload_n 0, 1) := by decide +kernel
theorem dX9_move_15 : decode cX9_move 15 = .ok (.getfield 10, 3) := by decide +kernel
theorem dX9_move_18 : decode cX9_move 18 = .ok (.invokevirtual 62, 3) := by decide +kernel
theorem dX9_move_21 : decode cX9_move 21 = .ok (.aload_n 0, 1) := by decide +kernel
theorem dX9_move_22 : decode cX9_move 22 = .ok (.getfield 10, 3) := by decide +kernel
theorem dX9_move_25 : decode cX9_move 25 = .ok (.getfield 100, 3) := by decide +kernel
theorem dX9_move_28 : decode cX9_move 28 = .ok (.getfield 129, 3) := by decide +kernel
theorem dX9_move_31 : decode cX9_move 31 = .ok (.iload_n 1, 1) := by decide +kernel
theorem dX9_move_32 : decode cX9_move 32 = .ok (.iload_n 2, 1) := by decide +kernel
theorem dX9_move_33 : decode cX9_move 33 = .ok (.iastore, 1) := by decide +kernel
theorem dX9_move_34 : decode cX9_move 34 = .ok (.aload_n 0, 1) := by decide +kernel
theorem dX9_move_35 : decode cX9_move 35 = .ok (.getfield 10, 3) := by decide +kernel
theorem dX9_move_38 : decode cX9_move 38 = .ok (.getfield 100, 3) := by decide +kernel
theorem dX9_move_41 : decode cX9_move 41 = .ok (.getfield 132, 3) := by decide +kernel
theorem dX9_move_44 : decode cX9_move 44 = .ok (.iload_n 1, 1) := by decide +kernel
theorem dX9_move_45 : decode cX9_move 45 = .ok (.iload_n 3, 1) := by decide +kernel
theorem dX9_move_46 : decode cX9_move 46 = .ok (.iastore, 1) := by decide +kernel
theorem dX9_move_47 : decode cX9_move 47 = .ok (.aload_n 0, 1) := by decide +kernel
theorem dX9_move_48 : decode cX9_move 48 = .ok (.getfield 10, 3) := by decide +kernel
theorem dX9_move_51 : decode cX9_move 51 = .ok (.getfield 73, 3) := by decide +kernel
theorem dX9_move_54 : decode cX9_move 54 = .ok (.invokevirtual 77, 3) := by decide +kernel
theorem dX9_move_57 : decode cX9_move 57 = .ok (.ireturn, 1) := by decide +kernel
theorem dX9_remove_0 : decode cX9_remove 0 = .ok (.aload_n 0, 1) := by decide +kernel
theorem dX9_remove_1 : decode cX9_remove 1 = .ok (.iload_n 1, 1) := by decide +kernel
theorem dX9_remove_2 : decode cX9_remove 2 = .ok (.invokevirtual 126, 3) := by decide +kernel
theorem dX9_remove_5 : decode cX9_remove 5 = .ok (.aload_n 0, 1) := by decide +kernel
theorem dX9_remove_6 : decode cX9_remove 6 = .ok (.getfield 22, 3) := by decide +kernel
theorem dX9_remove_9 : decode cX9_remove 9 = .ok (.aload_n 0, 1) := by decide +kernel
theorem dX9_remove_10 : decode cX9_remove 10 = .ok (.getfield 10, 3) := by decide +kernel
theorem dX9_remove_13 : decode cX9_remove 13 = .ok (.invokevirtual 62, 3) := by decide +kernel
theorem dX9_remove_16 : decode cX9_remove 16 = .ok (.aload_n 0, 1) := by decide +kernel
theorem dX9_remove_17 : decode cX9_remove 17 = .ok (.getfield 10, 3) := by decide +kernel
theorem dX9_remove_20 : decode cX9_remove 20 = .ok (.getfield 100, 3) := by decide +kernel
theorem dX9_remove_23 : decode cX9_remove 23 = .ok (.iload_n 1, 1) := by decide +kernel
theorem dX9_remove_24 : decode cX9_remove 24 = .ok (.invokevirtual 135, 3) := by decide +kernel
theorem dX9_remove_27 : decode cX9_remove 27 = .ok (.aload_n 0, 1) := by decide +kernel
theorem dX9_remove_28 : decode cX9_remove 28 = .ok (.getfield 10, 3) := by decide +kernel
theorem dX9_remove_31 : decode cX9_remove 31 = .ok (.getfield 73, 3) := by decide +kernel
theorem dX9_remove_34 : decode cX9_remove 34 = .ok (.invokevirtual 77, 3) := by decide +kernel
theorem dX9_remove_37 : decode cX9_remove 37 = .ok (.pop, 1) := by decide +kernel
theorem dX9_remove_38 : decode cX9_remove 38 = .ok (.aload_n 0, 1) := by decide +kernel
theorem dX9_remove_39 : decode cX9_remove 39 = .ok (.getfield 10, 3) := by decide +kernel
theorem dX9_remove_42 : decode cX9_remove 42 = .ok (.getfield 100, 3) := by decide +kernel
theorem dX9_remove_45 : decode cX9_remove 45 = .ok (.getfield 104, 3) := by decide +kernel
theorem dX9_remove_48 : decode cX9_remove 48 = .ok (.ireturn, 1) := by decide +kernel
theorem dX9_setSlip_0 : decode cX9_setSlip 0 = .ok (.aload_n 0, 1) := by decide +kernel
theorem dX9_setSlip_1 : decode cX9_setSlip 1 = .ok (.iload_n 1, 1) := by decide +kernel
theorem dX9_setSlip_2 : decode cX9_setSlip 2 = .ok (.invokevirtual 126, 3) := by decide +kernel
theorem dX9_setSlip_5 : decode cX9_setSlip 5 = .ok (.iload_n 2, 1) := by decide +kernel
theorem dX9_setSlip_6 : decode cX9_setSlip 6 = .ok (.ifCond .lt 9, 3) := by decide +kernel
theorem dX9_setSlip_9 : decode cX9_setSlip 9 = .ok (.iload_n 2, 1) := by decide +kernel
theorem dX9_setSlip_10 : decode cX9_setSlip 10 = .ok (.bipush 100, 2) := by decide +kernel
theorem dX9_setSlip_12 : decode cX9_setSlip 12 = .ok (.if_icmp .le 13, 3) := by decide +kernel
theorem dX9_setSlip_15 : decode cX9_setSlip 15 = .ok (.new 55, 3) := by decide +kernel
theorem dX9_setSlip_18 : decode cX9_setSlip 18 = .ok (.dup, 1) := by decide +kernel
theorem dX9_setSlip_19 : decode cX9_setSlip 19 = .ok (.ldc 138, 2) := by decide +kernel
theorem dX9_setSlip_21 : decode cX9_setSlip 21 = .ok (.invokespecial 59, 3) := by decide +kernel
theorem dX9_setSlip_24 : decode cX9_setSlip 24 = .ok (.athrow, 1) := by decide +kernel
theorem dX9_setSlip_25 : decode cX9_setSlip 25 = .ok (.aload_n 0, 1) := by decide +kernel
theorem dX9_setSlip_26 : decode cX9_setSlip 26 = .ok (.getfield 22, 3) := by decide +kernel
theorem dX9_setSlip_29 : decode cX9_setSlip 29 = .ok (.aload_n 0, 1) := by decide +kernel
theorem dX9_setSlip_30 : decode cX9_setSlip 30 = .ok (.getfield 10, 3) := by decide +kernel
theorem dX9_setSlip_33 : decode cX9_setSlip 33 = .ok (.invokevirtual 62, 3) := by decide +kernel
theorem dX9_setSlip_36 : decode cX9_setSlip 36 = .ok (.aload_n 0, 1) := by decide +kernel
theorem dX9_setSlip_37 : decode cX9_setSlip 37 = .ok (.getfield 10, 3) := by decide +kernel
theorem dX9_setSlip_40 : decode cX9_setSlip 40 = .ok (.getfield 100, 3) := by decide +kernel
theorem dX9_setSlip_43 : decode cX9_setSlip 43 = .ok (.getfield 140, 3) := by decide +kernel
theorem dX9_setSlip_46 : decode cX9_setSlip 46 = .ok (.iload_n 1, 1) := by decide +kernel
theorem dX9_setSlip_47 : decode cX9_setSlip 47 = .ok (.iaload, 1) := by decide +kernel
theorem dX9_setSlip_48 : decode cX9_setSlip 48 = .ok (.istore_n 3, 1) := by decide +kernel
theorem dX9_setSlip_49 : decode cX9_setSlip 49 = .ok (.aload_n 0, 1) := by decide +kernel
theorem dX9_setSlip_50 : decode cX9_setSlip 50 = .ok (.getfield 10, 3) := by decide +kernel
theorem dX9_setSlip_53 : decode cX9_setSlip 53 = .ok (.getfield 100, 3) := by decide +kernel
theorem dX9_setSlip_56 : decode cX9_setSlip 56 = .ok (.getfield 140, 3) := by decide +kernel
theorem dX9_setSlip_59 : decode cX9_setSlip 59 = .ok (.iload_n 1, 1) := by decide +kernel
theorem dX9_setSlip_60 : decode cX9_setSlip 60 = .ok (.iload_n 2, 1) := by decide +kernel
theorem dX9_setSlip_61 : decode cX9_setSlip 61 = .ok (.iastore, 1) := by decide +kernel
theorem dX9_setSlip_62 : decode cX9_setSlip 62 = .ok (.iload_n 3, 1) := by decide +kernel
theorem dX9_setSlip_63 : decode cX9_setSlip 63 = .ok (.ireturn, 1) := by decide +kernel
theorem dX9_run_0 : decode cX9_run 0 = .ok (.aload_n 0, 1) := by decide +kernel
theorem dX9_run_1 : decode cX9_run 1 = .ok (.iload_n 1, 1) := by decide +kernel
theorem dX9_run_2 : decode cX9_run 2 = .ok (.invokevirtual 126, 3) := by decide +kernel
theorem dX9_run_5 : decode cX9_run 5 = .ok (.aload_n 0, 1) := by decide +kernel
theorem dX9_run_6 : decode cX9_run 6 = .ok (.aload_n 0, 1) := by decide +kernel
theorem dX9_run_7 : decode cX9_run 7 = .ok (.aload_n 0, 1) := by decide +kernel
theorem dX9_run_8 : decode cX9_run 8 = .ok (.getfield 10, 3) := by decide +kernel
theorem dX9_run_11 : decode cX9_run 11 = .ok (.invokevirtual 143, 3) := by decide +kernel
theorem dX9_run_14 : decode cX9_run 14 = .ok (.putfield 147, 3) := by decide +kernel
theorem dX9_run_17 : decode cX9_run 17 = .ok (.aload_n 0, 1) := by decide +kernel
theorem dX9_run_18 : decode cX9_run 18 = .ok (.getfield 147, 3) := by decide +kernel
theorem dX9_run_21 : decode cX9_run 21 = .ok (.ifCond .eq 13, 3) := by decide +kernel
theorem dX9_run_24 : decode cX9_run 24 = .ok (.new 117, 3) := by decide +kernel
theorem dX9_run_27 : decode cX9_run 27 = .ok (.dup, 1) := by decide +kernel
theorem dX9_run_28 : decode cX9_run 28 = .ok (.ldc 150, 2) := by decide +kernel
theorem dX9_run_30 : decode cX9_run 30 = .ok (.invokespecial 121, 3) := by decide +kernel
theorem dX9_run_33 : decode cX9_run 33 = .ok (.athrow, 1) := by decide +kernel
theorem dX9_run_34 : decode cX9_run 34 = .ok (.aload_n 0, 1) := by decide +kernel
theorem dX9_run_35 : decode cX9_run 35 = .ok (.getfield 22, 3) := by decide +kernel
theorem dX9_run_38 : decode cX9_run 38 = .ok (.aload_n 0, 1) := by decide +kernel
theorem dX9_run_39 : decode cX9_run 39 = .ok (.getfield 10, 3) := by decide +kernel
theorem dX9_run_42 : decode cX9_run 42 = .ok (.invokevirtual 62, 3) := by decide +kernel
theorem dX9_run_45 : decode cX9_run 45 = .ok (.aload_n 0, 1) := by decide +kernel
theorem dX9_run_46 : decode cX9_run 46 = .ok (.getfield 10, 3) := by decide +kernel
theorem dX9_run_49 : decode cX9_run 49 = .ok (.getfield 73, 3) := by decide +kernel
theorem dX9_run_52 : decode cX9_run 52 = .ok (.iload_n 1, 1) := by decide +kernel
theorem dX9_run_53 : decode cX9_run 53 = .ok (.iload_n 2, 1) := by decide +kernel
theorem dX9_run_54 : decode cX9_run 54 = .ok (.aload_n 0, 1) := by decide +kernel
theorem dX9_run_55 : decode cX9_run 55 = .ok (.getfield 29, 3) := by decide +kernel
theorem dX9_run_58 : decode cX9_run 58 = .ok (.aload_n 0, 1) := by decide +kernel
theorem dX9_run_59 : decode cX9_run 59 = .ok (.getfield 10, 3) := by decide +kernel
theorem dX9_run_62 : decode cX9_run 62 = .ok (.iload_n 1, 1) := by decide +kernel
theorem dX9_run_63 : decode cX9_run 63 = .ok (.iload_n 2, 1) := by decide +kernel
theorem dX9_run_64 : decode cX9_run 64 = .ok (.invokevirtual 152, 3) := by decide +kernel
theorem dX9_run_67 : decode cX9_run 67 = .ok (.invokevirtual 156, 3) := by decide +kernel
theorem dX9_run_70 : decode cX9_run 70 = .ok (.aload_n 0, 1) := by decide +kernel
theorem dX9_run_71 : decode cX9_run 71 = .ok (.getfield 10, 3) := by decide +kernel
theorem dX9_run_74 : decode cX9_run 74 = .ok (.getfield 73, 3) := by decide +kernel
theorem dX9_run_77 : decode cX9_run 77 = .ok (.getfield 160, 3) := by decide +kernel
theorem dX9_run_80 : decode cX9_run 80 = .ok (.iconst 1, 1) := by decide +kernel
theorem dX9_run_81 : decode cX9_run 81 = .ok (.isub, 1) := by decide +kernel
theorem dX9_run_82 : decode cX9_run 82 = .ok (.ireturn, 1) := by decide +kernel
theorem dX9_runAll_0 : decode cX9_runAll 0 = .ok (.aload_n 0, 1) := by decide +kernel
theorem dX9_runAll_1 : decode cX9_runAll 1 = .ok (.getfield 22, 3) := by decide +kernel
theorem dX9_runAll_4 : decode cX9_runAll 4 = .ok (.aload_n 0, 1) := by decide +kernel
theorem dX9_runAll_5 : decode cX9_runAll 5 = .ok (.getfield 10, 3) := by decide +kernel
theorem dX9_runAll_8 : decode cX9_runAll 8 = .ok (.invokevirtual 62, 3) := by decide +kernel
theorem dX9_runAll_11 : decode cX9_runAll 11 = .ok (.aload_n 0, 1) := by decide +kernel
theorem dX9_runAll_12 : decode cX9_runAll 12 = .ok (.iconst 0, 1) := by decide +kernel
theorem dX9_runAll_13 : decode cX9_runAll 13 = .ok (.putfield 147, 3) := by decide +kernel
theorem dX9_runAll_16 : decode cX9_runAll 16 = .ok (.aload_n 0, 1) := by decide +kernel
theorem dX9_runAll_17 : decode cX9_runAll 17 = .ok (.getfield 10, 3) := by decide +kernel
theorem dX9_runAll_20 : decode cX9_runAll 20 = .ok (.getfield 73, 3) := by decide +kernel
theorem dX9_runAll_23 : decode cX9_runAll 23 = .ok (.getfield 160, 3) := by decide +kernel
theorem dX9_runAll_26 : decode cX9_runAll 26 = .ok (.istore_n 1, 1) := by decide +kernel
theorem dX9_runAll_27 : decode cX9_runAll 27 = .ok (.iconst 0, 1) := by decide +kernel
theorem dX9_runAll_28 : decode cX9_runAll 28 = .ok (.istore_n 2, 1) := by decide +kernel
theorem dX9_runAll_29 : decode cX9_runAll 29 = .ok (.iload_n 2, 1) := by decide +kernel
theorem dX9_runAll_30 : decode cX9_runAll 30 = .ok (.iconst 2, 1) := by decide +kernel
theorem dX9_runAll_31 : decode cX9_runAll 31 = .ok (.aload_n 0, 1) := by decide +kernel
theorem dX9_runAll_32 : decode cX9_runAll 32 = .ok (.getfield 10, 3) := by decide +kernel
theorem dX9_runAll_35 : decode cX9_runAll 35 = .ok (.getfield 100, 3) := by decide +kernel
theorem dX9_runAll_38 : decode cX9_runAll 38 = .ok (.getfield 104, 3) := by decide +kernel
theorem dX9_runAll_41 : decode cX9_runAll 41 = .ok (.imul, 1) := by decide +kernel
theorem dX9_runAll_42 : decode cX9_runAll 42 = .ok (.if_icmp .ge 76, 3) := by decide +kernel
theorem dX9_runAll_45 : decode cX9_runAll 45 = .ok (.aload_n 0, 1) := by decide +kernel
theorem dX9_runAll_46 : decode cX9_runAll 46 = .ok (.aload_n 0, 1) := by decide +kernel
theorem dX9_runAll_47 : decode cX9_runAll 47 = .ok (.aload_n 0, 1) := by decide +kernel
theorem dX9_runAll_48 : decode cX9_runAll 48 = .ok (.getfield 10, 3) := by decide +kernel
theorem dX9_runAll_51 : decode cX9_runAll 51 = .ok (.invokevirtual 143, 3) := by decide +kernel
theorem dX9_runAll_54 : decode cX9_runAll 54 = .ok (.putfield 147, 3) := by decide +kernel
theorem dX9_runAll_57 : decode cX9_runAll 57 = .ok (.aload_n 0, 1) := by decide +kernel
theorem dX9_runAll_58 : decode cX9_runAll 58 = .ok (.getfield 147, 3) := by decide +kernel
theorem dX9_runAll_61 : decode cX9_runAll 61 = .ok (.ifCond .eq 6, 3) := by decide +kernel
theorem dX9_runAll_64 : decode cX9_runAll 64 = .ok (.goto 54, 3) := by decide +kernel
theorem dX9_runAll_67 : decode cX9_runAll 67 = .ok (.iload_n 2, 1) := by decide +kernel
theorem dX9_runAll_68 : decode cX9_runAll 68 = .ok (.iconst 2, 1) := by decide +kernel
theorem dX9_runAll_69 : decode cX9_runAll 69 = .ok (.idiv, 1) := by decide +kernel
theorem dX9_runAll_70 : decode cX9_runAll 70 = .ok (.istore_n 3, 1) := by decide +kernel
theorem dX9_runAll_71 : decode cX9_runAll 71 = .ok (.iload_n 2, 1) := by decide +kernel
theorem dX9_runAll_72 : decode cX9_runAll 72 = .ok (.iconst 2, 1) := by decide +kernel
theorem dX9_runAll_73 : decode cX9_runAll 73 = .ok (.irem, 1) := by decide +kernel
theorem dX9_runAll_74 : decode cX9_runAll 74 = .ok (.iconst 1, 1) := by decide +kernel
theorem dX9_runAll_75 : decode cX9_runAll 75 = .ok (.if_icmp .ne 7, 3) := by decide +kernel
theorem dX9_runAll_78 : decode cX9_runAll 78 = .ok (.iconst 1, 1) := by decide +kernel
theorem dX9_runAll_79 : decode cX9_runAll 79 = .ok (.goto 4, 3) := by decide +kernel
theorem dX9_runAll_82 : decode cX9_runAll 82 = .ok (.iconst 0, 1) := by decide +kernel
theorem dX9_runAll_83 : decode cX9_runAll 83 = .ok (.istore 4, 2) := by decide +kernel
theorem dX9_runAll_85 : decode cX9_runAll 85 = .ok (.aload_n 0, 1) := by decide +kernel
theorem dX9_runAll_86 : decode cX9_runAll 86 = .ok (.getfield 10, 3) := by decide +kernel
theorem dX9_runAll_89 : decode cX9_runAll 89 = .ok (.getfield 73, 3) := by decide +kernel
theorem dX9_runAll_92 : decode cX9_runAll 92 = .ok (.iload_n 3, 1) := by decide +kernel
theorem dX9_runAll_93 : decode cX9_runAll 93 = .ok (.iload 4, 2) := by decide +kernel
theorem dX9_runAll_95 : decode cX9_runAll 95 = .ok (.aload_n 0, 1) := by decide +kernel
theorem dX9_runAll_96 : decode cX9_runAll 96 = .ok (.getfield 29, 3) := by decide +kernel
theorem dX9_runAll_99 : decode cX9_runAll 99 = .ok (.aload_n 0, 1) := by decide +kernel
theorem dX9_runAll_100 : decode cX9_runAll 100 = .ok (.getfield 10, 3) := by decide +kernel
theorem dX9_runAll_103 : decode cX9_runAll 103 = .ok (.iload_n 3, 1) := by decide +kernel
theorem dX9_runAll_104 : decode cX9_runAll 104 = .ok (.iload 4, 2) := by decide +kernel
theorem dX9_runAll_106 : decode cX9_runAll 106 = .ok (.invokevirtual 152, 3) := by decide +kernel
theorem dX9_runAll_109 : decode cX9_runAll 109 = .ok (.invokevirtual 156, 3) := by decide +kernel
theorem dX9_runAll_112 : decode cX9_runAll 112 = .ok (.iinc 2 1, 3) := by decide +kernel
theorem dX9_runAll_115 : decode cX9_runAll 115 = .ok (.goto (-86), 3) := by decide +kernel
theorem dX9_runAll_118 : decode cX9_runAll 118 = .ok (.aload_n 0, 1) := by decide +kernel
theorem dX9_runAll_119 : decode cX9_runAll 119 = .ok (.getfield 10, 3) := by decide +kernel
theorem dX9_runAll_122 : decode cX9_runAll 122 = .ok (.getfield 73, 3) := by decide +kernel
theorem dX9_runAll_125 : decode cX9_runAll 125 = .ok (.getfield 160, 3) := by decide +kernel
theorem dX9_runAll_128 : decode cX9_runAll 128 = .ok (.iload_n 1, 1) := by decide +kernel
theorem dX9_runAll_129 : decode cX9_runAll 129 = .ok (.isub, 1) := by decide +kernel
theorem dX9_runAll_130 : decode cX9_runAll 130 = .ok (.ireturn, 1) := by decide +kernel
theorem dX9_forget_0 : decode cX9_forget 0 = .ok (.aload_n 0, 1) := by decide +kernel
theorem dX9_forget_1 : decode cX9_forget 1 = .ok (.getfield 22, 3) := by decide +kernel
theorem dX9_forget_4 : decode cX9_forget 4 = .ok (.aload_n 0, 1) := by decide +kernel
theorem dX9_forget_5 : decode cX9_forget 5 = .ok (.getfield 10, 3) := by decide +kernel
theorem dX9_forget_8 : decode cX9_forget 8 = .ok (.invokevirtual 62, 3) := by decide +kernel
theorem dX9_forget_11 : decode cX9_forget 11 = .ok (.aload_n 0, 1) := by decide +kernel
theorem dX9_forget_12 : decode cX9_forget 12 = .ok (.getfield 10, 3) := by decide +kernel
theorem dX9_forget_15 : decode cX9_forget 15 = .ok (.getfield 73, 3) := by decide +kernel
theorem dX9_forget_18 : decode cX9_forget 18 = .ok (.invokevirtual 77, 3) := by decide +kernel
theorem dX9_forget_21 : decode cX9_forget 21 = .ok (.ireturn, 1) := by decide +kernel
theorem dX9_append_0 : decode cX9_append 0 = .ok (.iload_n 1, 1) := by decide +kernel
theorem dX9_append_1 : decode cX9_append 1 = .ok (.bipush 33, 2) := by decide +kernel
theorem dX9_append_3 : decode cX9_append 3 = .ok (.if_icmp .lt 9, 3) := by decide +kernel
theorem dX9_append_6 : decode cX9_append 6 = .ok (.iload_n 1, 1) := by decide +kernel
theorem dX9_append_7 : decode cX9_append 7 = .ok (.bipush 126, 2) := by decide +kernel
theorem dX9_append_9 : decode cX9_append 9 = .ok (.if_icmp .le 13, 3) := by decide +kernel
theorem dX9_append_12 : decode cX9_append 12 = .ok (.new 55, 3) := by decide +kernel
theorem dX9_append_15 : decode cX9_append 15 = .ok (.dup, 1) := by decide +kernel
theorem dX9_append_16 : decode cX9_append 16 = .ok (.ldc 163, 2) := by decide +kernel
theorem dX9_append_18 : decode cX9_append 18 = .ok (.invokespecial 59, 3) := by decide +kernel
theorem dX9_append_21 : decode cX9_append 21 = .ok (.athrow, 1) := by decide +kernel
theorem dX9_append_22 : decode cX9_append 22 = .ok (.aload_n 0, 1) := by decide +kernel
theorem dX9_append_23 : decode cX9_append 23 = .ok (.getfield 165, 3) := by decide +kernel
theorem dX9_append_26 : decode cX9_append 26 = .ok (.bipush 60, 2) := by decide +kernel
theorem dX9_append_28 : decode cX9_append 28 = .ok (.if_icmp .lt 13, 3) := by decide +kernel
theorem dX9_append_31 : decode cX9_append 31 = .ok (.new 117, 3) := by decide +kernel
theorem dX9_append_34 : decode cX9_append 34 = .ok (.dup, 1) := by decide +kernel
theorem dX9_append_35 : decode cX9_append 35 = .ok (.ldc 168, 2) := by decide +kernel
theorem dX9_append_37 : decode cX9_append 37 = .ok (.invokespecial 121, 3) := by decide +kernel
theorem dX9_append_40 : decode cX9_append 40 = .ok (.athrow, 1) := by decide +kernel
theorem dX9_append_41 : decode cX9_append 41 = .ok (.aload_n 0, 1) := by decide +kernel
theorem dX9_append_42 : decode cX9_append 42 = .ok (.getfield 47, 3) := by decide +kernel
theorem dX9_append_45 : decode cX9_append 45 = .ok (.aload_n 0, 1) := by decide +kernel
theorem dX9_append_46 : decode cX9_append 46 = .ok (.getfield 165, 3) := by decide +kernel
theorem dX9_append_49 : decode cX9_append 49 = .ok (.iload_n 1, 1) := by decide +kernel
theorem dX9_append_50 : decode cX9_append 50 = .ok (.iastore, 1) := by decide +kernel
theorem dX9_append_51 : decode cX9_append 51 = .ok (.aload_n 0, 1) := by decide +kernel
theorem dX9_append_52 : decode cX9_append 52 = .ok (.dup, 1) := by decide +kernel
theorem dX9_append_53 : decode cX9_append 53 = .ok (.getfield 165, 3) := by decide +kernel
theorem dX9_append_56 : decode cX9_append 56 = .ok (.iconst 1, 1) := by decide +kernel
theorem dX9_append_57 : decode cX9_append 57 = .ok (.iadd, 1) := by decide +kernel
theorem dX9_append_58 : decode cX9_append 58 = .ok (.putfield 165, 3) := by decide +kernel
theorem dX9_append_61 : decode cX9_append 61 = .ok (.aload_n 0, 1) := by decide +kernel
theorem dX9_append_62 : decode cX9_append 62 = .ok (.getfield 165, 3) := by decide +kernel
theorem dX9_append_65 : decode cX9_append 65 = .ok (.ireturn, 1) := by decide +kernel
theorem dX9_clearBuffer_0 : decode cX9_clearBuffer 0 = .ok (.aload_n 0, 1) := by decide +kernel
theorem dX9_clearBuffer_1 : decode cX9_clearBuffer 1 = .ok (.getfield 165, 3) := by decide +kernel
theorem dX9_clearBuffer_4 : decode cX9_clearBuffer 4 = .ok (.istore_n 1, 1) := by decide +kernel
theorem dX9_clearBuffer_5 : decode cX9_clearBuffer 5 = .ok (.aload_n 0, 1) := by decide +kernel
theorem dX9_clearBuffer_6 : decode cX9_clearBuffer 6 = .ok (.iconst 0, 1) := by decide +kernel
theorem dX9_clearBuffer_7 : decode cX9_clearBuffer 7 = .ok (.putfield 165, 3) := by decide +kernel
theorem dX9_clearBuffer_10 : decode cX9_clearBuffer 10 = .ok (.iload_n 1, 1) := by decide +kernel
theorem dX9_clearBuffer_11 : decode cX9_clearBuffer 11 = .ok (.ireturn, 1) := by decide +kernel
theorem dX9_firstError_0 : decode cX9_firstError 0 = .ok (.aload_n 0, 1) := by decide +kernel
theorem dX9_firstError_1 : decode cX9_firstError 1 = .ok (.getfield 43, 3) := by decide +kernel
theorem dX9_firstError_4 : decode cX9_firstError 4 = .ok (.aload_n 0, 1) := by decide +kernel
theorem dX9_firstError_5 : decode cX9_firstError 5 = .ok (.getfield 47, 3) := by decide +kernel
theorem dX9_firstError_8 : decode cX9_firstError 8 = .ok (.aload_n 0, 1) := by decide +kernel
theorem dX9_firstError_9 : decode cX9_firstError 9 = .ok (.getfield 165, 3) := by decide +kernel
theorem dX9_firstError_12 : decode cX9_firstError 12 = .ok (.invokevirtual 170, 3) := by decide +kernel
theorem dX9_firstError_15 : decode cX9_firstError 15 = .ok (.ireturn, 1) := by decide +kernel
theorem dX9_load_0 : decode cX9_load 0 = .ok (.aload_n 0, 1) := by decide +kernel
theorem dX9_load_1 : decode cX9_load 1 = .ok (.getfield 43, 3) := by decide +kernel
theorem dX9_load_4 : decode cX9_load 4 = .ok (.aload_n 0, 1) := by decide +kernel
theorem dX9_load_5 : decode cX9_load 5 = .ok (.getfield 47, 3) := by decide +kernel
theorem dX9_load_8 : decode cX9_load 8 = .ok (.aload_n 0, 1) := by decide +kernel
theorem dX9_load_9 : decode cX9_load 9 = .ok (.getfield 165, 3) := by decide +kernel
theorem dX9_load_12 : decode cX9_load 12 = .ok (.invokevirtual 170, 3) := by decide +kernel
theorem dX9_load_15 : decode cX9_load 15 = .ok (.istore_n 1, 1) := by decide +kernel
theorem dX9_load_16 : decode cX9_load 16 = .ok (.iload_n 1, 1) := by decide +kernel
theorem dX9_load_17 : decode cX9_load 17 = .ok (.aload_n 0, 1) := by decide +kernel
theorem dX9_load_18 : decode cX9_load 18 = .ok (.getfield 165, 3) := by decide +kernel
theorem dX9_load_21 : decode cX9_load 21 = .ok (.if_icmp .lt 13, 3) := by decide +kernel
theorem dX9_load_24 : decode cX9_load 24 = .ok (.aload_n 0, 1) := by decide +kernel
theorem dX9_load_25 : decode cX9_load 25 = .ok (.getfield 43, 3) := by decide +kernel
theorem dX9_load_28 : decode cX9_load 28 = .ok (.invokevirtual 174, 3) := by decide +kernel
theorem dX9_load_31 : decode cX9_load 31 = .ok (.ifCond .ne 13, 3) := by decide +kernel
theorem dX9_load_34 : decode cX9_load 34 = .ok (.new 55, 3) := by decide +kernel
theorem dX9_load_37 : decode cX9_load 37 = .ok (.dup, 1) := by decide +kernel
theorem dX9_load_38 : decode cX9_load 38 = .ok (.ldc 178, 2) := by decide +kernel
theorem dX9_load_40 : decode cX9_load 40 = .ok (.invokespecial 59, 3) := by decide +kernel
theorem dX9_load_43 : decode cX9_load 43 = .ok (.athrow, 1) := by decide +kernel
theorem dX9_load_44 : decode cX9_load 44 = .ok (.aload_n 0, 1) := by decide +kernel
theorem dX9_load_45 : decode cX9_load 45 = .ok (.getfield 22, 3) := by decide +kernel
theorem dX9_load_48 : decode cX9_load 48 = .ok (.aload_n 0, 1) := by decide +kernel
theorem dX9_load_49 : decode cX9_load 49 = .ok (.getfield 10, 3) := by decide +kernel
theorem dX9_load_52 : decode cX9_load 52 = .ok (.invokevirtual 62, 3) := by decide +kernel
theorem dX9_load_55 : decode cX9_load 55 = .ok (.aload_n 0, 1) := by decide +kernel
theorem dX9_load_56 : decode cX9_load 56 = .ok (.getfield 43, 3) := by decide +kernel
theorem dX9_load_59 : decode cX9_load 59 = .ok (.aload_n 0, 1) := by decide +kernel
theorem dX9_load_60 : decode cX9_load 60 = .ok (.getfield 10, 3) := by decide +kernel
theorem dX9_load_63 : decode cX9_load 63 = .ok (.getfield 100, 3) := by decide +kernel
theorem dX9_load_66 : decode cX9_load 66 = .ok (.invokevirtual 180, 3) := by decide +kernel
theorem dX9_load_69 : decode cX9_load 69 = .ok (.aload_n 0, 1) := by decide +kernel
theorem dX9_load_70 : decode cX9_load 70 = .ok (.getfield 10, 3) := by decide +kernel
theorem dX9_load_73 : decode cX9_load 73 = .ok (.getfield 73, 3) := by decide +kernel
theorem dX9_load_76 : decode cX9_load 76 = .ok (.invokevirtual 77, 3) := by decide +kernel
theorem dX9_load_79 : decode cX9_load 79 = .ok (.pop, 1) := by decide +kernel
theorem dX9_load_80 : decode cX9_load 80 = .ok (.aload_n 0, 1) := by decide +kernel
theorem dX9_load_81 : decode cX9_load 81 = .ok (.iconst 0, 1) := by decide +kernel
theorem dX9_load_82 : decode cX9_load 82 = .ok (.putfield 165, 3) := by decide +kernel
theorem dX9_load_85 : decode cX9_load 85 = .ok (.aload_n 0, 1) := by decide +kernel
theorem dX9_load_86 : decode cX9_load 86 = .ok (.getfield 10, 3) := by decide +kernel
theorem dX9_load_89 : decode cX9_load 89 = .ok (.getfield 100, 3) := by decide +kernel
theorem dX9_load_92 : decode cX9_load 92 = .ok (.getfield 104, 3) := by decide +kernel
theorem dX9_load_95 : decode cX9_load 95 = .ok (.ireturn, 1) := by decide +kernel
theorem dX9_undo_0 : decode cX9_undo 0 = .ok (.aload_n 0, 1) := by decide +kernel
theorem dX9_undo_1 : decode cX9_undo 1 = .ok (.getfield 22, 3) := by decide +kernel
theorem dX9_undo_4 : decode cX9_undo 4 = .ok (.getfield 184, 3) := by decide +kernel
theorem dX9_undo_7 : decode cX9_undo 7 = .ok (.ifCond .ne 13, 3) := by decide +kernel
theorem dX9_undo_10 : decode cX9_undo 10 = .ok (.new 117, 3) := by decide +kernel
theorem dX9_undo_13 : decode cX9_undo 13 = .ok (.dup, 1) := by decide +kernel
theorem dX9_undo_14 : decode cX9_undo 14 = .ok (.ldc 187, 2) := by decide +kernel
theorem dX9_undo_16 : decode cX9_undo 16 = .ok (.invokespecial 121, 3) := by decide +kernel
theorem dX9_undo_19 : decode cX9_undo 19 = .ok (.athrow, 1) := by decide +kernel
theorem dX9_undo_20 : decode cX9_undo 20 = .ok (.aload_n 0, 1) := by decide +kernel
theorem dX9_undo_21 : decode cX9_undo 21 = .ok (.getfield 22, 3) := by decide +kernel
theorem dX9_undo_24 : decode cX9_undo 24 = .ok (.aload_n 0, 1) := by decide +kernel
theorem dX9_undo_25 : decode cX9_undo 25 = .ok (.getfield 10, 3) := by decide +kernel
theorem dX9_undo_28 : decode cX9_undo 28 = .ok (.invokevirtual 189, 3) := by decide +kernel
theorem dX9_undo_31 : decode cX9_undo 31 = .ok (.aload_n 0, 1) := by decide +kernel
theorem dX9_undo_32 : decode cX9_undo 32 = .ok (.getfield 22, 3) := by decide +kernel
theorem dX9_undo_35 : decode cX9_undo 35 = .ok (.getfield 184, 3) := by decide +kernel
theorem dX9_undo_38 : decode cX9_undo 38 = .ok (.ireturn, 1) := by decide +kernel
theorem dX9_reason_0 : decode cX9_reason 0 = .ok (.aload_n 0, 1) := by decide +kernel
theorem dX9_reason_1 : decode cX9_reason 1 = .ok (.getfield 147, 3) := by decide +kernel
theorem dX9_reason_4 : decode cX9_reason 4 = .ok (.ireturn, 1) := by decide +kernel
theorem dX9_corner_0 : decode cX9_corner 0 = .ok (.aload_n 0, 1) := by decide +kernel
theorem dX9_corner_1 : decode cX9_corner 1 = .ok (.iload_n 1, 1) := by decide +kernel
theorem dX9_corner_2 : decode cX9_corner 2 = .ok (.invokevirtual 126, 3) := by decide +kernel
theorem dX9_corner_5 : decode cX9_corner 5 = .ok (.iload_n 2, 1) := by decide +kernel
theorem dX9_corner_6 : decode cX9_corner 6 = .ok (.bipush 6, 2) := by decide +kernel
theorem dX9_corner_8 : decode cX9_corner 8 = .ok (.invokestatic 192, 3) := by decide +kernel
theorem dX9_corner_11 : decode cX9_corner 11 = .ok (.aload_n 0, 1) := by decide +kernel
theorem dX9_corner_12 : decode cX9_corner 12 = .ok (.iload_n 1, 1) := by decide +kernel
theorem dX9_corner_13 : decode cX9_corner 13 = .ok (.iload_n 2, 1) := by decide +kernel
theorem dX9_corner_14 : decode cX9_corner 14 = .ok (.invokevirtual 195, 3) := by decide +kernel
theorem dX9_corner_17 : decode cX9_corner 17 = .ok (.lreturn, 1) := by decide +kernel
theorem dX9_made_0 : decode cX9_made 0 = .ok (.iload_n 1, 1) := by decide +kernel
theorem dX9_made_1 : decode cX9_made 1 = .ok (.ifCond .lt 17, 3) := by decide +kernel
theorem dX9_made_4 : decode cX9_made 4 = .ok (.iload_n 1, 1) := by decide +kernel
theorem dX9_made_5 : decode cX9_made 5 = .ok (.aload_n 0, 1) := by decide +kernel
theorem dX9_made_6 : decode cX9_made 6 = .ok (.getfield 10, 3) := by decide +kernel
theorem dX9_made_9 : decode cX9_made 9 = .ok (.getfield 73, 3) := by decide +kernel
theorem dX9_made_12 : decode cX9_made 12 = .ok (.getfield 160, 3) := by decide +kernel
theorem dX9_made_15 : decode cX9_made 15 = .ok (.if_icmp .lt 13, 3) := by decide +kernel
theorem dX9_made_18 : decode cX9_made 18 = .ok (.new 109, 3) := by decide +kernel
theorem dX9_made_21 : decode cX9_made 21 = .ok (.dup, 1) := by decide +kernel
theorem dX9_made_22 : decode cX9_made 22 = .ok (.ldc 199, 2) := by decide +kernel
theorem dX9_made_24 : decode cX9_made 24 = .ok (.invokespecial 113, 3) := by decide +kernel
theorem dX9_made_27 : decode cX9_made 27 = .ok (.athrow, 1) := by decide +kernel
theorem dX9_made_28 : decode cX9_made 28 = .ok (.iload_n 2, 1) := by decide +kernel
theorem dX9_made_29 : decode cX9_made 29 = .ok (.bipush 6, 2) := by decide +kernel
theorem dX9_made_31 : decode cX9_made 31 = .ok (.invokestatic 192, 3) := by decide +kernel
theorem dX9_made_34 : decode cX9_made 34 = .ok (.aload_n 0, 1) := by decide +kernel
theorem dX9_made_35 : decode cX9_made 35 = .ok (.iload_n 1, 1) := by decide +kernel
theorem dX9_made_36 : decode cX9_made 36 = .ok (.iload_n 2, 1) := by decide +kernel
theorem dX9_made_37 : decode cX9_made 37 = .ok (.invokevirtual 201, 3) := by decide +kernel
theorem dX9_made_40 : decode cX9_made 40 = .ok (.lreturn, 1) := by decide +kernel
theorem dX9_elbow_0 : decode cX9_elbow 0 = .ok (.iload_n 1, 1) := by decide +kernel
theorem dX9_elbow_1 : decode cX9_elbow 1 = .ok (.ldc 204, 2) := by decide +kernel
theorem dX9_elbow_3 : decode cX9_elbow 3 = .ok (.invokestatic 51, 3) := by decide +kernel
theorem dX9_elbow_6 : decode cX9_elbow 6 = .ok (.ifCond .eq 12, 3) := by decide +kernel
theorem dX9_elbow_9 : decode cX9_elbow 9 = .ok (.iload_n 2, 1) := by decide +kernel
theorem dX9_elbow_10 : decode cX9_elbow 10 = .ok (.ldc 204, 2) := by decide +kernel
theorem dX9_elbow_12 : decode cX9_elbow 12 = .ok (.invokestatic 51, 3) := by decide +kernel
theorem dX9_elbow_15 : decode cX9_elbow 15 = .ok (.ifCond .ne 13, 3) := by decide +kernel
theorem dX9_elbow_18 : decode cX9_elbow 18 = .ok (.new 55, 3) := by decide +kernel
theorem dX9_elbow_21 : decode cX9_elbow 21 = .ok (.dup, 1) := by decide +kernel
theorem dX9_elbow_22 : decode cX9_elbow 22 = .ok (.ldc 205, 2) := by decide +kernel
theorem dX9_elbow_24 : decode cX9_elbow 24 = .ok (.invokespecial 59, 3) := by decide +kernel
theorem dX9_elbow_27 : decode cX9_elbow 27 = .ok (.athrow, 1) := by decide +kernel
theorem dX9_elbow_28 : decode cX9_elbow 28 = .ok (.iload_n 3, 1) := by decide +kernel
theorem dX9_elbow_29 : decode cX9_elbow 29 = .ok (.iconst 3, 1) := by decide +kernel
theorem dX9_elbow_30 : decode cX9_elbow 30 = .ok (.invokestatic 192, 3) := by decide +kernel
theorem dX9_elbow_33 : decode cX9_elbow 33 = .ok (.aload_n 0, 1) := by decide +kernel
theorem dX9_elbow_34 : decode cX9_elbow 34 = .ok (.getfield 29, 3) := by decide +kernel
theorem dX9_elbow_37 : decode cX9_elbow 37 = .ok (.getfield 207, 3) := by decide +kernel
theorem dX9_elbow_40 : decode cX9_elbow 40 = .ok (.astore 4, 2) := by decide +kernel
theorem dX9_elbow_42 : decode cX9_elbow 42 = .ok (.aload 4, 2) := by decide +kernel
theorem dX9_elbow_44 : decode cX9_elbow 44 = .ok (.aload_n 0, 1) := by decide +kernel
theorem dX9_elbow_45 : decode cX9_elbow 45 = .ok (.getfield 10, 3) := by decide +kernel
theorem dX9_elbow_48 : decode cX9_elbow 48 = .ok (.invokevirtual 211, 3) := by decide +kernel
theorem dX9_elbow_51 : decode cX9_elbow 51 = .ok (.aload 4, 2) := by decide +kernel
theorem dX9_elbow_53 : decode cX9_elbow 53 = .ok (.iload_n 1, 1) := by decide +kernel
theorem dX9_elbow_54 : decode cX9_elbow 54 = .ok (.i2l, 1) := by decide +kernel
theorem dX9_elbow_55 : decode cX9_elbow 55 = .ok (.iload_n 2, 1) := by decide +kernel
theorem dX9_elbow_56 : decode cX9_elbow 56 = .ok (.i2l, 1) := by decide +kernel
theorem dX9_elbow_57 : decode cX9_elbow 57 = .ok (.invokevirtual 216, 3) := by decide +kernel
theorem dX9_elbow_60 : decode cX9_elbow 60 = .ok (.istore 5, 2) := by decide +kernel
theorem dX9_elbow_62 : decode cX9_elbow 62 = .ok (.iload_n 3, 1) := by decide +kernel
theorem dX9_elbow_63 : decode cX9_elbow 63 = .ok (.ifCond .ne 14, 3) := by decide +kernel
theorem dX9_elbow_66 : decode cX9_elbow 66 = .ok (.iload 5, 2) := by decide +kernel
theorem dX9_elbow_68 : decode cX9_elbow 68 = .ok (.ifCond .eq 7, 3) := by decide +kernel
theorem dX9_elbow_71 : decode cX9_elbow 71 = .ok (.lconst 1, 1) := by decide +kernel
theorem dX9_elbow_72 : decode cX9_elbow 72 = .ok (.goto 4, 3) := by decide +kernel
theorem dX9_elbow_75 : decode cX9_elbow 75 = .ok (.lconst 0, 1) := by decide +kernel
theorem dX9_elbow_76 : decode cX9_elbow 76 = .ok (.lreturn, 1) := by decide +kernel
theorem dX9_elbow_77 : decode cX9_elbow 77 = .ok (.iload_n 3, 1) := by decide +kernel
theorem dX9_elbow_78 : decode cX9_elbow 78 = .ok (.iconst 1, 1) := by decide +kernel
theorem dX9_elbow_79 : decode cX9_elbow 79 = .ok (.if_icmp .ne 11, 3) := by decide +kernel
theorem dX9_elbow_82 : decode cX9_elbow 82 = .ok (.aload 4, 2) := by decide +kernel
theorem dX9_elbow_84 : decode cX9_elbow 84 = .ok (.getfield 220, 3) := by decide +kernel
theorem dX9_elbow_87 : decode cX9_elbow 87 = .ok (.goto 8, 3) := by decide +kernel
theorem dX9_elbow_90 : decode cX9_elbow 90 = .ok (.aload 4, 2) := by decide +kernel
theorem dX9_elbow_92 : decode cX9_elbow 92 = .ok (.getfield 224, 3) := by decide +kernel
theorem dX9_elbow_95 : decode cX9_elbow 95 = .ok (.lreturn, 1) := by decide +kernel
theorem dX9_count_0 : decode cX9_count 0 = .ok (.iload_n 1, 1) := by decide +kernel
theorem dX9_count_1 : decode cX9_count 1 = .ok (.bipush 15, 2) := by decide +kernel
theorem dX9_count_3 : decode cX9_count 3 = .ok (.invokestatic 192, 3) := by decide +kernel
theorem dX9_count_6 : decode cX9_count 6 = .ok (.aload_n 0, 1) := by decide +kernel
theorem dX9_count_7 : decode cX9_count 7 = .ok (.iload_n 1, 1) := by decide +kernel
theorem dX9_count_8 : decode cX9_count 8 = .ok (.invokevirtual 227, 3) := by decide +kernel
theorem dX9_count_11 : decode cX9_count 11 = .ok (.lreturn, 1) := by decide +kernel
theorem dX9_setting_0 : decode cX9_setting 0 = .ok (.iload_n 1, 1) := by decide +kernel
theorem dX9_setting_1 : decode cX9_setting 1 = .ok (.invokestatic 83, 3) := by decide +kernel
theorem dX9_setting_4 : decode cX9_setting 4 = .ok (.aload_n 0, 1) := by decide +kernel
theorem dX9_setting_5 : decode cX9_setting 5 = .ok (.getfield 10, 3) := by decide +kernel
theorem dX9_setting_8 : decode cX9_setting 8 = .ok (.getfield 91, 3) := by decide +kernel
theorem dX9_setting_11 : decode cX9_setting 11 = .ok (.iload_n 1, 1) := by decide +kernel
theorem dX9_setting_12 : decode cX9_setting 12 = .ok (.iaload, 1) := by decide +kernel
theorem dX9_setting_13 : decode cX9_setting 13 = .ok (.ireturn, 1) := by decide +kernel
theorem dX9_why_0 : decode cX9_why 0 = .ok (.aload_n 0, 1) := by decide +kernel
theorem dX9_why_1 : decode cX9_why 1 = .ok (.iload_n 1, 1) := by decide +kernel
theorem dX9_why_2 : decode cX9_why 2 = .ok (.invokevirtual 126, 3) := by decide +kernel
theorem dX9_why_5 : decode cX9_why 5 = .ok (.aload_n 0, 1) := by decide +kernel
theorem dX9_why_6 : decode cX9_why 6 = .ok (.aload_n 0, 1) := by decide +kernel
theorem dX9_why_7 : decode cX9_why 7 = .ok (.getfield 10, 3) := by decide +kernel
theorem dX9_why_10 : decode cX9_why 10 = .ok (.invokevirtual 143, 3) := by decide +kernel
theorem dX9_why_13 : decode cX9_why 13 = .ok (.ireturn, 1) := by decide +kernel
theorem dX9_ifSet_0 : decode cX9_ifSet 0 = .ok (.aload_n 0, 1) := by decide +kernel
theorem dX9_ifSet_1 : decode cX9_ifSet 1 = .ok (.iload_n 1, 1) := by decide +kernel
theorem dX9_ifSet_2 : decode cX9_ifSet 2 = .ok (.invokevirtual 126, 3) := by decide +kernel
theorem dX9_ifSet_5 : decode cX9_ifSet 5 = .ok (.iload_n 3, 1) := by decide +kernel
theorem dX9_ifSet_6 : decode cX9_ifSet 6 = .ok (.invokestatic 83, 3) := by decide +kernel
theorem dX9_ifSet_9 : decode cX9_ifSet 9 = .ok (.iload_n 3, 1) := by decide +kernel
theorem dX9_ifSet_10 : decode cX9_ifSet 10 = .ok (.iload 4, 2) := by decide +kernel
theorem dX9_ifSet_12 : decode cX9_ifSet 12 = .ok (.invokestatic 87, 3) := by decide +kernel
theorem dX9_ifSet_15 : decode cX9_ifSet 15 = .ok (.aload_n 0, 1) := by decide +kernel
theorem dX9_ifSet_16 : decode cX9_ifSet 16 = .ok (.getfield 16, 3) := by decide +kernel
theorem dX9_ifSet_19 : decode cX9_ifSet 19 = .ok (.aload_n 0, 1) := by decide +kernel
theorem dX9_ifSet_20 : decode cX9_ifSet 20 = .ok (.getfield 10, 3) := by decide +kernel
theorem dX9_ifSet_23 : decode cX9_ifSet 23 = .ok (.invokevirtual 231, 3) := by decide +kernel
theorem dX9_ifSet_26 : decode cX9_ifSet 26 = .ok (.aload_n 0, 1) := by decide +kernel
theorem dX9_ifSet_27 : decode cX9_ifSet 27 = .ok (.getfield 16, 3) := by decide +kernel
theorem dX9_ifSet_30 : decode cX9_ifSet 30 = .ok (.getfield 91, 3) := by decide +kernel
theorem dX9_ifSet_33 : decode cX9_ifSet 33 = .ok (.iload_n 3, 1) := by decide +kernel
theorem dX9_ifSet_34 : decode cX9_ifSet 34 = .ok (.iload 4, 2) := by decide +kernel
theorem dX9_ifSet_36 : decode cX9_ifSet 36 = .ok (.iastore, 1) := by decide +kernel
theorem dX9_ifSet_37 : decode cX9_ifSet 37 = .ok (.aload_n 0, 1) := by decide +kernel
theorem dX9_ifSet_38 : decode cX9_ifSet 38 = .ok (.getfield 16, 3) := by decide +kernel
theorem dX9_ifSet_41 : decode cX9_ifSet 41 = .ok (.getfield 73, 3) := by decide +kernel
theorem dX9_ifSet_44 : decode cX9_ifSet 44 = .ok (.invokevirtual 77, 3) := by decide +kernel
theorem dX9_ifSet_47 : decode cX9_ifSet 47 = .ok (.pop, 1) := by decide +kernel
theorem dX9_ifSet_48 : decode cX9_ifSet 48 = .ok (.aload_n 0, 1) := by decide +kernel
theorem dX9_ifSet_49 : decode cX9_ifSet 49 = .ok (.aload_n 0, 1) := by decide +kernel
theorem dX9_ifSet_50 : decode cX9_ifSet 50 = .ok (.getfield 16, 3) := by decide +kernel
theorem dX9_ifSet_53 : decode cX9_ifSet 53 = .ok (.invokevirtual 143, 3) := by decide +kernel
theorem dX9_ifSet_56 : decode cX9_ifSet 56 = .ok (.ifCond .eq 5, 3) := by decide +kernel
theorem dX9_ifSet_59 : decode cX9_ifSet 59 = .ok (.lconst 0, 1) := by decide +kernel
theorem dX9_ifSet_60 : decode cX9_ifSet 60 = .ok (.lreturn, 1) := by decide +kernel
theorem dX9_ifSet_61 : decode cX9_ifSet 61 = .ok (.aload_n 0, 1) := by decide +kernel
theorem dX9_ifSet_62 : decode cX9_ifSet 62 = .ok (.getfield 29, 3) := by decide +kernel
theorem dX9_ifSet_65 : decode cX9_ifSet 65 = .ok (.aload_n 0, 1) := by decide +kernel
theorem dX9_ifSet_66 : decode cX9_ifSet 66 = .ok (.getfield 16, 3) := by decide +kernel
theorem dX9_ifSet_69 : decode cX9_ifSet 69 = .ok (.iload_n 1, 1) := by decide +kernel
theorem dX9_ifSet_70 : decode cX9_ifSet 70 = .ok (.iload_n 2, 1) := by decide +kernel
theorem dX9_ifSet_71 : decode cX9_ifSet 71 = .ok (.invokevirtual 152, 3) := by decide +kernel
theorem dX9_ifSet_74 : decode cX9_ifSet 74 = .ok (.lreturn, 1) := by decide +kernel
theorem dX9_leastArm_0 : decode cX9_leastArm 0 = .ok (.aload_n 0, 1) := by decide +kernel
theorem dX9_leastArm_1 : decode cX9_leastArm 1 = .ok (.getfield 10, 3) := by decide +kernel
theorem dX9_leastArm_4 : decode cX9_leastArm 4 = .ok (.getfield 100, 3) := by decide +kernel
theorem dX9_leastArm_7 : decode cX9_leastArm 7 = .ok (.getfield 104, 3) := by decide +kernel
theorem dX9_leastArm_10 : decode cX9_leastArm 10 = .ok (.ifCond .ne 5, 3) := by decide +kernel
theorem dX9_leastArm_13 : decode cX9_leastArm 13 = .ok (.iconst (-1), 1) := by decide +kernel
theorem dX9_leastArm_14 : decode cX9_leastArm 14 = .ok (.ireturn, 1) := by decide +kernel
theorem dX9_leastArm_15 : decode cX9_leastArm 15 = .ok (.aload_n 0, 1) := by decide +kernel
theorem dX9_leastArm_16 : decode cX9_leastArm 16 = .ok (.getfield 29, 3) := by decide +kernel
theorem dX9_leastArm_19 : decode cX9_leastArm 19 = .ok (.aload_n 0, 1) := by decide +kernel
theorem dX9_leastArm_20 : decode cX9_leastArm 20 = .ok (.getfield 10, 3) := by decide +kernel
theorem dX9_leastArm_23 : decode cX9_leastArm 23 = .ok (.invokevirtual 234, 3) := by decide +kernel
theorem dX9_leastArm_26 : decode cX9_leastArm 26 = .ok (.getstatic 237, 3) := by decide +kernel
theorem dX9_leastArm_29 : decode cX9_leastArm 29 = .ok (.iconst 1, 1) := by decide +kernel
theorem dX9_leastArm_30 : decode cX9_leastArm 30 = .ok (.iaload, 1) := by decide +kernel
theorem dX9_leastArm_31 : decode cX9_leastArm 31 = .ok (.istore_n 1, 1) := by decide +kernel
theorem dX9_leastArm_32 : decode cX9_leastArm 32 = .ok (.iload_n 1, 1) := by decide +kernel
theorem dX9_leastArm_33 : decode cX9_leastArm 33 = .ok (.getstatic 240, 3) := by decide +kernel
theorem dX9_leastArm_36 : decode cX9_leastArm 36 = .ok (.iconst 1, 1) := by decide +kernel
theorem dX9_leastArm_37 : decode cX9_leastArm 37 = .ok (.iaload, 1) := by decide +kernel
theorem dX9_leastArm_38 : decode cX9_leastArm 38 = .ok (.if_icmp .gt 22, 3) := by decide +kernel
theorem dX9_leastArm_41 : decode cX9_leastArm 41 = .ok (.aload_n 0, 1) := by decide +kernel
theorem dX9_leastArm_42 : decode cX9_leastArm 42 = .ok (.getfield 29, 3) := by decide +kernel
theorem dX9_leastArm_45 : decode cX9_leastArm 45 = .ok (.iload_n 1, 1) := by decide +kernel
theorem dX9_leastArm_46 : decode cX9_leastArm 46 = .ok (.invokevirtual 243, 3) := by decide +kernel
theorem dX9_leastArm_49 : decode cX9_leastArm 49 = .ok (.ifCond .eq 5, 3) := by decide +kernel
theorem dX9_leastArm_52 : decode cX9_leastArm 52 = .ok (.iload_n 1, 1) := by decide +kernel
theorem dX9_leastArm_53 : decode cX9_leastArm 53 = .ok (.ireturn, 1) := by decide +kernel
theorem dX9_leastArm_54 : decode cX9_leastArm 54 = .ok (.iinc 1 100, 3) := by decide +kernel
theorem dX9_leastArm_57 : decode cX9_leastArm 57 = .ok (.goto (-25), 3) := by decide +kernel
theorem dX9_leastArm_60 : decode cX9_leastArm 60 = .ok (.iconst (-1), 1) := by decide +kernel
theorem dX9_leastArm_61 : decode cX9_leastArm 61 = .ok (.ireturn, 1) := by decide +kernel
theorem dX9_error_0 : decode cX9_error 0 = .ok (.aload_n 0, 1) := by decide +kernel
theorem dX9_error_1 : decode cX9_error 1 = .ok (.getfield 10, 3) := by decide +kernel
theorem dX9_error_4 : decode cX9_error 4 = .ok (.getfield 100, 3) := by decide +kernel
theorem dX9_error_7 : decode cX9_error 7 = .ok (.invokevirtual 247, 3) := by decide +kernel
theorem dX9_error_10 : decode cX9_error 10 = .ok (.lstore_n 1, 1) := by decide +kernel
theorem dX9_error_11 : decode cX9_error 11 = .ok (.aload_n 0, 1) := by decide +kernel
theorem dX9_error_12 : decode cX9_error 12 = .ok (.getfield 10, 3) := by decide +kernel
theorem dX9_error_15 : decode cX9_error 15 = .ok (.getfield 73, 3) := by decide +kernel
theorem dX9_error_18 : decode cX9_error 18 = .ok (.getfield 160, 3) := by decide +kernel
theorem dX9_error_21 : decode cX9_error 21 = .ok (.ifCond .eq 9, 3) := by decide +kernel
theorem dX9_error_24 : decode cX9_error 24 = .ok (.lload_n 1, 1) := by decide +kernel
theorem dX9_error_25 : decode cX9_error 25 = .ok (.lconst 0, 1) := by decide +kernel
theorem dX9_error_26 : decode cX9_error 26 = .ok (.lcmp, 1) := by decide +kernel
theorem dX9_error_27 : decode cX9_error 27 = .ok (.ifCond .ne 5, 3) := by decide +kernel
theorem dX9_error_30 : decode cX9_error 30 = .ok (.dconst 0, 1) := by decide +kernel
theorem dX9_error_31 : decode cX9_error 31 = .ok (.dreturn, 1) := by decide +kernel
theorem dX9_error_32 : decode cX9_error 32 = .ok (.aload_n 0, 1) := by decide +kernel
theorem dX9_error_33 : decode cX9_error 33 = .ok (.invokevirtual 251, 3) := by decide +kernel
theorem dX9_error_36 : decode cX9_error 36 = .ok (.l2d, 1) := by decide +kernel
theorem dX9_error_37 : decode cX9_error 37 = .ok (.lload_n 1, 1) := by decide +kernel
theorem dX9_error_38 : decode cX9_error 38 = .ok (.l2d, 1) := by decide +kernel
theorem dX9_error_39 : decode cX9_error 39 = .ok (.ddiv, 1) := by decide +kernel
theorem dX9_error_40 : decode cX9_error 40 = .ok (.dreturn, 1) := by decide +kernel
theorem dX9_digest_0 : decode cX9_digest 0 = .ok (.ldc2_w 254, 3) := by decide +kernel
theorem dX9_digest_3 : decode cX9_digest 3 = .ok (.lstore_n 1, 1) := by decide +kernel
theorem dX9_digest_4 : decode cX9_digest 4 = .ok (.iconst 0, 1) := by decide +kernel
theorem dX9_digest_5 : decode cX9_digest 5 = .ok (.istore_n 3, 1) := by decide +kernel
theorem dX9_digest_6 : decode cX9_digest 6 = .ok (.iload_n 3, 1) := by decide +kernel
theorem dX9_digest_7 : decode cX9_digest 7 = .ok (.bipush 15, 2) := by decide +kernel
theorem dX9_digest_9 : decode cX9_digest 9 = .ok (.if_icmp .ge 19, 3) := by decide +kernel
theorem dX9_digest_12 : decode cX9_digest 12 = .ok (.lload_n 1, 1) := by decide +kernel
theorem dX9_digest_13 : decode cX9_digest 13 = .ok (.aload_n 0, 1) := by decide +kernel
theorem dX9_digest_14 : decode cX9_digest 14 = .ok (.iload_n 3, 1) := by decide +kernel
theorem dX9_digest_15 : decode cX9_digest 15 = .ok (.invokevirtual 227, 3) := by decide +kernel
theorem dX9_digest_18 : decode cX9_digest 18 = .ok (.invokestatic 256, 3) := by decide +kernel
theorem dX9_digest_21 : decode cX9_digest 21 = .ok (.lstore_n 1, 1) := by decide +kernel
theorem dX9_digest_22 : decode cX9_digest 22 = .ok (.iinc 3 1, 3) := by decide +kernel
theorem dX9_digest_25 : decode cX9_digest 25 = .ok (.goto (-19), 3) := by decide +kernel
theorem dX9_digest_28 : decode cX9_digest 28 = .ok (.iconst 0, 1) := by decide +kernel
theorem dX9_digest_29 : decode cX9_digest 29 = .ok (.istore_n 3, 1) := by decide +kernel
theorem dX9_digest_30 : decode cX9_digest 30 = .ok (.iload_n 3, 1) := by decide +kernel
theorem dX9_digest_31 : decode cX9_digest 31 = .ok (.iconst 5, 1) := by decide +kernel
theorem dX9_digest_32 : decode cX9_digest 32 = .ok (.if_icmp .ge 24, 3) := by decide +kernel
theorem dX9_digest_35 : decode cX9_digest 35 = .ok (.lload_n 1, 1) := by decide +kernel
theorem dX9_digest_36 : decode cX9_digest 36 = .ok (.aload_n 0, 1) := by decide +kernel
theorem dX9_digest_37 : decode cX9_digest 37 = .ok (.getfield 10, 3) := by decide +kernel
theorem dX9_digest_40 : decode cX9_digest 40 = .ok (.getfield 91, 3) := by decide +kernel
theorem dX9_digest_43 : decode cX9_digest 43 = .ok (.iload_n 3, 1) := by decide +kernel
theorem dX9_digest_44 : decode cX9_digest 44 = .ok (.iaload, 1) := by decide +kernel
theorem dX9_digest_45 : decode cX9_digest 45 = .ok (.i2l, 1) := by decide +kernel
theorem dX9_digest_46 : decode cX9_digest 46 = .ok (.invokestatic 256, 3) := by decide +kernel
theorem dX9_digest_49 : decode cX9_digest 49 = .ok (.lstore_n 1, 1) := by decide +kernel
theorem dX9_digest_50 : decode cX9_digest 50 = .ok (.iinc 3 1, 3) := by decide +kernel
theorem dX9_digest_53 : decode cX9_digest 53 = .ok (.goto (-23), 3) := by decide +kernel
theorem dX9_digest_56 : decode cX9_digest 56 = .ok (.iconst 0, 1) := by decide +kernel
theorem dX9_digest_57 : decode cX9_digest 57 = .ok (.istore_n 3, 1) := by decide +kernel
theorem dX9_digest_58 : decode cX9_digest 58 = .ok (.iload_n 3, 1) := by decide +kernel
theorem dX9_digest_59 : decode cX9_digest 59 = .ok (.aload_n 0, 1) := by decide +kernel
theorem dX9_digest_60 : decode cX9_digest 60 = .ok (.getfield 10, 3) := by decide +kernel
theorem dX9_digest_63 : decode cX9_digest 63 = .ok (.getfield 100, 3) := by decide +kernel
theorem dX9_digest_66 : decode cX9_digest 66 = .ok (.getfield 104, 3) := by decide +kernel
theorem dX9_digest_69 : decode cX9_digest 69 = .ok (.if_icmp .ge 37, 3) := by decide +kernel
theorem dX9_digest_72 : decode cX9_digest 72 = .ok (.iconst 0, 1) := by decide +kernel
theorem dX9_digest_73 : decode cX9_digest 73 = .ok (.istore 4, 2) := by decide +kernel
theorem dX9_digest_75 : decode cX9_digest 75 = .ok (.iload 4, 2) := by decide +kernel
theorem dX9_digest_77 : decode cX9_digest 77 = .ok (.bipush 6, 2) := by decide +kernel
theorem dX9_digest_79 : decode cX9_digest 79 = .ok (.if_icmp .ge 21, 3) := by decide +kernel
theorem dX9_digest_82 : decode cX9_digest 82 = .ok (.lload_n 1, 1) := by decide +kernel
theorem dX9_digest_83 : decode cX9_digest 83 = .ok (.aload_n 0, 1) := by decide +kernel
theorem dX9_digest_84 : decode cX9_digest 84 = .ok (.iload_n 3, 1) := by decide +kernel
theorem dX9_digest_85 : decode cX9_digest 85 = .ok (.iload 4, 2) := by decide +kernel
theorem dX9_digest_87 : decode cX9_digest 87 = .ok (.invokevirtual 195, 3) := by decide +kernel
theorem dX9_digest_90 : decode cX9_digest 90 = .ok (.invokestatic 256, 3) := by decide +kernel
theorem dX9_digest_93 : decode cX9_digest 93 = .ok (.lstore_n 1, 1) := by decide +kernel
theorem dX9_digest_94 : decode cX9_digest 94 = .ok (.iinc 4 1, 3) := by decide +kernel
theorem dX9_digest_97 : decode cX9_digest 97 = .ok (.goto (-22), 3) := by decide +kernel
theorem dX9_digest_100 : decode cX9_digest 100 = .ok (.iinc 3 1, 3) := by decide +kernel
theorem dX9_digest_103 : decode cX9_digest 103 = .ok (.goto (-45), 3) := by decide +kernel
theorem dX9_digest_106 : decode cX9_digest 106 = .ok (.iconst 0, 1) := by decide +kernel
theorem dX9_digest_107 : decode cX9_digest 107 = .ok (.istore_n 3, 1) := by decide +kernel
theorem dX9_digest_108 : decode cX9_digest 108 = .ok (.iload_n 3, 1) := by decide +kernel
theorem dX9_digest_109 : decode cX9_digest 109 = .ok (.aload_n 0, 1) := by decide +kernel
theorem dX9_digest_110 : decode cX9_digest 110 = .ok (.getfield 10, 3) := by decide +kernel
theorem dX9_digest_113 : decode cX9_digest 113 = .ok (.getfield 73, 3) := by decide +kernel
theorem dX9_digest_116 : decode cX9_digest 116 = .ok (.getfield 160, 3) := by decide +kernel
theorem dX9_digest_119 : decode cX9_digest 119 = .ok (.if_icmp .ge 37, 3) := by decide +kernel
theorem dX9_digest_122 : decode cX9_digest 122 = .ok (.iconst 0, 1) := by decide +kernel
theorem dX9_digest_123 : decode cX9_digest 123 = .ok (.istore 4, 2) := by decide +kernel
theorem dX9_digest_125 : decode cX9_digest 125 = .ok (.iload 4, 2) := by decide +kernel
theorem dX9_digest_127 : decode cX9_digest 127 = .ok (.bipush 6, 2) := by decide +kernel
theorem dX9_digest_129 : decode cX9_digest 129 = .ok (.if_icmp .ge 21, 3) := by decide +kernel
theorem dX9_digest_132 : decode cX9_digest 132 = .ok (.lload_n 1, 1) := by decide +kernel
theorem dX9_digest_133 : decode cX9_digest 133 = .ok (.aload_n 0, 1) := by decide +kernel
theorem dX9_digest_134 : decode cX9_digest 134 = .ok (.iload_n 3, 1) := by decide +kernel
theorem dX9_digest_135 : decode cX9_digest 135 = .ok (.iload 4, 2) := by decide +kernel
theorem dX9_digest_137 : decode cX9_digest 137 = .ok (.invokevirtual 201, 3) := by decide +kernel
theorem dX9_digest_140 : decode cX9_digest 140 = .ok (.invokestatic 256, 3) := by decide +kernel
theorem dX9_digest_143 : decode cX9_digest 143 = .ok (.lstore_n 1, 1) := by decide +kernel
theorem dX9_digest_144 : decode cX9_digest 144 = .ok (.iinc 4 1, 3) := by decide +kernel
theorem dX9_digest_147 : decode cX9_digest 147 = .ok (.goto (-22), 3) := by decide +kernel
theorem dX9_digest_150 : decode cX9_digest 150 = .ok (.iinc 3 1, 3) := by decide +kernel
theorem dX9_digest_153 : decode cX9_digest 153 = .ok (.goto (-45), 3) := by decide +kernel
theorem dX9_digest_156 : decode cX9_digest 156 = .ok (.lload_n 1, 1) := by decide +kernel
theorem dX9_digest_157 : decode cX9_digest 157 = .ok (.aload_n 0, 1) := by decide +kernel
theorem dX9_digest_158 : decode cX9_digest 158 = .ok (.invokevirtual 260, 3) := by decide +kernel
theorem dX9_digest_161 : decode cX9_digest 161 = .ok (.i2l, 1) := by decide +kernel
theorem dX9_digest_162 : decode cX9_digest 162 = .ok (.invokestatic 256, 3) := by decide +kernel
theorem dX9_digest_165 : decode cX9_digest 165 = .ok (.lstore_n 1, 1) := by decide +kernel
theorem dX9_digest_166 : decode cX9_digest 166 = .ok (.lload_n 1, 1) := by decide +kernel
theorem dX9_digest_167 : decode cX9_digest 167 = .ok (.aload_n 0, 1) := by decide +kernel
theorem dX9_digest_168 : decode cX9_digest 168 = .ok (.invokevirtual 263, 3) := by decide +kernel
theorem dX9_digest_171 : decode cX9_digest 171 = .ok (.invokestatic 256, 3) := by decide +kernel
theorem dX9_digest_174 : decode cX9_digest 174 = .ok (.lstore_n 1, 1) := by decide +kernel
theorem dX9_digest_175 : decode cX9_digest 175 = .ok (.lload_n 1, 1) := by decide +kernel
theorem dX9_digest_176 : decode cX9_digest 176 = .ok (.aload_n 0, 1) := by decide +kernel
theorem dX9_digest_177 : decode cX9_digest 177 = .ok (.getfield 147, 3) := by decide +kernel
theorem dX9_digest_180 : decode cX9_digest 180 = .ok (.i2l, 1) := by decide +kernel
theorem dX9_digest_181 : decode cX9_digest 181 = .ok (.invokestatic 256, 3) := by decide +kernel
theorem dX9_digest_184 : decode cX9_digest 184 = .ok (.lstore_n 1, 1) := by decide +kernel
theorem dX9_digest_185 : decode cX9_digest 185 = .ok (.lload_n 1, 1) := by decide +kernel
theorem dX9_digest_186 : decode cX9_digest 186 = .ok (.aload_n 0, 1) := by decide +kernel
theorem dX9_digest_187 : decode cX9_digest 187 = .ok (.getfield 165, 3) := by decide +kernel
theorem dX9_digest_190 : decode cX9_digest 190 = .ok (.i2l, 1) := by decide +kernel
theorem dX9_digest_191 : decode cX9_digest 191 = .ok (.invokestatic 256, 3) := by decide +kernel
theorem dX9_digest_194 : decode cX9_digest 194 = .ok (.lstore_n 1, 1) := by decide +kernel
theorem dX9_digest_195 : decode cX9_digest 195 = .ok (.iconst 0, 1) := by decide +kernel
theorem dX9_digest_196 : decode cX9_digest 196 = .ok (.istore_n 3, 1) := by decide +kernel
theorem dX9_digest_197 : decode cX9_digest 197 = .ok (.iload_n 3, 1) := by decide +kernel
theorem dX9_digest_198 : decode cX9_digest 198 = .ok (.aload_n 0, 1) := by decide +kernel
theorem dX9_digest_199 : decode cX9_digest 199 = .ok (.getfield 165, 3) := by decide +kernel
theorem dX9_digest_202 : decode cX9_digest 202 = .ok (.if_icmp .ge 21, 3) := by decide +kernel
theorem dX9_digest_205 : decode cX9_digest 205 = .ok (.lload_n 1, 1) := by decide +kernel
theorem dX9_digest_206 : decode cX9_digest 206 = .ok (.aload_n 0, 1) := by decide +kernel
theorem dX9_digest_207 : decode cX9_digest 207 = .ok (.getfield 47, 3) := by decide +kernel
theorem dX9_digest_210 : decode cX9_digest 210 = .ok (.iload_n 3, 1) := by decide +kernel
theorem dX9_digest_211 : decode cX9_digest 211 = .ok (.iaload, 1) := by decide +kernel
theorem dX9_digest_212 : decode cX9_digest 212 = .ok (.i2l, 1) := by decide +kernel
theorem dX9_digest_213 : decode cX9_digest 213 = .ok (.invokestatic 256, 3) := by decide +kernel
theorem dX9_digest_216 : decode cX9_digest 216 = .ok (.lstore_n 1, 1) := by decide +kernel
theorem dX9_digest_217 : decode cX9_digest 217 = .ok (.iinc 3 1, 3) := by decide +kernel
theorem dX9_digest_220 : decode cX9_digest 220 = .ok (.goto (-23), 3) := by decide +kernel
theorem dX9_digest_223 : decode cX9_digest 223 = .ok (.lload_n 1, 1) := by decide +kernel
theorem dX9_digest_224 : decode cX9_digest 224 = .ok (.lreturn, 1) := by decide +kernel
theorem dX9_isWithin_0 : decode cX9_isWithin 0 = .ok (.iload_n 0, 1) := by decide +kernel
theorem dX9_isWithin_1 : decode cX9_isWithin 1 = .ok (.iload_n 1, 1) := by decide +kernel
theorem dX9_isWithin_2 : decode cX9_isWithin 2 = .ok (.ineg, 1) := by decide +kernel
theorem dX9_isWithin_3 : decode cX9_isWithin 3 = .ok (.if_icmp .lt 12, 3) := by decide +kernel
theorem dX9_isWithin_6 : decode cX9_isWithin 6 = .ok (.iload_n 0, 1) := by decide +kernel
theorem dX9_isWithin_7 : decode cX9_isWithin 7 = .ok (.iload_n 1, 1) := by decide +kernel
theorem dX9_isWithin_8 : decode cX9_isWithin 8 = .ok (.if_icmp .gt 7, 3) := by decide +kernel
theorem dX9_isWithin_11 : decode cX9_isWithin 11 = .ok (.iconst 1, 1) := by decide +kernel
theorem dX9_isWithin_12 : decode cX9_isWithin 12 = .ok (.goto 4, 3) := by decide +kernel
theorem dX9_isWithin_15 : decode cX9_isWithin 15 = .ok (.iconst 0, 1) := by decide +kernel
theorem dX9_isWithin_16 : decode cX9_isWithin 16 = .ok (.ireturn, 1) := by decide +kernel
theorem dX9_checkSetting_0 : decode cX9_checkSetting 0 = .ok (.iload_n 0, 1) := by decide +kernel
theorem dX9_checkSetting_1 : decode cX9_checkSetting 1 = .ok (.ifCond .lt 8, 3) := by decide +kernel
theorem dX9_checkSetting_4 : decode cX9_checkSetting 4 = .ok (.iload_n 0, 1) := by decide +kernel
theorem dX9_checkSetting_5 : decode cX9_checkSetting 5 = .ok (.iconst 5, 1) := by decide +kernel
theorem dX9_checkSetting_6 : decode cX9_checkSetting 6 = .ok (.if_icmp .lt 14, 3) := by decide +kernel
theorem dX9_checkSetting_9 : decode cX9_checkSetting 9 = .ok (.new 109, 3) := by decide +kernel
theorem dX9_checkSetting_12 : decode cX9_checkSetting 12 = .ok (.dup, 1) := by decide +kernel
theorem dX9_checkSetting_13 : decode cX9_checkSetting 13 = .ok (.ldc_w 266, 3) := by decide +kernel
theorem dX9_checkSetting_16 : decode cX9_checkSetting 16 = .ok (.invokespecial 113, 3) := by decide +kernel
theorem dX9_checkSetting_19 : decode cX9_checkSetting 19 = .ok (.athrow, 1) := by decide +kernel
theorem dX9_checkSetting_20 : decode cX9_checkSetting 20 = .ok (.return_, 1) := by decide +kernel
theorem dX9_checkValue_0 : decode cX9_checkValue 0 = .ok (.iload_n 1, 1) := by decide +kernel
theorem dX9_checkValue_1 : decode cX9_checkValue 1 = .ok (.getstatic 237, 3) := by decide +kernel
theorem dX9_checkValue_4 : decode cX9_checkValue 4 = .ok (.iload_n 0, 1) := by decide +kernel
theorem dX9_checkValue_5 : decode cX9_checkValue 5 = .ok (.iaload, 1) := by decide +kernel
theorem dX9_checkValue_6 : decode cX9_checkValue 6 = .ok (.if_icmp .lt 12, 3) := by decide +kernel
theorem dX9_checkValue_9 : decode cX9_checkValue 9 = .ok (.iload_n 1, 1) := by decide +kernel
theorem dX9_checkValue_10 : decode cX9_checkValue 10 = .ok (.getstatic 240, 3) := by decide +kernel
theorem dX9_checkValue_13 : decode cX9_checkValue 13 = .ok (.iload_n 0, 1) := by decide +kernel
theorem dX9_checkValue_14 : decode cX9_checkValue 14 = .ok (.iaload, 1) := by decide +kernel
theorem dX9_checkValue_15 : decode cX9_checkValue 15 = .ok (.if_icmp .le 14, 3) := by decide +kernel
theorem dX9_checkValue_18 : decode cX9_checkValue 18 = .ok (.new 55, 3) := by decide +kernel
theorem dX9_checkValue_21 : decode cX9_checkValue 21 = .ok (.dup, 1) := by decide +kernel
theorem dX9_checkValue_22 : decode cX9_checkValue 22 = .ok (.ldc_w 268, 3) := by decide +kernel
theorem dX9_checkValue_25 : decode cX9_checkValue 25 = .ok (.invokespecial 59, 3) := by decide +kernel
theorem dX9_checkValue_28 : decode cX9_checkValue 28 = .ok (.athrow, 1) := by decide +kernel
theorem dX9_checkValue_29 : decode cX9_checkValue 29 = .ok (.return_, 1) := by decide +kernel
theorem dX9_checkPoint_0 : decode cX9_checkPoint 0 = .ok (.iload_n 0, 1) := by decide +kernel
theorem dX9_checkPoint_1 : decode cX9_checkPoint 1 = .ok (.sipush 1000, 3) := by decide +kernel
theorem dX9_checkPoint_4 : decode cX9_checkPoint 4 = .ok (.invokestatic 51, 3) := by decide +kernel
theorem dX9_checkPoint_7 : decode cX9_checkPoint 7 = .ok (.ifCond .eq 13, 3) := by decide +kernel
theorem dX9_checkPoint_10 : decode cX9_checkPoint 10 = .ok (.iload_n 1, 1) := by decide +kernel
theorem dX9_checkPoint_11 : decode cX9_checkPoint 11 = .ok (.sipush 1000, 3) := by decide +kernel
theorem dX9_checkPoint_14 : decode cX9_checkPoint 14 = .ok (.invokestatic 51, 3) := by decide +kernel
theorem dX9_checkPoint_17 : decode cX9_checkPoint 17 = .ok (.ifCond .ne 14, 3) := by decide +kernel
theorem dX9_checkPoint_20 : decode cX9_checkPoint 20 = .ok (.new 55, 3) := by decide +kernel
theorem dX9_checkPoint_23 : decode cX9_checkPoint 23 = .ok (.dup, 1) := by decide +kernel
theorem dX9_checkPoint_24 : decode cX9_checkPoint 24 = .ok (.ldc_w 270, 3) := by decide +kernel
theorem dX9_checkPoint_27 : decode cX9_checkPoint 27 = .ok (.invokespecial 59, 3) := by decide +kernel
theorem dX9_checkPoint_30 : decode cX9_checkPoint 30 = .ok (.athrow, 1) := by decide +kernel
theorem dX9_checkPoint_31 : decode cX9_checkPoint 31 = .ok (.return_, 1) := by decide +kernel
theorem dX9_checkWhat_0 : decode cX9_checkWhat 0 = .ok (.iload_n 0, 1) := by decide +kernel
theorem dX9_checkWhat_1 : decode cX9_checkWhat 1 = .ok (.ifCond .lt 8, 3) := by decide +kernel
theorem dX9_checkWhat_4 : decode cX9_checkWhat 4 = .ok (.iload_n 0, 1) := by decide +kernel
theorem dX9_checkWhat_5 : decode cX9_checkWhat 5 = .ok (.iload_n 1, 1) := by decide +kernel
theorem dX9_checkWhat_6 : decode cX9_checkWhat 6 = .ok (.if_icmp .lt 14, 3) := by decide +kernel
theorem dX9_checkWhat_9 : decode cX9_checkWhat 9 = .ok (.new 55, 3) := by decide +kernel
theorem dX9_checkWhat_12 : decode cX9_checkWhat 12 = .ok (.dup, 1) := by decide +kernel
theorem dX9_checkWhat_13 : decode cX9_checkWhat 13 = .ok (.ldc_w 272, 3) := by decide +kernel
theorem dX9_checkWhat_16 : decode cX9_checkWhat 16 = .ok (.invokespecial 59, 3) := by decide +kernel
theorem dX9_checkWhat_19 : decode cX9_checkWhat 19 = .ok (.athrow, 1) := by decide +kernel
theorem dX9_checkWhat_20 : decode cX9_checkWhat 20 = .ok (.return_, 1) := by decide +kernel
theorem dX9_checkCorner_0 : decode cX9_checkCorner 0 = .ok (.iload_n 1, 1) := by decide +kernel
theorem dX9_checkCorner_1 : decode cX9_checkCorner 1 = .ok (.ifCond .lt 17, 3) := by decide +kernel
theorem dX9_checkCorner_4 : decode cX9_checkCorner 4 = .ok (.iload_n 1, 1) := by decide +kernel
theorem dX9_checkCorner_5 : decode cX9_checkCorner 5 = .ok (.aload_n 0, 1) := by decide +kernel
theorem dX9_checkCorner_6 : decode cX9_checkCorner 6 = .ok (.getfield 10, 3) := by decide +kernel
theorem dX9_checkCorner_9 : decode cX9_checkCorner 9 = .ok (.getfield 100, 3) := by decide +kernel
theorem dX9_checkCorner_12 : decode cX9_checkCorner 12 = .ok (.getfield 104, 3) := by decide +kernel
theorem dX9_checkCorner_15 : decode cX9_checkCorner 15 = .ok (.if_icmp .lt 14, 3) := by decide +kernel
theorem dX9_checkCorner_18 : decode cX9_checkCorner 18 = .ok (.new 109, 3) := by decide +kernel
theorem dX9_checkCorner_21 : decode cX9_checkCorner 21 = .ok (.dup, 1) := by decide +kernel
theorem dX9_checkCorner_22 : decode cX9_checkCorner 22 = .ok (.ldc_w 274, 3) := by decide +kernel
theorem dX9_checkCorner_25 : decode cX9_checkCorner 25 = .ok (.invokespecial 113, 3) := by decide +kernel
theorem dX9_checkCorner_28 : decode cX9_checkCorner 28 = .ok (.athrow, 1) := by decide +kernel
theorem dX9_checkCorner_29 : decode cX9_checkCorner 29 = .ok (.return_, 1) := by decide +kernel
theorem dX9_refusal_0 : decode cX9_refusal 0 = .ok (.aload_n 1, 1) := by decide +kernel
theorem dX9_refusal_1 : decode cX9_refusal 1 = .ok (.getfield 100, 3) := by decide +kernel
theorem dX9_refusal_4 : decode cX9_refusal 4 = .ok (.getfield 104, 3) := by decide +kernel
theorem dX9_refusal_7 : decode cX9_refusal 7 = .ok (.iconst 3, 1) := by decide +kernel
theorem dX9_refusal_8 : decode cX9_refusal 8 = .ok (.if_icmp .ge 5, 3) := by decide +kernel
theorem dX9_refusal_11 : decode cX9_refusal 11 = .ok (.iconst 1, 1) := by decide +kernel
theorem dX9_refusal_12 : decode cX9_refusal 12 = .ok (.ireturn, 1) := by decide +kernel
theorem dX9_refusal_13 : decode cX9_refusal 13 = .ok (.aload_n 1, 1) := by decide +kernel
theorem dX9_refusal_14 : decode cX9_refusal 14 = .ok (.getfield 100, 3) := by decide +kernel
theorem dX9_refusal_17 : decode cX9_refusal 17 = .ok (.aload_n 1, 1) := by decide +kernel
theorem dX9_refusal_18 : decode cX9_refusal 18 = .ok (.getfield 66, 3) := by decide +kernel
theorem dX9_refusal_21 : decode cX9_refusal 21 = .ok (.aload_n 1, 1) := by decide +kernel
theorem dX9_refusal_22 : decode cX9_refusal 22 = .ok (.getfield 70, 3) := by decide +kernel
theorem dX9_refusal_25 : decode cX9_refusal 25 = .ok (.invokevirtual 276, 3) := by decide +kernel
theorem dX9_refusal_28 : decode cX9_refusal 28 = .ok (.ifCond .eq 5, 3) := by decide +kernel
theorem dX9_refusal_31 : decode cX9_refusal 31 = .ok (.iconst 2, 1) := by decide +kernel
theorem dX9_refusal_32 : decode cX9_refusal 32 = .ok (.ireturn, 1) := by decide +kernel
theorem dX9_refusal_33 : decode cX9_refusal 33 = .ok (.aload_n 0, 1) := by decide +kernel
theorem dX9_refusal_34 : decode cX9_refusal 34 = .ok (.getfield 29, 3) := by decide +kernel
theorem dX9_refusal_37 : decode cX9_refusal 37 = .ok (.aload_n 1, 1) := by decide +kernel
theorem dX9_refusal_38 : decode cX9_refusal 38 = .ok (.invokevirtual 234, 3) := by decide +kernel
theorem dX9_refusal_41 : decode cX9_refusal 41 = .ok (.aload_n 0, 1) := by decide +kernel
theorem dX9_refusal_42 : decode cX9_refusal 42 = .ok (.getfield 29, 3) := by decide +kernel
theorem dX9_refusal_45 : decode cX9_refusal 45 = .ok (.invokevirtual 279, 3) := by decide +kernel
theorem dX9_refusal_48 : decode cX9_refusal 48 = .ok (.ifCond .ne 5, 3) := by decide +kernel
theorem dX9_refusal_51 : decode cX9_refusal 51 = .ok (.iconst 3, 1) := by decide +kernel
theorem dX9_refusal_52 : decode cX9_refusal 52 = .ok (.ireturn, 1) := by decide +kernel
theorem dX9_refusal_53 : decode cX9_refusal 53 = .ok (.aload_n 1, 1) := by decide +kernel
theorem dX9_refusal_54 : decode cX9_refusal 54 = .ok (.getfield 73, 3) := by decide +kernel
theorem dX9_refusal_57 : decode cX9_refusal 57 = .ok (.getfield 160, 3) := by decide +kernel
theorem dX9_refusal_60 : decode cX9_refusal 60 = .ok (.bipush 12, 2) := by decide +kernel
theorem dX9_refusal_62 : decode cX9_refusal 62 = .ok (.if_icmp .lt 7, 3) := by decide +kernel
theorem dX9_refusal_65 : decode cX9_refusal 65 = .ok (.iconst 4, 1) := by decide +kernel
theorem dX9_refusal_66 : decode cX9_refusal 66 = .ok (.goto 4, 3) := by decide +kernel
theorem dX9_refusal_69 : decode cX9_refusal 69 = .ok (.iconst 0, 1) := by decide +kernel
theorem dX9_refusal_70 : decode cX9_refusal 70 = .ok (.ireturn, 1) := by decide +kernel
theorem dX9_cornerProperty_0 : decode cX9_cornerProperty 0 = .ok (.aload_n 0, 1) := by decide +kernel
theorem dX9_cornerProperty_1 : decode cX9_cornerProperty 1 = .ok (.getfield 10, 3) := by decide +kernel
theorem dX9_cornerProperty_4 : decode cX9_cornerProperty 4 = .ok (.getfield 100, 3) := by decide +kernel
theorem dX9_cornerProperty_7 : decode cX9_cornerProperty 7 = .ok (.astore_n 3, 1) := by decide +kernel
theorem dX9_cornerProperty_8 : decode cX9_cornerProperty 8 = .ok (.iload_n 2, 1) := by decide +kernel
theorem dX9_cornerProperty_9 : decode cX9_cornerProperty 9 = .ok (.tableswitch 107 0 4 #[35, 43, 51, 59, 75], 35) := by decide +kernel
theorem dX9_cornerProperty_44 : decode cX9_cornerProperty 44 = .ok (.aload_n 3, 1) := by decide +kernel
theorem dX9_cornerProperty_45 : decode cX9_cornerProperty 45 = .ok (.getfield 129, 3) := by decide +kernel
theorem dX9_cornerProperty_48 : decode cX9_cornerProperty 48 = .ok (.iload_n 1, 1) := by decide +kernel
theorem dX9_cornerProperty_49 : decode cX9_cornerProperty 49 = .ok (.iaload, 1) := by decide +kernel
theorem dX9_cornerProperty_50 : decode cX9_cornerProperty 50 = .ok (.i2l, 1) := by decide +kernel
theorem dX9_cornerProperty_51 : decode cX9_cornerProperty 51 = .ok (.lreturn, 1) := by decide +kernel
theorem dX9_cornerProperty_52 : decode cX9_cornerProperty 52 = .ok (.aload_n 3, 1) := by decide +kernel
theorem dX9_cornerProperty_53 : decode cX9_cornerProperty 53 = .ok (.getfield 132, 3) := by decide +kernel
theorem dX9_cornerProperty_56 : decode cX9_cornerProperty 56 = .ok (.iload_n 1, 1) := by decide +kernel
theorem dX9_cornerProperty_57 : decode cX9_cornerProperty 57 = .ok (.iaload, 1) := by decide +kernel
theorem dX9_cornerProperty_58 : decode cX9_cornerProperty 58 = .ok (.i2l, 1) := by decide +kernel
theorem dX9_cornerProperty_59 : decode cX9_cornerProperty 59 = .ok (.lreturn, 1) := by decide +kernel
theorem dX9_cornerProperty_60 : decode cX9_cornerProperty 60 = .ok (.aload_n 3, 1) := by decide +kernel
theorem dX9_cornerProperty_61 : decode cX9_cornerProperty 61 = .ok (.getfield 140, 3) := by decide +kernel
theorem dX9_cornerProperty_64 : decode cX9_cornerProperty 64 = .ok (.iload_n 1, 1) := by decide +kernel
theorem dX9_cornerProperty_65 : decode cX9_cornerProperty 65 = .ok (.iaload, 1) := by decide +kernel
theorem dX9_cornerProperty_66 : decode cX9_cornerProperty 66 = .ok (.i2l, 1) := by decide +kernel
theorem dX9_cornerProperty_67 : decode cX9_cornerProperty 67 = .ok (.lreturn, 1) := by decide +kernel
theorem dX9_cornerProperty_68 : decode cX9_cornerProperty 68 = .ok (.aload_n 3, 1) := by decide +kernel
theorem dX9_cornerProperty_69 : decode cX9_cornerProperty 69 = .ok (.iload_n 1, 1) := by decide +kernel
theorem dX9_cornerProperty_70 : decode cX9_cornerProperty 70 = .ok (.aload_n 0, 1) := by decide +kernel
theorem dX9_cornerProperty_71 : decode cX9_cornerProperty 71 = .ok (.getfield 10, 3) := by decide +kernel
theorem dX9_cornerProperty_74 : decode cX9_cornerProperty 74 = .ok (.getfield 91, 3) := by decide +kernel
theorem dX9_cornerProperty_77 : decode cX9_cornerProperty 77 = .ok (.iconst 2, 1) := by decide +kernel
theorem dX9_cornerProperty_78 : decode cX9_cornerProperty 78 = .ok (.iaload, 1) := by decide +kernel
theorem dX9_cornerProperty_79 : decode cX9_cornerProperty 79 = .ok (.invokevirtual 282, 3) := by decide +kernel
theorem dX9_cornerProperty_82 : decode cX9_cornerProperty 82 = .ok (.i2l, 1) := by decide +kernel
theorem dX9_cornerProperty_83 : decode cX9_cornerProperty 83 = .ok (.lreturn, 1) := by decide +kernel
theorem dX9_cornerProperty_84 : decode cX9_cornerProperty 84 = .ok (.aload_n 0, 1) := by decide +kernel
theorem dX9_cornerProperty_85 : decode cX9_cornerProperty 85 = .ok (.getfield 29, 3) := by decide +kernel
theorem dX9_cornerProperty_88 : decode cX9_cornerProperty 88 = .ok (.aload_n 0, 1) := by decide +kernel
theorem dX9_cornerProperty_89 : decode cX9_cornerProperty 89 = .ok (.getfield 10, 3) := by decide +kernel
theorem dX9_cornerProperty_92 : decode cX9_cornerProperty 92 = .ok (.iload_n 1, 1) := by decide +kernel
theorem dX9_cornerProperty_93 : decode cX9_cornerProperty 93 = .ok (.invokevirtual 286, 3) := by decide +kernel
theorem dX9_cornerProperty_96 : decode cX9_cornerProperty 96 = .ok (.ifCond .eq 18, 3) := by decide +kernel
theorem dX9_cornerProperty_99 : decode cX9_cornerProperty 99 = .ok (.aload_n 0, 1) := by decide +kernel
theorem dX9_cornerProperty_100 : decode cX9_cornerProperty 100 = .ok (.getfield 29, 3) := by decide +kernel
theorem dX9_cornerProperty_103 : decode cX9_cornerProperty 103 = .ok (.aload_n 0, 1) := by decide +kernel
theorem dX9_cornerProperty_104 : decode cX9_cornerProperty 104 = .ok (.getfield 10, 3) := by decide +kernel
theorem dX9_cornerProperty_107 : decode cX9_cornerProperty 107 = .ok (.iload_n 1, 1) := by decide +kernel
theorem dX9_cornerProperty_108 : decode cX9_cornerProperty 108 = .ok (.invokevirtual 290, 3) := by decide +kernel
theorem dX9_cornerProperty_111 : decode cX9_cornerProperty 111 = .ok (.goto 4, 3) := by decide +kernel
theorem dX9_cornerProperty_114 : decode cX9_cornerProperty 114 = .ok (.lconst 0, 1) := by decide +kernel
theorem dX9_cornerProperty_115 : decode cX9_cornerProperty 115 = .ok (.lreturn, 1) := by decide +kernel
theorem dX9_cornerProperty_116 : decode cX9_cornerProperty 116 = .ok (.aload_n 0, 1) := by decide +kernel
theorem dX9_cornerProperty_117 : decode cX9_cornerProperty 117 = .ok (.getfield 29, 3) := by decide +kernel
theorem dX9_cornerProperty_120 : decode cX9_cornerProperty 120 = .ok (.aload_n 0, 1) := by decide +kernel
theorem dX9_cornerProperty_121 : decode cX9_cornerProperty 121 = .ok (.getfield 10, 3) := by decide +kernel
theorem dX9_cornerProperty_124 : decode cX9_cornerProperty 124 = .ok (.iload_n 1, 1) := by decide +kernel
theorem dX9_cornerProperty_125 : decode cX9_cornerProperty 125 = .ok (.invokevirtual 286, 3) := by decide +kernel
theorem dX9_cornerProperty_128 : decode cX9_cornerProperty 128 = .ok (.ifCond .eq 7, 3) := by decide +kernel
theorem dX9_cornerProperty_131 : decode cX9_cornerProperty 131 = .ok (.lconst 1, 1) := by decide +kernel
theorem dX9_cornerProperty_132 : decode cX9_cornerProperty 132 = .ok (.goto 4, 3) := by decide +kernel
theorem dX9_cornerProperty_135 : decode cX9_cornerProperty 135 = .ok (.lconst 0, 1) := by decide +kernel
theorem dX9_cornerProperty_136 : decode cX9_cornerProperty 136 = .ok (.lreturn, 1) := by decide +kernel
theorem dX9_runProperty_0 : decode cX9_runProperty 0 = .ok (.aload_n 0, 1) := by decide +kernel
theorem dX9_runProperty_1 : decode cX9_runProperty 1 = .ok (.getfield 10, 3) := by decide +kernel
theorem dX9_runProperty_4 : decode cX9_runProperty 4 = .ok (.getfield 73, 3) := by decide +kernel
theorem dX9_runProperty_7 : decode cX9_runProperty 7 = .ok (.astore_n 3, 1) := by decide +kernel
theorem dX9_runProperty_8 : decode cX9_runProperty 8 = .ok (.iload_n 2, 1) := by decide +kernel
theorem dX9_runProperty_9 : decode cX9_runProperty 9 = .ok (.tableswitch 102 0 4 #[35, 43, 58, 65, 89], 35) := by decide +kernel
theorem dX9_runProperty_44 : decode cX9_runProperty 44 = .ok (.aload_n 3, 1) := by decide +kernel
theorem dX9_runProperty_45 : decode cX9_runProperty 45 = .ok (.getfield 294, 3) := by decide +kernel
theorem dX9_runProperty_48 : decode cX9_runProperty 48 = .ok (.iload_n 1, 1) := by decide +kernel
theorem dX9_runProperty_49 : decode cX9_runProperty 49 = .ok (.iaload, 1) := by decide +kernel
theorem dX9_runProperty_50 : decode cX9_runProperty 50 = .ok (.i2l, 1) := by decide +kernel
theorem dX9_runProperty_51 : decode cX9_runProperty 51 = .ok (.lreturn, 1) := by decide +kernel
theorem dX9_runProperty_52 : decode cX9_runProperty 52 = .ok (.aload_n 3, 1) := by decide +kernel
theorem dX9_runProperty_53 : decode cX9_runProperty 53 = .ok (.getfield 296, 3) := by decide +kernel
theorem dX9_runProperty_56 : decode cX9_runProperty 56 = .ok (.iload_n 1, 1) := by decide +kernel
theorem dX9_runProperty_57 : decode cX9_runProperty 57 = .ok (.baload, 1) := by decide +kernel
theorem dX9_runProperty_58 : decode cX9_runProperty 58 = .ok (.ifCond .eq 7, 3) := by decide +kernel
theorem dX9_runProperty_61 : decode cX9_runProperty 61 = .ok (.lconst 1, 1) := by decide +kernel
theorem dX9_runProperty_62 : decode cX9_runProperty 62 = .ok (.goto 4, 3) := by decide +kernel
theorem dX9_runProperty_65 : decode cX9_runProperty 65 = .ok (.lconst 0, 1) := by decide +kernel
theorem dX9_runProperty_66 : decode cX9_runProperty 66 = .ok (.lreturn, 1) := by decide +kernel
theorem dX9_runProperty_67 : decode cX9_runProperty 67 = .ok (.aload_n 3, 1) := by decide +kernel
theorem dX9_runProperty_68 : decode cX9_runProperty 68 = .ok (.getfield 300, 3) := by decide +kernel
theorem dX9_runProperty_71 : decode cX9_runProperty 71 = .ok (.iload_n 1, 1) := by decide +kernel
theorem dX9_runProperty_72 : decode cX9_runProperty 72 = .ok (.laload, 1) := by decide +kernel
theorem dX9_runProperty_73 : decode cX9_runProperty 73 = .ok (.lreturn, 1) := by decide +kernel
theorem dX9_runProperty_74 : decode cX9_runProperty 74 = .ok (.aload_n 3, 1) := by decide +kernel
theorem dX9_runProperty_75 : decode cX9_runProperty 75 = .ok (.getfield 300, 3) := by decide +kernel
theorem dX9_runProperty_78 : decode cX9_runProperty 78 = .ok (.iload_n 1, 1) := by decide +kernel
theorem dX9_runProperty_79 : decode cX9_runProperty 79 = .ok (.laload, 1) := by decide +kernel
theorem dX9_runProperty_80 : decode cX9_runProperty 80 = .ok (.ldc2_w 304, 3) := by decide +kernel
theorem dX9_runProperty_83 : decode cX9_runProperty 83 = .ok (.aload_n 0, 1) := by decide +kernel
theorem dX9_runProperty_84 : decode cX9_runProperty 84 = .ok (.getfield 10, 3) := by decide +kernel
theorem dX9_runProperty_87 : decode cX9_runProperty 87 = .ok (.getfield 91, 3) := by decide +kernel
theorem dX9_runProperty_90 : decode cX9_runProperty 90 = .ok (.iconst 1, 1) := by decide +kernel
theorem dX9_runProperty_91 : decode cX9_runProperty 91 = .ok (.iaload, 1) := by decide +kernel
theorem dX9_runProperty_92 : decode cX9_runProperty 92 = .ok (.i2l, 1) := by decide +kernel
theorem dX9_runProperty_93 : decode cX9_runProperty 93 = .ok (.lmul, 1) := by decide +kernel
theorem dX9_runProperty_94 : decode cX9_runProperty 94 = .ok (.invokestatic 306, 3) := by decide +kernel
theorem dX9_runProperty_97 : decode cX9_runProperty 97 = .ok (.lreturn, 1) := by decide +kernel
theorem dX9_runProperty_98 : decode cX9_runProperty 98 = .ok (.aload_n 3, 1) := by decide +kernel
theorem dX9_runProperty_99 : decode cX9_runProperty 99 = .ok (.iload_n 1, 1) := by decide +kernel
theorem dX9_runProperty_100 : decode cX9_runProperty 100 = .ok (.aload_n 0, 1) := by decide +kernel
theorem dX9_runProperty_101 : decode cX9_runProperty 101 = .ok (.getfield 10, 3) := by decide +kernel
theorem dX9_runProperty_104 : decode cX9_runProperty 104 = .ok (.invokevirtual 309, 3) := by decide +kernel
theorem dX9_runProperty_107 : decode cX9_runProperty 107 = .ok (.invokevirtual 312, 3) := by decide +kernel
theorem dX9_runProperty_110 : decode cX9_runProperty 110 = .ok (.lreturn, 1) := by decide +kernel
theorem dX9_runProperty_111 : decode cX9_runProperty 111 = .ok (.aload_n 0, 1) := by decide +kernel
theorem dX9_runProperty_112 : decode cX9_runProperty 112 = .ok (.getfield 36, 3) := by decide +kernel
theorem dX9_runProperty_115 : decode cX9_runProperty 115 = .ok (.aload_n 0, 1) := by decide +kernel
theorem dX9_runProperty_116 : decode cX9_runProperty 116 = .ok (.getfield 10, 3) := by decide +kernel
theorem dX9_runProperty_119 : decode cX9_runProperty 119 = .ok (.invokevirtual 315, 3) := by decide +kernel
theorem dX9_runProperty_122 : decode cX9_runProperty 122 = .ok (.aload_n 0, 1) := by decide +kernel
theorem dX9_runProperty_123 : decode cX9_runProperty 123 = .ok (.getfield 36, 3) := by decide +kernel
theorem dX9_runProperty_126 : decode cX9_runProperty 126 = .ok (.getfield 318, 3) := by decide +kernel
theorem dX9_runProperty_129 : decode cX9_runProperty 129 = .ok (.iload_n 1, 1) := by decide +kernel
theorem dX9_runProperty_130 : decode cX9_runProperty 130 = .ok (.baload, 1) := by decide +kernel
theorem dX9_runProperty_131 : decode cX9_runProperty 131 = .ok (.ifCond .eq 7, 3) := by decide +kernel
theorem dX9_runProperty_134 : decode cX9_runProperty 134 = .ok (.lconst 1, 1) := by decide +kernel
theorem dX9_runProperty_135 : decode cX9_runProperty 135 = .ok (.goto 4, 3) := by decide +kernel
theorem dX9_runProperty_138 : decode cX9_runProperty 138 = .ok (.lconst 0, 1) := by decide +kernel
theorem dX9_runProperty_139 : decode cX9_runProperty 139 = .ok (.lreturn, 1) := by decide +kernel
theorem dX9_number_0 : decode cX9_number 0 = .ok (.iload_n 1, 1) := by decide +kernel
theorem dX9_number_1 : decode cX9_number 1 = .ok (.tableswitch 285 0 13 #[71, 83, 95, 104, 113, 122, 133, 144, 169, 177, 210, 229, 260, 265], 71) := by decide +kernel
theorem dX9_number_72 : decode cX9_number 72 = .ok (.aload_n 0, 1) := by decide +kernel
theorem dX9_number_73 : decode cX9_number 73 = .ok (.getfield 10, 3) := by decide +kernel
theorem dX9_number_76 : decode cX9_number 76 = .ok (.getfield 100, 3) := by decide +kernel
theorem dX9_number_79 : decode cX9_number 79 = .ok (.getfield 104, 3) := by decide +kernel
theorem dX9_number_82 : decode cX9_number 82 = .ok (.i2l, 1) := by decide +kernel
theorem dX9_number_83 : decode cX9_number 83 = .ok (.lreturn, 1) := by decide +kernel
theorem dX9_number_84 : decode cX9_number 84 = .ok (.aload_n 0, 1) := by decide +kernel
theorem dX9_number_85 : decode cX9_number 85 = .ok (.getfield 10, 3) := by decide +kernel
theorem dX9_number_88 : decode cX9_number 88 = .ok (.getfield 73, 3) := by decide +kernel
theorem dX9_number_91 : decode cX9_number 91 = .ok (.getfield 160, 3) := by decide +kernel
theorem dX9_number_94 : decode cX9_number 94 = .ok (.i2l, 1) := by decide +kernel
theorem dX9_number_95 : decode cX9_number 95 = .ok (.lreturn, 1) := by decide +kernel
theorem dX9_number_96 : decode cX9_number 96 = .ok (.aload_n 0, 1) := by decide +kernel
theorem dX9_number_97 : decode cX9_number 97 = .ok (.getfield 10, 3) := by decide +kernel
theorem dX9_number_100 : decode cX9_number 100 = .ok (.getfield 66, 3) := by decide +kernel
theorem dX9_number_103 : decode cX9_number 103 = .ok (.i2l, 1) := by decide +kernel
theorem dX9_number_104 : decode cX9_number 104 = .ok (.lreturn, 1) := by decide +kernel
theorem dX9_number_105 : decode cX9_number 105 = .ok (.aload_n 0, 1) := by decide +kernel
theorem dX9_number_106 : decode cX9_number 106 = .ok (.getfield 10, 3) := by decide +kernel
theorem dX9_number_109 : decode cX9_number 109 = .ok (.getfield 70, 3) := by decide +kernel
theorem dX9_number_112 : decode cX9_number 112 = .ok (.i2l, 1) := by decide +kernel
theorem dX9_number_113 : decode cX9_number 113 = .ok (.lreturn, 1) := by decide +kernel
theorem dX9_number_114 : decode cX9_number 114 = .ok (.aload_n 0, 1) := by decide +kernel
theorem dX9_number_115 : decode cX9_number 115 = .ok (.getfield 10, 3) := by decide +kernel
theorem dX9_number_118 : decode cX9_number 118 = .ok (.getfield 97, 3) := by decide +kernel
theorem dX9_number_121 : decode cX9_number 121 = .ok (.i2l, 1) := by decide +kernel
theorem dX9_number_122 : decode cX9_number 122 = .ok (.lreturn, 1) := by decide +kernel
theorem dX9_number_123 : decode cX9_number 123 = .ok (.aload_n 0, 1) := by decide +kernel
theorem dX9_number_124 : decode cX9_number 124 = .ok (.getfield 10, 3) := by decide +kernel
theorem dX9_number_127 : decode cX9_number 127 = .ok (.getfield 100, 3) := by decide +kernel
theorem dX9_number_130 : decode cX9_number 130 = .ok (.invokevirtual 321, 3) := by decide +kernel
theorem dX9_number_133 : decode cX9_number 133 = .ok (.lreturn, 1) := by decide +kernel
theorem dX9_number_134 : decode cX9_number 134 = .ok (.aload_n 0, 1) := by decide +kernel
theorem dX9_number_135 : decode cX9_number 135 = .ok (.getfield 10, 3) := by decide +kernel
theorem dX9_number_138 : decode cX9_number 138 = .ok (.getfield 100, 3) := by decide +kernel
theorem dX9_number_141 : decode cX9_number 141 = .ok (.invokevirtual 247, 3) := by decide +kernel
theorem dX9_number_144 : decode cX9_number 144 = .ok (.lreturn, 1) := by decide +kernel
theorem dX9_number_145 : decode cX9_number 145 = .ok (.aload_n 0, 1) := by decide +kernel
theorem dX9_number_146 : decode cX9_number 146 = .ok (.getfield 10, 3) := by decide +kernel
theorem dX9_number_149 : decode cX9_number 149 = .ok (.getfield 100, 3) := by decide +kernel
theorem dX9_number_152 : decode cX9_number 152 = .ok (.aload_n 0, 1) := by decide +kernel
theorem dX9_number_153 : decode cX9_number 153 = .ok (.getfield 10, 3) := by decide +kernel
theorem dX9_number_156 : decode cX9_number 156 = .ok (.getfield 66, 3) := by decide +kernel
theorem dX9_number_159 : decode cX9_number 159 = .ok (.aload_n 0, 1) := by decide +kernel
theorem dX9_number_160 : decode cX9_number 160 = .ok (.getfield 10, 3) := by decide +kernel
theorem dX9_number_163 : decode cX9_number 163 = .ok (.getfield 70, 3) := by decide +kernel
theorem dX9_number_166 : decode cX9_number 166 = .ok (.invokevirtual 324, 3) := by decide +kernel
theorem dX9_number_169 : decode cX9_number 169 = .ok (.lreturn, 1) := by decide +kernel
theorem dX9_number_170 : decode cX9_number 170 = .ok (.aload_n 0, 1) := by decide +kernel
theorem dX9_number_171 : decode cX9_number 171 = .ok (.getfield 10, 3) := by decide +kernel
theorem dX9_number_174 : decode cX9_number 174 = .ok (.invokevirtual 309, 3) := by decide +kernel
theorem dX9_number_177 : decode cX9_number 177 = .ok (.lreturn, 1) := by decide +kernel
theorem dX9_number_178 : decode cX9_number 178 = .ok (.aload_n 0, 1) := by decide +kernel
theorem dX9_number_179 : decode cX9_number 179 = .ok (.getfield 10, 3) := by decide +kernel
theorem dX9_number_182 : decode cX9_number 182 = .ok (.getfield 100, 3) := by decide +kernel
theorem dX9_number_185 : decode cX9_number 185 = .ok (.aload_n 0, 1) := by decide +kernel
theorem dX9_number_186 : decode cX9_number 186 = .ok (.getfield 10, 3) := by decide +kernel
theorem dX9_number_189 : decode cX9_number 189 = .ok (.getfield 66, 3) := by decide +kernel
theorem dX9_number_192 : decode cX9_number 192 = .ok (.aload_n 0, 1) := by decide +kernel
theorem dX9_number_193 : decode cX9_number 193 = .ok (.getfield 10, 3) := by decide +kernel
theorem dX9_number_196 : decode cX9_number 196 = .ok (.getfield 70, 3) := by decide +kernel
theorem dX9_number_199 : decode cX9_number 199 = .ok (.invokevirtual 276, 3) := by decide +kernel
theorem dX9_number_202 : decode cX9_number 202 = .ok (.ifCond .eq 7, 3) := by decide +kernel
theorem dX9_number_205 : decode cX9_number 205 = .ok (.lconst 1, 1) := by decide +kernel
theorem dX9_number_206 : decode cX9_number 206 = .ok (.goto 4, 3) := by decide +kernel
theorem dX9_number_209 : decode cX9_number 209 = .ok (.lconst 0, 1) := by decide +kernel
theorem dX9_number_210 : decode cX9_number 210 = .ok (.lreturn, 1) := by decide +kernel
theorem dX9_number_211 : decode cX9_number 211 = .ok (.aload_n 0, 1) := by decide +kernel
theorem dX9_number_212 : decode cX9_number 212 = .ok (.getfield 36, 3) := by decide +kernel
theorem dX9_number_215 : decode cX9_number 215 = .ok (.aload_n 0, 1) := by decide +kernel
theorem dX9_number_216 : decode cX9_number 216 = .ok (.getfield 10, 3) := by decide +kernel
theorem dX9_number_219 : decode cX9_number 219 = .ok (.invokevirtual 315, 3) := by decide +kernel
theorem dX9_number_222 : decode cX9_number 222 = .ok (.aload_n 0, 1) := by decide +kernel
theorem dX9_number_223 : decode cX9_number 223 = .ok (.getfield 36, 3) := by decide +kernel
theorem dX9_number_226 : decode cX9_number 226 = .ok (.getfield 327, 3) := by decide +kernel
theorem dX9_number_229 : decode cX9_number 229 = .ok (.lreturn, 1) := by decide +kernel
theorem dX9_number_230 : decode cX9_number 230 = .ok (.aload_n 0, 1) := by decide +kernel
theorem dX9_number_231 : decode cX9_number 231 = .ok (.getfield 36, 3) := by decide +kernel
theorem dX9_number_234 : decode cX9_number 234 = .ok (.aload_n 0, 1) := by decide +kernel
theorem dX9_number_235 : decode cX9_number 235 = .ok (.getfield 10, 3) := by decide +kernel
theorem dX9_number_238 : decode cX9_number 238 = .ok (.invokevirtual 315, 3) := by decide +kernel
theorem dX9_number_241 : decode cX9_number 241 = .ok (.aload_n 0, 1) := by decide +kernel
theorem dX9_number_242 : decode cX9_number 242 = .ok (.getfield 10, 3) := by decide +kernel
theorem dX9_number_245 : decode cX9_number 245 = .ok (.getfield 73, 3) := by decide +kernel
theorem dX9_number_248 : decode cX9_number 248 = .ok (.getfield 160, 3) := by decide +kernel
theorem dX9_number_251 : decode cX9_number 251 = .ok (.aload_n 0, 1) := by decide +kernel
theorem dX9_number_252 : decode cX9_number 252 = .ok (.getfield 36, 3) := by decide +kernel
theorem dX9_number_255 : decode cX9_number 255 = .ok (.getfield 330, 3) := by decide +kernel
theorem dX9_number_258 : decode cX9_number 258 = .ok (.isub, 1) := by decide +kernel
theorem dX9_number_259 : decode cX9_number 259 = .ok (.i2l, 1) := by decide +kernel
theorem dX9_number_260 : decode cX9_number 260 = .ok (.lreturn, 1) := by decide +kernel
theorem dX9_number_261 : decode cX9_number 261 = .ok (.aload_n 0, 1) := by decide +kernel
theorem dX9_number_262 : decode cX9_number 262 = .ok (.invokevirtual 251, 3) := by decide +kernel
theorem dX9_number_265 : decode cX9_number 265 = .ok (.lreturn, 1) := by decide +kernel
theorem dX9_number_266 : decode cX9_number 266 = .ok (.aload_n 0, 1) := by decide +kernel
theorem dX9_number_267 : decode cX9_number 267 = .ok (.getfield 10, 3) := by decide +kernel
theorem dX9_number_270 : decode cX9_number 270 = .ok (.getfield 100, 3) := by decide +kernel
theorem dX9_number_273 : decode cX9_number 273 = .ok (.aload_n 0, 1) := by decide +kernel
theorem dX9_number_274 : decode cX9_number 274 = .ok (.getfield 10, 3) := by decide +kernel
theorem dX9_number_277 : decode cX9_number 277 = .ok (.getfield 91, 3) := by decide +kernel
theorem dX9_number_280 : decode cX9_number 280 = .ok (.iconst 2, 1) := by decide +kernel
theorem dX9_number_281 : decode cX9_number 281 = .ok (.iaload, 1) := by decide +kernel
theorem dX9_number_282 : decode cX9_number 282 = .ok (.invokevirtual 333, 3) := by decide +kernel
theorem dX9_number_285 : decode cX9_number 285 = .ok (.lreturn, 1) := by decide +kernel
theorem dX9_number_286 : decode cX9_number 286 = .ok (.aload_n 0, 1) := by decide +kernel
theorem dX9_number_287 : decode cX9_number 287 = .ok (.getfield 22, 3) := by decide +kernel
theorem dX9_number_290 : decode cX9_number 290 = .ok (.getfield 184, 3) := by decide +kernel
theorem dX9_number_293 : decode cX9_number 293 = .ok (.i2l, 1) := by decide +kernel
theorem dX9_number_294 : decode cX9_number 294 = .ok (.lreturn, 1) := by decide +kernel
theorem dX9_meanMinusArea_0 : decode cX9_meanMinusArea 0 = .ok (.aload_n 0, 1) := by decide +kernel
theorem dX9_meanMinusArea_1 : decode cX9_meanMinusArea 1 = .ok (.getfield 10, 3) := by decide +kernel
theorem dX9_meanMinusArea_4 : decode cX9_meanMinusArea 4 = .ok (.getfield 73, 3) := by decide +kernel
theorem dX9_meanMinusArea_7 : decode cX9_meanMinusArea 7 = .ok (.getfield 160, 3) := by decide +kernel
theorem dX9_meanMinusArea_10 : decode cX9_meanMinusArea 10 = .ok (.ifCond .ne 5, 3) := by decide +kernel
theorem dX9_meanMinusArea_13 : decode cX9_meanMinusArea 13 = .ok (.lconst 0, 1) := by decide +kernel
theorem dX9_meanMinusArea_14 : decode cX9_meanMinusArea 14 = .ok (.lreturn, 1) := by decide +kernel
theorem dX9_meanMinusArea_15 : decode cX9_meanMinusArea 15 = .ok (.aload_n 0, 1) := by decide +kernel
theorem dX9_meanMinusArea_16 : decode cX9_meanMinusArea 16 = .ok (.getfield 36, 3) := by decide +kernel
theorem dX9_meanMinusArea_19 : decode cX9_meanMinusArea 19 = .ok (.aload_n 0, 1) := by decide +kernel
theorem dX9_meanMinusArea_20 : decode cX9_meanMinusArea 20 = .ok (.getfield 10, 3) := by decide +kernel
theorem dX9_meanMinusArea_23 : decode cX9_meanMinusArea 23 = .ok (.invokevirtual 315, 3) := by decide +kernel
theorem dX9_meanMinusArea_26 : decode cX9_meanMinusArea 26 = .ok (.aload_n 0, 1) := by decide +kernel
theorem dX9_meanMinusArea_27 : decode cX9_meanMinusArea 27 = .ok (.getfield 36, 3) := by decide +kernel
theorem dX9_meanMinusArea_30 : decode cX9_meanMinusArea 30 = .ok (.getfield 327, 3) := by decide +kernel
theorem dX9_meanMinusArea_33 : decode cX9_meanMinusArea 33 = .ok (.aload_n 0, 1) := by decide +kernel
theorem dX9_meanMinusArea_34 : decode cX9_meanMinusArea 34 = .ok (.getfield 10, 3) := by decide +kernel
theorem dX9_meanMinusArea_37 : decode cX9_meanMinusArea 37 = .ok (.getfield 100, 3) := by decide +kernel
theorem dX9_meanMinusArea_40 : decode cX9_meanMinusArea 40 = .ok (.invokevirtual 247, 3) := by decide +kernel
theorem dX9_meanMinusArea_43 : decode cX9_meanMinusArea 43 = .ok (.lsub, 1) := by decide +kernel
theorem dX9_meanMinusArea_44 : decode cX9_meanMinusArea 44 = .ok (.lreturn, 1) := by decide +kernel
theorem dX9_hashed_0 : decode cX9_hashed 0 = .ok (.ldc2_w 336, 3) := by decide +kernel
theorem dX9_hashed_3 : decode cX9_hashed 3 = .ok (.lload_n 0, 1) := by decide +kernel
theorem dX9_hashed_4 : decode cX9_hashed 4 = .ok (.lmul, 1) := by decide +kernel
theorem dX9_hashed_5 : decode cX9_hashed 5 = .ok (.lload_n 2, 1) := by decide +kernel
theorem dX9_hashed_6 : decode cX9_hashed 6 = .ok (.ladd, 1) := by decide +kernel
theorem dX9_hashed_7 : decode cX9_hashed 7 = .ok (.lreturn, 1) := by decide +kernel
theorem dX9_errorBits_0 : decode cX9_errorBits 0 = .ok (.aload_n 0, 1) := by decide +kernel
theorem dX9_errorBits_1 : decode cX9_errorBits 1 = .ok (.getfield 10, 3) := by decide +kernel
theorem dX9_errorBits_4 : decode cX9_errorBits 4 = .ok (.getfield 100, 3) := by decide +kernel
theorem dX9_errorBits_7 : decode cX9_errorBits 7 = .ok (.invokevirtual 247, 3) := by decide +kernel
theorem dX9_errorBits_10 : decode cX9_errorBits 10 = .ok (.lstore_n 1, 1) := by decide +kernel
theorem dX9_errorBits_11 : decode cX9_errorBits 11 = .ok (.aload_n 0, 1) := by decide +kernel
theorem dX9_errorBits_12 : decode cX9_errorBits 12 = .ok (.getfield 10, 3) := by decide +kernel
theorem dX9_errorBits_15 : decode cX9_errorBits 15 = .ok (.getfield 73, 3) := by decide +kernel
theorem dX9_errorBits_18 : decode cX9_errorBits 18 = .ok (.getfield 160, 3) := by decide +kernel
theorem dX9_errorBits_21 : decode cX9_errorBits 21 = .ok (.ifCond .eq 9, 3) := by decide +kernel
theorem dX9_errorBits_24 : decode cX9_errorBits 24 = .ok (.lload_n 1, 1) := by decide +kernel
theorem dX9_errorBits_25 : decode cX9_errorBits 25 = .ok (.lconst 0, 1) := by decide +kernel
theorem dX9_errorBits_26 : decode cX9_errorBits 26 = .ok (.lcmp, 1) := by decide +kernel
theorem dX9_errorBits_27 : decode cX9_errorBits 27 = .ok (.ifCond .ne 5, 3) := by decide +kernel
theorem dX9_errorBits_30 : decode cX9_errorBits 30 = .ok (.lconst 0, 1) := by decide +kernel
theorem dX9_errorBits_31 : decode cX9_errorBits 31 = .ok (.lreturn, 1) := by decide +kernel
theorem dX9_errorBits_32 : decode cX9_errorBits 32 = .ok (.aload_n 0, 1) := by decide +kernel
theorem dX9_errorBits_33 : decode cX9_errorBits 33 = .ok (.invokevirtual 251, 3) := by decide +kernel
theorem dX9_errorBits_36 : decode cX9_errorBits 36 = .ok (.lstore_n 3, 1) := by decide +kernel
theorem dX9_errorBits_37 : decode cX9_errorBits 37 = .ok (.lload_n 3, 1) := by decide +kernel
theorem dX9_errorBits_38 : decode cX9_errorBits 38 = .ok (.lconst 0, 1) := by decide +kernel
theorem dX9_errorBits_39 : decode cX9_errorBits 39 = .ok (.lcmp, 1) := by decide +kernel
theorem dX9_errorBits_40 : decode cX9_errorBits 40 = .ok (.ifCond .ge 7, 3) := by decide +kernel
theorem dX9_errorBits_43 : decode cX9_errorBits 43 = .ok (.iconst 1, 1) := by decide +kernel
theorem dX9_errorBits_44 : decode cX9_errorBits 44 = .ok (.goto 4, 3) := by decide +kernel
theorem dX9_errorBits_47 : decode cX9_errorBits 47 = .ok (.iconst 0, 1) := by decide +kernel
theorem dX9_errorBits_48 : decode cX9_errorBits 48 = .ok (.lload_n 1, 1) := by decide +kernel
theorem dX9_errorBits_49 : decode cX9_errorBits 49 = .ok (.lconst 0, 1) := by decide +kernel
theorem dX9_errorBits_50 : decode cX9_errorBits 50 = .ok (.lcmp, 1) := by decide +kernel
theorem dX9_errorBits_51 : decode cX9_errorBits 51 = .ok (.ifCond .ge 7, 3) := by decide +kernel
theorem dX9_errorBits_54 : decode cX9_errorBits 54 = .ok (.iconst 1, 1) := by decide +kernel
theorem dX9_errorBits_55 : decode cX9_errorBits 55 = .ok (.goto 4, 3) := by decide +kernel
theorem dX9_errorBits_58 : decode cX9_errorBits 58 = .ok (.iconst 0, 1) := by decide +kernel
theorem dX9_errorBits_59 : decode cX9_errorBits 59 = .ok (.if_icmp .eq 7, 3) := by decide +kernel
theorem dX9_errorBits_62 : decode cX9_errorBits 62 = .ok (.iconst 1, 1) := by decide +kernel
theorem dX9_errorBits_63 : decode cX9_errorBits 63 = .ok (.goto 4, 3) := by decide +kernel
theorem dX9_errorBits_66 : decode cX9_errorBits 66 = .ok (.iconst 0, 1) := by decide +kernel
theorem dX9_errorBits_67 : decode cX9_errorBits 67 = .ok (.istore 5, 2) := by decide +kernel
theorem dX9_errorBits_69 : decode cX9_errorBits 69 = .ok (.lload_n 3, 1) := by decide +kernel
theorem dX9_errorBits_70 : decode cX9_errorBits 70 = .ok (.invokestatic 338, 3) := by decide +kernel
theorem dX9_errorBits_73 : decode cX9_errorBits 73 = .ok (.l2d, 1) := by decide +kernel
theorem dX9_errorBits_74 : decode cX9_errorBits 74 = .ok (.lload_n 1, 1) := by decide +kernel
theorem dX9_errorBits_75 : decode cX9_errorBits 75 = .ok (.invokestatic 338, 3) := by decide +kernel
theorem dX9_errorBits_78 : decode cX9_errorBits 78 = .ok (.l2d, 1) := by decide +kernel
theorem dX9_errorBits_79 : decode cX9_errorBits 79 = .ok (.ddiv, 1) := by decide +kernel
theorem dX9_errorBits_80 : decode cX9_errorBits 80 = .ok (.invokestatic 344, 3) := by decide +kernel
theorem dX9_errorBits_83 : decode cX9_errorBits 83 = .ok (.lstore 6, 2) := by decide +kernel
theorem dX9_errorBits_85 : decode cX9_errorBits 85 = .ok (.iload 5, 2) := by decide +kernel
theorem dX9_errorBits_87 : decode cX9_errorBits 87 = .ok (.ifCond .eq 12, 3) := by decide +kernel
theorem dX9_errorBits_90 : decode cX9_errorBits 90 = .ok (.lload 6, 2) := by decide +kernel
theorem dX9_errorBits_92 : decode cX9_errorBits 92 = .ok (.ldc2_w 348, 3) := by decide +kernel
theorem dX9_errorBits_95 : decode cX9_errorBits 95 = .ok (.lor, 1) := by decide +kernel
theorem dX9_errorBits_96 : decode cX9_errorBits 96 = .ok (.goto 5, 3) := by decide +kernel
theorem dX9_errorBits_99 : decode cX9_errorBits 99 = .ok (.lload 6, 2) := by decide +kernel
theorem dX9_errorBits_101 : decode cX9_errorBits 101 = .ok (.lreturn, 1) := by decide +kernel
theorem dX9_bitsOfSize_0 : decode cX9_bitsOfSize 0 = .ok (.dload_n 0, 1) := by decide +kernel
theorem dX9_bitsOfSize_1 : decode cX9_bitsOfSize 1 = .ok (.dconst 0, 1) := by decide +kernel
theorem dX9_bitsOfSize_2 : decode cX9_bitsOfSize 2 = .ok (.dcmp .l, 1) := by decide +kernel
theorem dX9_bitsOfSize_3 : decode cX9_bitsOfSize 3 = .ok (.ifCond .ne 5, 3) := by decide +kernel
theorem dX9_bitsOfSize_6 : decode cX9_bitsOfSize 6 = .ok (.lconst 0, 1) := by decide +kernel
theorem dX9_bitsOfSize_7 : decode cX9_bitsOfSize 7 = .ok (.lreturn, 1) := by decide +kernel
theorem dX9_bitsOfSize_8 : decode cX9_bitsOfSize 8 = .ok (.dload_n 0, 1) := by decide +kernel
theorem dX9_bitsOfSize_9 : decode cX9_bitsOfSize 9 = .ok (.dstore_n 2, 1) := by decide +kernel
theorem dX9_bitsOfSize_10 : decode cX9_bitsOfSize 10 = .ok (.lconst 0, 1) := by decide +kernel
theorem dX9_bitsOfSize_11 : decode cX9_bitsOfSize 11 = .ok (.lstore 4, 2) := by decide +kernel
theorem dX9_bitsOfSize_13 : decode cX9_bitsOfSize 13 = .ok (.dload_n 2, 1) := by decide +kernel
theorem dX9_bitsOfSize_14 : decode cX9_bitsOfSize 14 = .ok (.ldc2_w 350, 3) := by decide +kernel
theorem dX9_bitsOfSize_17 : decode cX9_bitsOfSize 17 = .ok (.dcmp .l, 1) := by decide +kernel
theorem dX9_bitsOfSize_18 : decode cX9_bitsOfSize 18 = .ok (.ifCond .lt 27, 3) := by decide +kernel
theorem dX9_bitsOfSize_21 : decode cX9_bitsOfSize 21 = .ok (.lload 4, 2) := by decide +kernel
theorem dX9_bitsOfSize_23 : decode cX9_bitsOfSize 23 = .ok (.ldc2_w 352, 3) := by decide +kernel
theorem dX9_bitsOfSize_26 : decode cX9_bitsOfSize 26 = .ok (.lcmp, 1) := by decide +kernel
theorem dX9_bitsOfSize_27 : decode cX9_bitsOfSize 27 = .ok (.ifCond .ge 18, 3) := by decide +kernel
theorem dX9_bitsOfSize_30 : decode cX9_bitsOfSize 30 = .ok (.dload_n 2, 1) := by decide +kernel
theorem dX9_bitsOfSize_31 : decode cX9_bitsOfSize 31 = .ok (.ldc2_w 350, 3) := by decide +kernel
theorem dX9_bitsOfSize_34 : decode cX9_bitsOfSize 34 = .ok (.ddiv, 1) := by decide +kernel
theorem dX9_bitsOfSize_35 : decode cX9_bitsOfSize 35 = .ok (.dstore_n 2, 1) := by decide +kernel
theorem dX9_bitsOfSize_36 : decode cX9_bitsOfSize 36 = .ok (.lload 4, 2) := by decide +kernel
theorem dX9_bitsOfSize_38 : decode cX9_bitsOfSize 38 = .ok (.lconst 1, 1) := by decide +kernel
theorem dX9_bitsOfSize_39 : decode cX9_bitsOfSize 39 = .ok (.ladd, 1) := by decide +kernel
theorem dX9_bitsOfSize_40 : decode cX9_bitsOfSize 40 = .ok (.lstore 4, 2) := by decide +kernel
theorem dX9_bitsOfSize_42 : decode cX9_bitsOfSize 42 = .ok (.goto (-29), 3) := by decide +kernel
theorem dX9_bitsOfSize_45 : decode cX9_bitsOfSize 45 = .ok (.dload_n 2, 1) := by decide +kernel
theorem dX9_bitsOfSize_46 : decode cX9_bitsOfSize 46 = .ok (.dconst 1, 1) := by decide +kernel
theorem dX9_bitsOfSize_47 : decode cX9_bitsOfSize 47 = .ok (.dcmp .g, 1) := by decide +kernel
theorem dX9_bitsOfSize_48 : decode cX9_bitsOfSize 48 = .ok (.ifCond .ge 27, 3) := by decide +kernel
theorem dX9_bitsOfSize_51 : decode cX9_bitsOfSize 51 = .ok (.lload 4, 2) := by decide +kernel
theorem dX9_bitsOfSize_53 : decode cX9_bitsOfSize 53 = .ok (.ldc2_w 354, 3) := by decide +kernel
theorem dX9_bitsOfSize_56 : decode cX9_bitsOfSize 56 = .ok (.lcmp, 1) := by decide +kernel
theorem dX9_bitsOfSize_57 : decode cX9_bitsOfSize 57 = .ok (.ifCond .le 18, 3) := by decide +kernel
theorem dX9_bitsOfSize_60 : decode cX9_bitsOfSize 60 = .ok (.dload_n 2, 1) := by decide +kernel
theorem dX9_bitsOfSize_61 : decode cX9_bitsOfSize 61 = .ok (.ldc2_w 350, 3) := by decide +kernel
theorem dX9_bitsOfSize_64 : decode cX9_bitsOfSize 64 = .ok (.dmul, 1) := by decide +kernel
theorem dX9_bitsOfSize_65 : decode cX9_bitsOfSize 65 = .ok (.dstore_n 2, 1) := by decide +kernel
theorem dX9_bitsOfSize_66 : decode cX9_bitsOfSize 66 = .ok (.lload 4, 2) := by decide +kernel
theorem dX9_bitsOfSize_68 : decode cX9_bitsOfSize 68 = .ok (.lconst 1, 1) := by decide +kernel
theorem dX9_bitsOfSize_69 : decode cX9_bitsOfSize 69 = .ok (.lsub, 1) := by decide +kernel
theorem dX9_bitsOfSize_70 : decode cX9_bitsOfSize 70 = .ok (.lstore 4, 2) := by decide +kernel
theorem dX9_bitsOfSize_72 : decode cX9_bitsOfSize 72 = .ok (.goto (-27), 3) := by decide +kernel
theorem dX9_bitsOfSize_75 : decode cX9_bitsOfSize 75 = .ok (.dload_n 2, 1) := by decide +kernel
theorem dX9_bitsOfSize_76 : decode cX9_bitsOfSize 76 = .ok (.dconst 1, 1) := by decide +kernel
theorem dX9_bitsOfSize_77 : decode cX9_bitsOfSize 77 = .ok (.dsub, 1) := by decide +kernel
theorem dX9_bitsOfSize_78 : decode cX9_bitsOfSize 78 = .ok (.ldc2_w 356, 3) := by decide +kernel
theorem dX9_bitsOfSize_81 : decode cX9_bitsOfSize 81 = .ok (.dmul, 1) := by decide +kernel
theorem dX9_bitsOfSize_82 : decode cX9_bitsOfSize 82 = .ok (.d2l, 1) := by decide +kernel
theorem dX9_bitsOfSize_83 : decode cX9_bitsOfSize 83 = .ok (.lstore 6, 2) := by decide +kernel
theorem dX9_bitsOfSize_85 : decode cX9_bitsOfSize 85 = .ok (.lload 4, 2) := by decide +kernel
theorem dX9_bitsOfSize_87 : decode cX9_bitsOfSize 87 = .ok (.ldc2_w 352, 3) := by decide +kernel
theorem dX9_bitsOfSize_90 : decode cX9_bitsOfSize 90 = .ok (.ladd, 1) := by decide +kernel
theorem dX9_bitsOfSize_91 : decode cX9_bitsOfSize 91 = .ok (.bipush 52, 2) := by decide +kernel
theorem dX9_bitsOfSize_93 : decode cX9_bitsOfSize 93 = .ok (.lshl, 1) := by decide +kernel
theorem dX9_bitsOfSize_94 : decode cX9_bitsOfSize 94 = .ok (.lload 6, 2) := by decide +kernel
theorem dX9_bitsOfSize_96 : decode cX9_bitsOfSize 96 = .ok (.lor, 1) := by decide +kernel
theorem dX9_bitsOfSize_97 : decode cX9_bitsOfSize 97 = .ok (.lreturn, 1) := by decide +kernel
theorem dX9_quotient_0 : decode cX9_quotient 0 = .ok (.lload_n 2, 1) := by decide +kernel
theorem dX9_quotient_1 : decode cX9_quotient 1 = .ok (.lconst 0, 1) := by decide +kernel
theorem dX9_quotient_2 : decode cX9_quotient 2 = .ok (.lcmp, 1) := by decide +kernel
theorem dX9_quotient_3 : decode cX9_quotient 3 = .ok (.ifCond .ne 7, 3) := by decide +kernel
theorem dX9_quotient_6 : decode cX9_quotient 6 = .ok (.lconst 0, 1) := by decide +kernel
theorem dX9_quotient_7 : decode cX9_quotient 7 = .ok (.goto 6, 3) := by decide +kernel
theorem dX9_quotient_10 : decode cX9_quotient 10 = .ok (.lload_n 0, 1) := by decide +kernel
theorem dX9_quotient_11 : decode cX9_quotient 11 = .ok (.lload_n 2, 1) := by decide +kernel
theorem dX9_quotient_12 : decode cX9_quotient 12 = .ok (.ldiv, 1) := by decide +kernel
theorem dX9_quotient_13 : decode cX9_quotient 13 = .ok (.lreturn, 1) := by decide +kernel
theorem dX9_root_0 : decode cX9_root 0 = .ok (.lload_n 0, 1) := by decide +kernel
theorem dX9_root_1 : decode cX9_root 1 = .ok (.lconst 0, 1) := by decide +kernel
theorem dX9_root_2 : decode cX9_root 2 = .ok (.lcmp, 1) := by decide +kernel
theorem dX9_root_3 : decode cX9_root 3 = .ok (.ifCond .gt 5, 3) := by decide +kernel
theorem dX9_root_6 : decode cX9_root 6 = .ok (.lconst 0, 1) := by decide +kernel
theorem dX9_root_7 : decode cX9_root 7 = .ok (.lreturn, 1) := by decide +kernel
theorem dX9_root_8 : decode cX9_root 8 = .ok (.bipush 64, 2) := by decide +kernel
theorem dX9_root_10 : decode cX9_root 10 = .ok (.lload_n 0, 1) := by decide +kernel
theorem dX9_root_11 : decode cX9_root 11 = .ok (.invokestatic 358, 3) := by decide +kernel
theorem dX9_root_14 : decode cX9_root 14 = .ok (.isub, 1) := by decide +kernel
theorem dX9_root_15 : decode cX9_root 15 = .ok (.istore_n 2, 1) := by decide +kernel
theorem dX9_root_16 : decode cX9_root 16 = .ok (.lconst 1, 1) := by decide +kernel
theorem dX9_root_17 : decode cX9_root 17 = .ok (.iload_n 2, 1) := by decide +kernel
theorem dX9_root_18 : decode cX9_root 18 = .ok (.iconst 1, 1) := by decide +kernel
theorem dX9_root_19 : decode cX9_root 19 = .ok (.iadd, 1) := by decide +kernel
theorem dX9_root_20 : decode cX9_root 20 = .ok (.iconst 2, 1) := by decide +kernel
theorem dX9_root_21 : decode cX9_root 21 = .ok (.idiv, 1) := by decide +kernel
theorem dX9_root_22 : decode cX9_root 22 = .ok (.lshl, 1) := by decide +kernel
theorem dX9_root_23 : decode cX9_root 23 = .ok (.lstore_n 3, 1) := by decide +kernel
theorem dX9_root_24 : decode cX9_root 24 = .ok (.iconst 0, 1) := by decide +kernel
theorem dX9_root_25 : decode cX9_root 25 = .ok (.istore 5, 2) := by decide +kernel
theorem dX9_root_27 : decode cX9_root 27 = .ok (.iload 5, 2) := by decide +kernel
theorem dX9_root_29 : decode cX9_root 29 = .ok (.bipush 64, 2) := by decide +kernel
theorem dX9_root_31 : decode cX9_root 31 = .ok (.if_icmp .ge 35, 3) := by decide +kernel
theorem dX9_root_34 : decode cX9_root 34 = .ok (.lload_n 3, 1) := by decide +kernel
theorem dX9_root_35 : decode cX9_root 35 = .ok (.lload_n 0, 1) := by decide +kernel
theorem dX9_root_36 : decode cX9_root 36 = .ok (.lload_n 3, 1) := by decide +kernel
theorem dX9_root_37 : decode cX9_root 37 = .ok (.invokestatic 306, 3) := by decide +kernel
theorem dX9_root_40 : decode cX9_root 40 = .ok (.ladd, 1) := by decide +kernel
theorem dX9_root_41 : decode cX9_root 41 = .ok (.ldc2_w 364, 3) := by decide +kernel
theorem dX9_root_44 : decode cX9_root 44 = .ok (.ldiv, 1) := by decide +kernel
theorem dX9_root_45 : decode cX9_root 45 = .ok (.lstore 6, 2) := by decide +kernel
theorem dX9_root_47 : decode cX9_root 47 = .ok (.lload 6, 2) := by decide +kernel
theorem dX9_root_49 : decode cX9_root 49 = .ok (.lload_n 3, 1) := by decide +kernel
theorem dX9_root_50 : decode cX9_root 50 = .ok (.lcmp, 1) := by decide +kernel
theorem dX9_root_51 : decode cX9_root 51 = .ok (.ifCond .lt 6, 3) := by decide +kernel
theorem dX9_root_54 : decode cX9_root 54 = .ok (.goto 12, 3) := by decide +kernel
theorem dX9_root_57 : decode cX9_root 57 = .ok (.lload 6, 2) := by decide +kernel
theorem dX9_root_59 : decode cX9_root 59 = .ok (.lstore_n 3, 1) := by decide +kernel
theorem dX9_root_60 : decode cX9_root 60 = .ok (.iinc 5 1, 3) := by decide +kernel
theorem dX9_root_63 : decode cX9_root 63 = .ok (.goto (-36), 3) := by decide +kernel
theorem dX9_root_66 : decode cX9_root 66 = .ok (.lload_n 3, 1) := by decide +kernel
theorem dX9_root_67 : decode cX9_root 67 = .ok (.lreturn, 1) := by decide +kernel
theorem dX9_cross_0 : decode cX9_cross 0 = .ok (.lload 4, 2) := by decide +kernel
theorem dX9_cross_2 : decode cX9_cross 2 = .ok (.lload_n 0, 1) := by decide +kernel
theorem dX9_cross_3 : decode cX9_cross 3 = .ok (.lsub, 1) := by decide +kernel
theorem dX9_cross_4 : decode cX9_cross 4 = .ok (.lload 10, 2) := by decide +kernel
theorem dX9_cross_6 : decode cX9_cross 6 = .ok (.lload_n 2, 1) := by decide +kernel
theorem dX9_cross_7 : decode cX9_cross 7 = .ok (.lsub, 1) := by decide +kernel
theorem dX9_cross_8 : decode cX9_cross 8 = .ok (.lmul, 1) := by decide +kernel
theorem dX9_cross_9 : decode cX9_cross 9 = .ok (.lload 6, 2) := by decide +kernel
theorem dX9_cross_11 : decode cX9_cross 11 = .ok (.lload_n 2, 1) := by decide +kernel
theorem dX9_cross_12 : decode cX9_cross 12 = .ok (.lsub, 1) := by decide +kernel
theorem dX9_cross_13 : decode cX9_cross 13 = .ok (.lload 8, 2) := by decide +kernel
theorem dX9_cross_15 : decode cX9_cross 15 = .ok (.lload_n 0, 1) := by decide +kernel
theorem dX9_cross_16 : decode cX9_cross 16 = .ok (.lsub, 1) := by decide +kernel
theorem dX9_cross_17 : decode cX9_cross 17 = .ok (.lmul, 1) := by decide +kernel
theorem dX9_cross_18 : decode cX9_cross 18 = .ok (.lsub, 1) := by decide +kernel
theorem dX9_cross_19 : decode cX9_cross 19 = .ok (.lreturn, 1) := by decide +kernel
theorem dX9_isBetween_0 : decode cX9_isBetween 0 = .ok (.iload_n 0, 1) := by decide +kernel
theorem dX9_isBetween_1 : decode cX9_isBetween 1 = .ok (.iload_n 1, 1) := by decide +kernel
theorem dX9_isBetween_2 : decode cX9_isBetween 2 = .ok (.iload_n 2, 1) := by decide +kernel
theorem dX9_isBetween_3 : decode cX9_isBetween 3 = .ok (.invokestatic 366, 3) := by decide +kernel
theorem dX9_isBetween_6 : decode cX9_isBetween 6 = .ok (.if_icmp .lt 16, 3) := by decide +kernel
theorem dX9_isBetween_9 : decode cX9_isBetween 9 = .ok (.iload_n 0, 1) := by decide +kernel
theorem dX9_isBetween_10 : decode cX9_isBetween 10 = .ok (.iload_n 1, 1) := by decide +kernel
theorem dX9_isBetween_11 : decode cX9_isBetween 11 = .ok (.iload_n 2, 1) := by decide +kernel
theorem dX9_isBetween_12 : decode cX9_isBetween 12 = .ok (.invokestatic 369, 3) := by decide +kernel
theorem dX9_isBetween_15 : decode cX9_isBetween 15 = .ok (.if_icmp .gt 7, 3) := by decide +kernel
theorem dX9_isBetween_18 : decode cX9_isBetween 18 = .ok (.iconst 1, 1) := by decide +kernel
theorem dX9_isBetween_19 : decode cX9_isBetween 19 = .ok (.goto 4, 3) := by decide +kernel
theorem dX9_isBetween_22 : decode cX9_isBetween 22 = .ok (.iconst 0, 1) := by decide +kernel
theorem dX9_isBetween_23 : decode cX9_isBetween 23 = .ok (.ireturn, 1) := by decide +kernel
