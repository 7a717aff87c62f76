theorem dX9_init_0 : decode cX9_init 0 = .ok (.aload_n 0, 1) := by decide +kernel
theorem dX9_init_1 : decode cX9_init 1 = .ok (.invokespecial 1, 3) := by decide +kernel
theorem dX9_init_4 : decode cX9_init 4 = .ok (.aload_n 0, 1) := by decide +kernel
theorem dX9_init_5 : decode cX9_init 5 = .ok (.new 7, 3) := by decide +kernel
theorem dX9_init_8 : decode cX9_init 8 = .ok (.dup, 1) := by decide +kernel
theorem dX9_init_9 : decode cX9_init 9 = .ok (.invokespecial 9, 3) := by decide +kernel
theorem dX9_init_12 : decode cX9_init 12 = .ok (.putfield 10, 3) := by decide +kernel
theorem dX9_init_15 : decode cX9_init 15 = .ok (.aload_n 0, 1) := by decide +kernel
theorem dX9_init_16 : decode cX9_init 16 = .ok (.new 7, 3) := by decide +kernel
theorem dX9_init_19 : decode cX9_init 19 = .ok (.dup, 1) := by decide +kernel
theorem dX9_init_20 : decode cX9_init 20 = .ok (.invokespecial 9, 3) := by decide +kernel
theorem dX9_init_23 : decode cX9_init 23 = .ok (.putfield 16, 3) := by decide +kernel
theorem dX9_init_26 : decode cX9_init 26 = .ok (.aload_n 0, 1) := by decide +kernel
theorem dX9_init_27 : decode cX9_init 27 = .ok (.new 19, 3) := by decide +kernel
theorem dX9_init_30 : decode cX9_init 30 = .ok (.dup, 1) := by decide +kernel
theorem dX9_init_31 : decode cX9_init 31 = .ok (.invokespecial 21, 3) := by decide +kernel
theorem dX9_init_34 : decode cX9_init 34 = .ok (.putfield 22, 3) := by decide +kernel
theorem dX9_init_37 : decode cX9_init 37 = .ok (.aload_n 0, 1) := by decide +kernel
theorem dX9_init_38 : decode cX9_init 38 = .ok (.new 26, 3) := by decide +kernel
theorem dX9_init_41 : decode cX9_init 41 = .ok (.dup, 1) := by decide +kernel
theorem dX9_init_42 : decode cX9_init 42 = .ok (.invokespecial 28, 3) := by decide +kernel
theorem dX9_init_45 : decode cX9_init 45 = .ok (.putfield 29, 3) := by decide +kernel
theorem dX9_init_48 : decode cX9_init 48 = .ok (.aload_n 0, 1) := by decide +kernel
theorem dX9_init_49 : decode cX9_init 49 = .ok (.new 33, 3) := by decide +kernel
theorem dX9_init_52 : decode cX9_init 52 = .ok (.dup, 1) := by decide +kernel
theorem dX9_init_53 : decode cX9_init 53 = .ok (.invokespecial 35, 3) := by decide +kernel
theorem dX9_init_56 : decode cX9_init 56 = .ok (.putfield 36, 3) := by decide +kernel
theorem dX9_init_59 : decode cX9_init 59 = .ok (.aload_n 0, 1) := by decide +kernel
theorem dX9_init_60 : decode cX9_init 60 = .ok (.new 40, 3) := by decide +kernel
theorem dX9_init_63 : decode cX9_init 63 = .ok (.dup, 1) := by decide +kernel
theorem dX9_init_64 : decode cX9_init 64 = .ok (.invokespecial 42, 3) := by decide +kernel
theorem dX9_init_67 : decode cX9_init 67 = .ok (.putfield 43, 3) := by decide +kernel
theorem dX9_init_70 : decode cX9_init 70 = .ok (.aload_n 0, 1) := by decide +kernel
theorem dX9_init_71 : decode cX9_init 71 = .ok (.bipush 60, 2) := by decide +kernel
theorem dX9_init_73 : decode cX9_init 73 = .ok (.newarray .int, 2) := by decide +kernel
theorem dX9_init_75 : decode cX9_init 75 = .ok (.putfield 47, 3) := by decide +kernel
theorem dX9_init_78 : decode cX9_init 78 = .ok (.return_, 1) := by decide +kernel
theorem dX9_setAnchor_0 : decode cX9_setAnchor 0 = .ok (.iload_n 1, 1) := by decide +kernel
theorem dX9_setAnchor_1 : decode cX9_setAnchor 1 = .ok (.sipush 2000, 3) := by decide +kernel
theorem dX9_setAnchor_4 : decode cX9_setAnchor 4 = .ok (.invokestatic 51, 3) := by decide +kernel
theorem dX9_setAnchor_7 : decode cX9_setAnchor 7 = .ok (.ifCond .eq 13, 3) := by decide +kernel
theorem dX9_setAnchor_10 : decode cX9_setAnchor 10 = .ok (.iload_n 2, 1) := by decide +kernel
theorem dX9_setAnchor_11 : decode cX9_setAnchor 11 = .ok (.sipush 2000, 3) := by decide +kernel
theorem dX9_setAnchor_14 : decode cX9_setAnchor 14 = .ok (.invokestatic 51, 3) := by decide +kernel
theorem dX9_setAnchor_17 : decode cX9_setAnchor 17 = .ok (.ifCond .ne 13, 3) := by decide +kernel
theorem dX9_setAnchor_20 : decode cX9_setAnchor 20 = .ok (.new 55, 3) := by decide +kernel
theorem dX9_setAnchor_23 : decode cX9_setAnchor 23 = .ok (.dup, 1) := by decide +kernel
theorem dX9_setAnchor_24 : decode cX9_setAnchor 24 = .ok (.ldc 57, 2) := by decide +kernel
theorem dX9_setAnchor_26 : decode cX9_setAnchor 26 = .ok (.invokespecial 59, 3) := by decide +kernel
theorem dX9_setAnchor_29 : decode cX9_setAnchor 29 = .ok (.athrow, 1) := by decide +kernel
theorem dX9_setAnchor_30 : decode cX9_setAnchor 30 = .ok (.aload_n 0, 1) := by decide +kernel
theorem dX9_setAnchor_31 : decode cX9_setAnchor 31 = .ok (.getfield 22, 3) := by decide +kernel
theorem dX9_setAnchor_34 : decode cX9_setAnchor 34 = .ok (.aload_n 0, 1) := by decide +kernel
theorem dX9_setAnchor_35 : decode cX9_setAnchor 35 = .ok (.getfield 10, 3) := by decide +kernel
theorem dX9_setAnchor_38 : decode cX9_setAnchor 38 = .ok (.invokevirtual 62, 3) := by decide +kernel
theorem dX9_setAnchor_41 : decode cX9_setAnchor 41 = .ok (.aload_n 0, 1) := by decide +kernel
theorem dX9_setAnchor_42 : decode cX9_setAnchor 42 = .ok (.getfield 10, 3) := by decide +kernel
theorem dX9_setAnchor_45 : decode cX9_setAnchor 45 = .ok (.iload_n 1, 1) := by decide +kernel
theorem dX9_setAnchor_46 : decode cX9_setAnchor 46 = .ok (.putfield 66, 3) := by decide +kernel
theorem dX9_setAnchor_49 : decode cX9_setAnchor 49 = .ok (.aload_n 0, 1) := by decide +kernel
theorem dX9_setAnchor_50 : decode cX9_setAnchor 50 = .ok (.getfield 10, 3) := by decide +kernel
theorem dX9_setAnchor_53 : decode cX9_setAnchor 53 = .ok (.iload_n 2, 1) := by decide +kernel
theorem dX9_setAnchor_54 : decode cX9_setAnchor 54 = .ok (.putfield 70, 3) := by decide +kernel
theorem dX9_setAnchor_57 : decode cX9_setAnchor 57 = .ok (.aload_n 0, 1) := by decide +kernel
theorem dX9_setAnchor_58 : decode cX9_setAnchor 58 = .ok (.getfield 10, 3) := by decide +kernel
theorem dX9_setAnchor_61 : decode cX9_setAnchor 61 = .ok (.getfield 73, 3) := by decide +kernel
theorem dX9_setAnchor_64 : decode cX9_setAnchor 64 = .ok (.invokevirtual 77, 3) := by decide +kernel
theorem dX9_setAnchor_67 : decode cX9_setAnchor 67 = .ok (.ireturn, 1) := by decide +kernel
theorem dX9_set_0 : decode cX9_set 0 = .ok (.iload_n 1, 1) := by decide +kernel
theorem dX9_set_1 : decode cX9_set 1 = .ok (.invokestatic 83, 3) := by decide +kernel
theorem dX9_set_4 : decode cX9_set 4 = .ok (.iload_n 1, 1) := by decide +kernel
theorem dX9_set_5 : decode cX9_set 5 = .ok (.iload_n 2, 1) := by decide +kernel
theorem dX9_set_6 : decode cX9_set 6 = .ok (.invokestatic 87, 3) := by decide +kernel
theorem dX9_set_9 : decode cX9_set 9 = .ok (.aload_n 0, 1) := by decide +kernel
theorem dX9_set_10 : decode cX9_set 10 = .ok (.getfield 22, 3) := by decide +kernel
theorem dX9_set_13 : decode cX9_set 13 = .ok (.aload_n 0, 1) := by decide +kernel
theorem dX9_set_14 : decode cX9_set 14 = .ok (.getfield 10, 3) := by decide +kernel
theorem dX9_set_17 : decode cX9_set 17 = .ok (.invokevirtual 62, 3) := by decide +kernel
theorem dX9_set_20 : decode cX9_set 20 = .ok (.aload_n 0, 1) := by decide +kernel
theorem dX9_set_21 : decode cX9_set 21 = .ok (.getfield 10, 3) := by decide +kernel
theorem dX9_set_24 : decode cX9_set 24 = .ok (.getfield 91, 3) := by decide +kernel
theorem dX9_set_27 : decode cX9_set 27 = .ok (.iload_n 1, 1) := by decide +kernel
theorem dX9_set_28 : decode cX9_set 28 = .ok (.iaload, 1) := by decide +kernel
theorem dX9_set_29 : decode cX9_set 29 = .ok (.istore_n 3, 1) := by decide +kernel
theorem dX9_set_30 : decode cX9_set 30 = .ok (.aload_n 0, 1) := by decide +kernel
theorem dX9_set_31 : decode cX9_set 31 = .ok (.getfield 10, 3) := by decide +kernel
theorem dX9_set_34 : decode cX9_set 34 = .ok (.getfield 91, 3) := by decide +kernel
theorem dX9_set_37 : decode cX9_set 37 = .ok (.iload_n 1, 1) := by decide +kernel
theorem dX9_set_38 : decode cX9_set 38 = .ok (.iload_n 2, 1) := by decide +kernel
theorem dX9_set_39 : decode cX9_set 39 = .ok (.iastore, 1) := by decide +kernel
theorem dX9_set_40 : decode cX9_set 40 = .ok (.aload_n 0, 1) := by decide +kernel
theorem dX9_set_41 : decode cX9_set 41 = .ok (.getfield 10, 3) := by decide +kernel
theorem dX9_set_44 : decode cX9_set 44 = .ok (.getfield 73, 3) := by decide +kernel
theorem dX9_set_47 : decode cX9_set 47 = .ok (.invokevirtual 77, 3) := by decide +kernel
theorem dX9_set_50 : decode cX9_set 50 = .ok (.pop, 1) := by decide +kernel
theorem dX9_set_51 : decode cX9_set 51 = .ok (.iload_n 3, 1) := by decide +kernel
theorem dX9_set_52 : decode cX9_set 52 = .ok (.ireturn, 1) := by decide +kernel
theorem dX9_insert_0 : decode cX9_insert 0 = .ok (.iload_n 1, 1) := by decide +kernel
theorem dX9_insert_1 : decode cX9_insert 1 = .ok (.ifCond .lt 17, 3) := by decide +kernel
theorem dX9_insert_4 : decode cX9_insert 4 = .ok (.iload_n 1, 1) := by decide +kernel
theorem dX9_insert_5 : decode cX9_insert 5 = .ok (.aload_n 0, 1) := by decide +kernel
theorem dX9_insert_6 : decode cX9_insert 6 = .ok (.getfield 10, 3) := by decide +kernel
theorem dX9_insert_9 : decode cX9_insert 9 = .ok (.getfield 100, 3) := by decide +kernel
theorem dX9_insert_12 : decode cX9_insert 12 = .ok (.getfield 104, 3) := by decide +kernel
theorem dX9_insert_15 : decode cX9_insert 15 = .ok (.if_icmp .le 13, 3) := by decide +kernel
theorem dX9_insert_18 : decode cX9_insert 18 = .ok (.new 109, 3) := by decide +kernel
theorem dX9_insert_21 : decode cX9_insert 21 = .ok (.dup, 1) := by decide +kernel
theorem dX9_insert_22 : decode cX9_insert 22 = .ok (.ldc 111, 2) := by decide +kernel
theorem dX9_insert_24 : decode cX9_insert 24 = .ok (.invokespecial 113, 3) := by decide +kernel
theorem dX9_insert_27 : decode cX9_insert 27 = .ok (.athrow, 1) := by decide +kernel
theorem dX9_insert_28 : decode cX9_insert 28 = .ok (.iload_n 2, 1) := by decide +kernel
theorem dX9_insert_29 : decode cX9_insert 29 = .ok (.iload_n 3, 1) := by decide +kernel
theorem dX9_insert_30 : decode cX9_insert 30 = .ok (.invokestatic 114, 3) := by decide +kernel
theorem dX9_insert_33 : decode cX9_insert 33 = .ok (.aload_n 0, 1) := by decide +kernel
theorem dX9_insert_34 : decode cX9_insert 34 = .ok (.getfield 10, 3) := by decide +kernel
theorem dX9_insert_37 : decode cX9_insert 37 = .ok (.getfield 100, 3) := by decide +kernel
theorem dX9_insert_40 : decode cX9_insert 40 = .ok (.getfield 104, 3) := by decide +kernel
theorem dX9_insert_43 : decode cX9_insert 43 = .ok (.bipush 20, 2) := by decide +kernel
theorem dX9_insert_45 : decode cX9_insert 45 = .ok (.if_icmp .lt 13, 3) := by decide +kernel
theorem dX9_insert_48 : decode cX9_insert 48 = .ok (.new 117, 3) := by decide +kernel
theorem dX9_insert_51 : decode cX9_insert 51 = .ok (.dup, 1) := by decide +kernel
theorem dX9_insert_52 : decode cX9_insert 52 = .ok (.ldc 119, 2) := by decide +kernel
theorem dX9_insert_54 : decode cX9_insert 54 = .ok (.invokespecial 121, 3) := by decide +kernel
theorem dX9_insert_57 : decode cX9_insert 57 = .ok (.athrow, 1) := by decide +kernel
theorem dX9_insert_58 : decode cX9_insert 58 = .ok (.aload_n 0, 1) := by decide +kernel
theorem dX9_insert_59 : decode cX9_insert 59 = .ok (.getfield 22, 3) := by decide +kernel
theorem dX9_insert_62 : decode cX9_insert 62 = .ok (.aload_n 0, 1) := by decide +kernel
theorem dX9_insert_63 : decode cX9_insert 63 = .ok (.getfield 10, 3) := by decide +kernel
theorem dX9_insert_66 : decode cX9_insert 66 = .ok (.invokevirtual 62, 3) := by decide +kernel
theorem dX9_insert_69 : decode cX9_insert 69 = .ok (.aload_n 0, 1) := by decide +kernel
theorem dX9_insert_70 : decode cX9_insert 70 = .ok (.getfield 10, 3) := by decide +kernel
theorem dX9_insert_73 : decode cX9_insert 73 = .ok (.getfield 100, 3) := by decide +kernel
theorem dX9_insert_76 : decode cX9_insert 76 = .ok (.iload_n 1, 1) := by decide +kernel
theorem dX9_insert_77 : decode cX9_insert 77 = .ok (.iload_n 2, 1) := by decide +kernel
theorem dX9_insert_78 : decode cX9_insert 78 = .ok (.iload_n 3, 1) := by decide +kernel
theorem dX9_insert_79 : decode cX9_insert 79 = .ok (.invokevirtual 122, 3) := by decide +kernel
theorem dX9_insert_82 : decode cX9_insert 82 = .ok (.aload_n 0, 1) := by decide +kernel
theorem dX9_insert_83 : decode cX9_insert 83 = .ok (.getfield 10, 3) := by decide +kernel
theorem dX9_insert_86 : decode cX9_insert 86 = .ok (.getfield 73, 3) := by decide +kernel
theorem dX9_insert_89 : decode cX9_insert 89 = .ok (.invokevirtual 77, 3) := by decide +kernel
theorem dX9_insert_92 : decode cX9_insert 92 = .ok (.pop, 1) := by decide +kernel
theorem dX9_insert_93 : decode cX9_insert 93 = .ok (.aload_n 0, 1) := by decide +kernel
theorem dX9_insert_94 : decode cX9_insert 94 = .ok (.getfield 10, 3) := by decide +kernel
theorem dX9_insert_97 : decode cX9_insert 97 = .ok (.getfield 100, 3) := by decide +kernel
theorem dX9_insert_100 : decode cX9_insert 100 = .ok (.getfield 104, 3) := by decide +kernel
theorem dX9_insert_103 : decode cX9_insert 103 = .ok (.ireturn, 1) := by decide +kernel
theorem dX9_move_0 : decode cX9_move 0 = .ok (.aload_n 0, 1) := by decide +kernel
theorem dX9_move_1 : decode cX9_move 1 = .ok (.iload_n 1, 1) := by decide +kernel
theorem dX9_move_2 : decode cX9_move 2 = .ok (.invokevirtual 126, 3) := by decide +kernel
theorem dX9_move_5 : decode cX9_move 5 = .ok (.iload_n 2, 1) := by decide +kernel
theorem dX9_move_6 : decode cX9_move 6 = .ok (.iload_n 3, 1) := by decide +kernel
theorem dX9_move_7 : decode cX9_move 7 = .ok (.invokestatic 114, 3) := by decide +kernel
theorem dX9_move_10 : decode cX9_move 10 = .ok (.aload_n 0, 1) := by decide +kernel
theorem dX9_move_11 : decode cX9_move 11 = .ok (.getfield 22, 3) := by decide +kernel
theorem dX9_move_14 : decode cX9_move 14 = .ok (.aload_n 0, 1) := by decide +kernel
theorem dX9_move_15 : decode cX9_move 15 = .ok (.getfield 10, 3) := by decide +kernel
theorem dX9_move_18 : decode cX9_move 18 = .ok (.invokevirtual 62, 3) := by decide +kernel
theorem dX9_move_21 : decode cX9_move 21 = .ok (.aload_n 0, 1) := by decide +kernel
theorem dX9_move_22 : decode cX9_move 22 = .ok (.getfield 10, 3) := by decide +kernel
theorem dX9_move_25 : decode cX9_move 25 = .ok (.getfield 100, 3) := by decide +kernel
theorem dX9_move_28 : decode cX9_move 28 = .ok (.getfield 129, 3) := by decide +kernel
theorem dX9_move_31 : decode cX9_move 31 = .ok (.iload_n 1, 1) := by decide +kernel
theorem dX9_move_32 : decode cX9_move 32 = .ok (.iload_n 2, 1) := by decide +kernel
theorem dX9_move_33 : decode cX9_move 33 = .ok (.iastore, 1) := by decide +kernel
theorem dX9_move_34 : decode cX9_move 34 = .ok (.aload_n 0, 1) := by decide +kernel
theorem dX9_move_35 : decode cX9_move 35 = .ok (.getfield 10, 3) := by decide +kernel
theorem dX9_move_38 : decode cX9_move 38 = .ok (.getfield 100, 3) := by decide +kernel
theorem dX9_move_41 : decode cX9_move 41 = .ok (.getfield 132, 3) := by decide +kernel
theorem dX9_move_44 : decode cX9_move 44 = .ok (.iload_n 1, 1) := by decide +kernel
theorem dX9_move_45 : decode cX9_move 45 = .ok (.iload_n 3, 1) := by decide +kernel
theorem dX9_move_46 : decode cX9_move 46 = .ok (.iastore, 1) := by decide +kernel
theorem dX9_move_47 : decode cX9_move 47 = .ok (.aload_n 0, 1) := by decide +kernel
theorem dX9_move_48 : decode cX9_move 48 = .ok (.getfield 10, 3) := by decide +kernel
theorem dX9_move_51 : decode cX9_move 51 = .ok (.getfield 73, 3) := by decide +kernel
theorem dX9_move_54 : decode cX9_move 54 = .ok (.invokevirtual 77, 3) := by decide +kernel
theorem dX9_move_57 : decode cX9_move 57 = .ok (.ireturn, 1) := by decide +kernel
theorem dX9_remove_0 : decode cX9_remove 0 = .ok (.aload_n 0, 1) := by decide +kernel
theorem dX9_remove_1 : decode cX9_remove 1 = .ok (.iload_n 1, 1) := by decide +kernel
theorem dX9_remove_2 : decode cX9_remove 2 = .ok (.invokevirtual 126, 3) := by decide +kernel
theorem dX9_remove_5 : decode cX9_remove 5 = .ok (.aload_n 0, 1) := by decide +kernel
theorem dX9_remove_6 : decode cX9_remove 6 = .ok (.getfield 22, 3) := by decide +kernel
theorem dX9_remove_9 : decode cX9_remove 9 = .ok (.aload_n 0, 1) := by decide +kernel
theorem dX9_remove_10 : decode cX9_remove 10 = .ok (.getfield 10, 3) := by decide +kernel
theorem dX9_remove_13 : decode cX9_remove 13 = .ok (.invokevirtual 62, 3) := by decide +kernel
theorem dX9_remove_16 : decode cX9_remove 16 = .ok (.aload_n 0, 1) := by decide +kernel
theorem dX9_remove_17 : decode cX9_remove 17 = .ok (.getfield 10, 3) := by decide +kernel
theorem dX9_remove_20 : decode cX9_remove 20 = .ok (.getfield 100, 3) := by decide +kernel
theorem dX9_remove_23 : decode cX9_remove 23 = .ok (.iload_n 1, 1) := by decide +kernel
theorem dX9_remove_24 : decode cX9_remove 24 = .ok (.invokevirtual 135, 3) := by decide +kernel
theorem dX9_remove_27 : decode cX9_remove 27 = .ok (.aload_n 0, 1) := by decide +kernel
theorem dX9_remove_28 : decode cX9_remove 28 = .ok (.getfield 10, 3) := by decide +kernel
theorem dX9_remove_31 : decode cX9_remove 31 = .ok (.getfield 73, 3) := by decide +kernel
theorem dX9_remove_34 : decode cX9_remove 34 = .ok (.invokevirtual 77, 3) := by decide +kernel
theorem dX9_remove_37 : decode cX9_remove 37 = .ok (.pop, 1) := by decide +kernel
theorem dX9_remove_38 : decode cX9_remove 38 = .ok (.aload_n 0, 1) := by decide +kernel
theorem dX9_remove_39 : decode cX9_remove 39 = .ok (.getfield 10, 3) := by decide +kernel
theorem dX9_remove_42 : decode cX9_remove 42 = .ok (.getfield 100, 3) := by decide +kernel
theorem dX9_remove_45 : decode cX9_remove 45 = .ok (.getfield 104, 3) := by decide +kernel
theorem dX9_remove_48 : decode cX9_remove 48 = .ok (.ireturn, 1) := by decide +kernel
theorem dX9_setSlip_0 : decode cX9_setSlip 0 = .ok (.aload_n 0, 1) := by decide +kernel
theorem dX9_setSlip_1 : decode cX9_setSlip 1 = .ok (.iload_n 1, 1) := by decide +kernel
theorem dX9_setSlip_2 : decode cX9_setSlip 2 = .ok (.invokevirtual 126, 3) := by decide +kernel
theorem dX9_setSlip_5 : decode cX9_setSlip 5 = .ok (.iload_n 2, 1) := by decide +kernel
theorem dX9_setSlip_6 : decode cX9_setSlip 6 = .ok (.ifCond .lt 9, 3) := by decide +kernel
theorem dX9_setSlip_9 : decode cX9_setSlip 9 = .ok (.iload_n 2, 1) := by decide +kernel
theorem dX9_setSlip_10 : decode cX9_setSlip 10 = .ok (.bipush 100, 2) := by decide +kernel
theorem dX9_setSlip_12 : decode cX9_setSlip 12 = .ok (.if_icmp .le 13, 3) := by decide +kernel
theorem dX9_setSlip_15 : decode cX9_setSlip 15 = .ok (.new 55, 3) := by decide +kernel
theorem dX9_setSlip_18 : decode cX9_setSlip 18 = .ok (.dup, 1) := by decide +kernel
theorem dX9_setSlip_19 : decode cX9_setSlip 19 = .ok (.ldc 138, 2) := by decide +kernel
theorem dX9_setSlip_21 : decode cX9_setSlip 21 = .ok (.invokespecial 59, 3) := by decide +kernel
theorem dX9_setSlip_24 : decode cX9_setSlip 24 = .ok (.athrow, 1) := by decide +kernel
theorem dX9_setSlip_25 : decode cX9_setSlip 25 = .ok (.aload_n 0, 1) := by decide +kernel
theorem dX9_setSlip_26 : decode cX9_setSlip 26 = .ok (.getfield 22, 3) := by decide +kernel
theorem dX9_setSlip_29 : decode cX9_setSlip 29 = .ok (.aload_n 0, 1) := by decide +kernel
theorem dX9_setSlip_30 : decode cX9_setSlip 30 = .ok (.getfield 10, 3) := by decide +kernel
theorem dX9_setSlip_33 : decode cX9_setSlip 33 = .ok (.invokevirtual 62, 3) := by decide +kernel
theorem dX9_setSlip_36 : decode cX9_setSlip 36 = .ok (.aload_n 0, 1) := by decide +kernel
theorem dX9_setSlip_37 : decode cX9_setSlip 37 = .ok (.getfield 10, 3) := by decide +kernel
theorem dX9_setSlip_40 : decode cX9_setSlip 40 = .ok (.getfield 100, 3) := by decide +kernel
theorem dX9_setSlip_43 : decode cX9_setSlip 43 = .ok (.getfield 140, 3) := by decide +kernel
theorem dX9_setSlip_46 : decode cX9_setSlip 46 = .ok (.iload_n 1, 1) := by decide +kernel
theorem dX9_setSlip_47 : decode cX9_setSlip 47 = .ok (.iaload, 1) := by decide +kernel
theorem dX9_setSlip_48 : decode cX9_setSlip 48 = .ok (.istore_n 3, 1) := by decide +kernel
theorem dX9_setSlip_49 : decode cX9_setSlip 49 = .ok (.aload_n 0, 1) := by decide +kernel
theorem dX9_setSlip_50 : decode cX9_setSlip 50 = .ok (.getfield 10, 3) := by decide +kernel
theorem dX9_setSlip_53 : decode cX9_setSlip 53 = .ok (.getfield 100, 3) := by decide +kernel
theorem dX9_setSlip_56 : decode cX9_setSlip 56 = .ok (.getfield 140, 3) := by decide +kernel
theorem dX9_setSlip_59 : decode cX9_setSlip 59 = .ok (.iload_n 1, 1) := by decide +kernel
theorem dX9_setSlip_60 : decode cX9_setSlip 60 = .ok (.iload_n 2, 1) := by decide +kernel
theorem dX9_setSlip_61 : decode cX9_setSlip 61 = .ok (.iastore, 1) := by decide +kernel
theorem dX9_setSlip_62 : decode cX9_setSlip 62 = .ok (.iload_n 3, 1) := by decide +kernel
theorem dX9_setSlip_63 : decode cX9_setSlip 63 = .ok (.ireturn, 1) := by decide +kernel
theorem dX9_run_0 : decode cX9_run 0 = .ok (.aload_n 0, 1) := by decide +kernel
theorem dX9_run_1 : decode cX9_run 1 = .ok (.iload_n 1, 1) := by decide +kernel
theorem dX9_run_2 : decode cX9_run 2 = .ok (.invokevirtual 126, 3) := by decide +kernel
theorem dX9_run_5 : decode cX9_run 5 = .ok (.aload_n 0, 1) := by decide +kernel
theorem dX9_run_6 : decode cX9_run 6 = .ok (.aload_n 0, 1) := by decide +kernel
theorem dX9_run_7 : decode cX9_run 7 = .ok (.aload_n 0, 1) := by decide +kernel
theorem dX9_run_8 : decode cX9_run 8 = .ok (.getfield 10, 3) := by decide +kernel
theorem dX9_run_11 : decode cX9_run 11 = .ok (.invokevirtual 143, 3) := by decide +kernel
theorem dX9_run_14 : decode cX9_run 14 = .ok (.putfield 147, 3) := by decide +kernel
theorem dX9_run_17 : decode cX9_run 17 = .ok (.aload_n 0, 1) := by decide +kernel
theorem dX9_run_18 : decode cX9_run 18 = .ok (.getfield 147, 3) := by decide +kernel
theorem dX9_run_21 : decode cX9_run 21 = .ok (.ifCond .eq 13, 3) := by decide +kernel
theorem dX9_run_24 : decode cX9_run 24 = .ok (.new 117, 3) := by decide +kernel
theorem dX9_run_27 : decode cX9_run 27 = .ok (.dup, 1) := by decide +kernel
theorem dX9_run_28 : decode cX9_run 28 = .ok (.ldc 150, 2) := by decide +kernel
theorem dX9_run_30 : decode cX9_run 30 = .ok (.invokespecial 121, 3) := by decide +kernel
theorem dX9_run_33 : decode cX9_run 33 = .ok (.athrow, 1) := by decide +kernel
theorem dX9_run_34 : decode cX9_run 34 = .ok (.aload_n 0, 1) := by decide +kernel
theorem dX9_run_35 : decode cX9_run 35 = .ok (.getfield 22, 3) := by decide +kernel
theorem dX9_run_38 : decode cX9_run 38 = .ok (.aload_n 0, 1) := by decide +kernel
theorem dX9_run_39 : decode cX9_run 39 = .ok (.getfield 10, 3) := by decide +kernel
theorem dX9_run_42 : decode cX9_run 42 = .ok (.invokevirtual 62, 3) := by decide +kernel
theorem dX9_run_45 : decode cX9_run 45 = .ok (.aload_n 0, 1) := by decide +kernel
theorem dX9_run_46 : decode cX9_run 46 = .ok (.getfield 10, 3) := by decide +kernel
theorem dX9_run_49 : decode cX9_run 49 = .ok (.getfield 73, 3) := by decide +kernel
theorem dX9_run_52 : decode cX9_run 52 = .ok (.iload_n 1, 1) := by decide +kernel
theorem dX9_run_53 : decode cX9_run 53 = .ok (.iload_n 2, 1) := by decide +kernel
theorem dX9_run_54 : decode cX9_run 54 = .ok (.aload_n 0, 1) := by decide +kernel
theorem dX9_run_55 : decode cX9_run 55 = .ok (.getfield 29, 3) := by decide +kernel
theorem dX9_run_58 : decode cX9_run 58 = .ok (.aload_n 0, 1) := by decide +kernel
theorem dX9_run_59 : decode cX9_run 59 = .ok (.getfield 10, 3) := by decide +kernel
theorem dX9_run_62 : decode cX9_run 62 = .ok (.iload_n 1, 1) := by decide +kernel
theorem dX9_run_63 : decode cX9_run 63 = .ok (.iload_n 2, 1) := by decide +kernel
theorem dX9_run_64 : decode cX9_run 64 = .ok (.invokevirtual 152, 3) := by decide +kernel
theorem dX9_run_67 : decode cX9_run 67 = .ok (.invokevirtual 156, 3) := by decide +kernel
theorem dX9_run_70 : decode cX9_run 70 = .ok (.aload_n 0, 1) := by decide +kernel
theorem dX9_run_71 : decode cX9_run 71 = .ok (.getfield 10, 3) := by decide +kernel
theorem dX9_run_74 : decode cX9_run 74 = .ok (.getfield 73, 3) := by decide +kernel
theorem dX9_run_77 : decode cX9_run 77 = .ok (.getfield 160, 3) := by decide +kernel
theorem dX9_run_80 : decode cX9_run 80 = .ok (.iconst 1, 1) := by decide +kernel
theorem dX9_run_81 : decode cX9_run 81 = .ok (.isub, 1) := by decide +kernel
theorem dX9_run_82 : decode cX9_run 82 = .ok (.ireturn, 1) := by decide +kernel
theorem dX9_reason_0 : decode cX9_reason 0 = .ok (.aload_n 0, 1) := by decide +kernel
theorem dX9_reason_1 : decode cX9_reason 1 = .ok (.getfield 147, 3) := by decide +kernel
theorem dX9_reason_4 : decode cX9_reason 4 = .ok (.ireturn, 1) := by decide +kernel
theorem dX9_corner_0 : decode cX9_corner 0 = .ok (.aload_n 0, 1) := by decide +kernel
theorem dX9_corner_1 : decode cX9_corner 1 = .ok (.iload_n 1, 1) := by decide +kernel
theorem dX9_corner_2 : decode cX9_corner 2 = .ok (.invokevirtual 126, 3) := by decide +kernel
theorem dX9_corner_5 : decode cX9_corner 5 = .ok (.iload_n 2, 1) := by decide +kernel
theorem dX9_corner_6 : decode cX9_corner 6 = .ok (.bipush 6, 2) := by decide +kernel
theorem dX9_corner_8 : decode cX9_corner 8 = .ok (.invokestatic 192, 3) := by decide +kernel
theorem dX9_corner_11 : decode cX9_corner 11 = .ok (.aload_n 0, 1) := by decide +kernel
theorem dX9_corner_12 : decode cX9_corner 12 = .ok (.iload_n 1, 1) := by decide +kernel
theorem dX9_corner_13 : decode cX9_corner 13 = .ok (.iload_n 2, 1) := by decide +kernel
theorem dX9_corner_14 : decode cX9_corner 14 = .ok (.invokevirtual 195, 3) := by decide +kernel
theorem dX9_corner_17 : decode cX9_corner 17 = .ok (.lreturn, 1) := by decide +kernel
theorem dX9_made_0 : decode cX9_made 0 = .ok (.iload_n 1, 1) := by decide +kernel
theorem dX9_made_1 : decode cX9_made 1 = .ok (.ifCond .lt 17, 3) := by decide +kernel
theorem dX9_made_4 : decode cX9_made 4 = .ok (.iload_n 1, 1) := by decide +kernel
theorem dX9_made_5 : decode cX9_made 5 = .ok (.aload_n 0, 1) := by decide +kernel
theorem dX9_made_6 : decode cX9_made 6 = .ok (.getfield 10, 3) := by decide +kernel
theorem dX9_made_9 : decode cX9_made 9 = .ok (.getfield 73, 3) := by decide +kernel
theorem dX9_made_12 : decode cX9_made 12 = .ok (.getfield 160, 3) := by decide +kernel
theorem dX9_made_15 : decode cX9_made 15 = .ok (.if_icmp .lt 13, 3) := by decide +kernel
theorem dX9_made_18 : decode cX9_made 18 = .ok (.new 109, 3) := by decide +kernel
theorem dX9_made_21 : decode cX9_made 21 = .ok (.dup, 1) := by decide +kernel
theorem dX9_made_22 : decode cX9_made 22 = .ok (.ldc 199, 2) := by decide +kernel
theorem dX9_made_24 : decode cX9_made 24 = .ok (.invokespecial 113, 3) := by decide +kernel
theorem dX9_made_27 : decode cX9_made 27 = .ok (.athrow, 1) := by decide +kernel
theorem dX9_made_28 : decode cX9_made 28 = .ok (.iload_n 2, 1) := by decide +kernel
theorem dX9_made_29 : decode cX9_made 29 = .ok (.bipush 6, 2) := by decide +kernel
theorem dX9_made_31 : decode cX9_made 31 = .ok (.invokestatic 192, 3) := by decide +kernel
theorem dX9_made_34 : decode cX9_made 34 = .ok (.aload_n 0, 1) := by decide +kernel
theorem dX9_made_35 : decode cX9_made 35 = .ok (.iload_n 1, 1) := by decide +kernel
theorem dX9_made_36 : decode cX9_made 36 = .ok (.iload_n 2, 1) := by decide +kernel
theorem dX9_made_37 : decode cX9_made 37 = .ok (.invokevirtual 201, 3) := by decide +kernel
theorem dX9_made_40 : decode cX9_made 40 = .ok (.lreturn, 1) := by decide +kernel
theorem dX9_elbow_0 : decode cX9_elbow 0 = .ok (.iload_n 1, 1) := by decide +kernel
theorem dX9_elbow_1 : decode cX9_elbow 1 = .ok (.ldc 204, 2) := by decide +kernel
theorem dX9_elbow_3 : decode cX9_elbow 3 = .ok (.invokestatic 51, 3) := by decide +kernel
theorem dX9_elbow_6 : decode cX9_elbow 6 = .ok (.ifCond .eq 12, 3) := by decide +kernel
theorem dX9_elbow_9 : decode cX9_elbow 9 = .ok (.iload_n 2, 1) := by decide +kernel
theorem dX9_elbow_10 : decode cX9_elbow 10 = .ok (.ldc 204, 2) := by decide +kernel
theorem dX9_elbow_12 : decode cX9_elbow 12 = .ok (.invokestatic 51, 3) := by decide +kernel
theorem dX9_elbow_15 : decode cX9_elbow 15 = .ok (.ifCond .ne 13, 3) := by decide +kernel
theorem dX9_elbow_18 : decode cX9_elbow 18 = .ok (.new 55, 3) := by decide +kernel
theorem dX9_elbow_21 : decode cX9_elbow 21 = .ok (.dup, 1) := by decide +kernel
theorem dX9_elbow_22 : decode cX9_elbow 22 = .ok (.ldc 205, 2) := by decide +kernel
theorem dX9_elbow_24 : decode cX9_elbow 24 = .ok (.invokespecial 59, 3) := by decide +kernel
theorem dX9_elbow_27 : decode cX9_elbow 27 = .ok (.athrow, 1) := by decide +kernel
theorem dX9_elbow_28 : decode cX9_elbow 28 = .ok (.iload_n 3, 1) := by decide +kernel
theorem dX9_elbow_29 : decode cX9_elbow 29 = .ok (.iconst 3, 1) := by decide +kernel
theorem dX9_elbow_30 : decode cX9_elbow 30 = .ok (.invokestatic 192, 3) := by decide +kernel
theorem dX9_elbow_33 : decode cX9_elbow 33 = .ok (.aload_n 0, 1) := by decide +kernel
theorem dX9_elbow_34 : decode cX9_elbow 34 = .ok (.getfield 29, 3) := by decide +kernel
theorem dX9_elbow_37 : decode cX9_elbow 37 = .ok (.getfield 207, 3) := by decide +kernel
theorem dX9_elbow_40 : decode cX9_elbow 40 = .ok (.astore 4, 2) := by decide +kernel
theorem dX9_elbow_42 : decode cX9_elbow 42 = .ok (.aload 4, 2) := by decide +kernel
theorem dX9_elbow_44 : decode cX9_elbow 44 = .ok (.aload_n 0, 1) := by decide +kernel
theorem dX9_elbow_45 : decode cX9_elbow 45 = .ok (.getfield 10, 3) := by decide +kernel
theorem dX9_elbow_48 : decode cX9_elbow 48 = .ok (.invokevirtual 211, 3) := by decide +kernel
theorem dX9_elbow_51 : decode cX9_elbow 51 = .ok (.aload 4, 2) := by decide +kernel
theorem dX9_elbow_53 : decode cX9_elbow 53 = .ok (.iload_n 1, 1) := by decide +kernel
theorem dX9_elbow_54 : decode cX9_elbow 54 = .ok (.i2l, 1) := by decide +kernel
theorem dX9_elbow_55 : decode cX9_elbow 55 = .ok (.iload_n 2, 1) := by decide +kernel
theorem dX9_elbow_56 : decode cX9_elbow 56 = .ok (.i2l, 1) := by decide +kernel
theorem dX9_elbow_57 : decode cX9_elbow 57 = .ok (.invokevirtual 216, 3) := by decide +kernel
theorem dX9_elbow_60 : decode cX9_elbow 60 = .ok (.istore 5, 2) := by decide +kernel
theorem dX9_elbow_62 : decode cX9_elbow 62 = .ok (.iload_n 3, 1) := by decide +kernel
theorem dX9_elbow_63 : decode cX9_elbow 63 = .ok (.ifCond .ne 14, 3) := by decide +kernel
theorem dX9_elbow_66 : decode cX9_elbow 66 = .ok (.iload 5, 2) := by decide +kernel
theorem dX9_elbow_68 : decode cX9_elbow 68 = .ok (.ifCond .eq 7, 3) := by decide +kernel
theorem dX9_elbow_71 : decode cX9_elbow 71 = .ok (.lconst 1, 1) := by decide +kernel
theorem dX9_elbow_72 : decode cX9_elbow 72 = .ok (.goto 4, 3) := by decide +kernel
theorem dX9_elbow_75 : decode cX9_elbow 75 = .ok (.lconst 0, 1) := by decide +kernel
theorem dX9_elbow_76 : decode cX9_elbow 76 = .ok (.lreturn, 1) := by decide +kernel
theorem dX9_elbow_77 : decode cX9_elbow 77 = .ok (.iload_n 3, 1) := by decide +kernel
theorem dX9_elbow_78 : decode cX9_elbow 78 = .ok (.iconst 1, 1) := by decide +kernel
theorem dX9_elbow_79 : decode cX9_elbow 79 = .ok (.if_icmp .ne 11, 3) := by decide +kernel
theorem dX9_elbow_82 : decode cX9_elbow 82 = .ok (.aload 4, 2) := by decide +kernel
theorem dX9_elbow_84 : decode cX9_elbow 84 = .ok (.getfield 220, 3) := by decide +kernel
theorem dX9_elbow_87 : decode cX9_elbow 87 = .ok (.goto 8, 3) := by decide +kernel
theorem dX9_elbow_90 : decode cX9_elbow 90 = .ok (.aload 4, 2) := by decide +kernel
theorem dX9_elbow_92 : decode cX9_elbow 92 = .ok (.getfield 224, 3) := by decide +kernel
theorem dX9_elbow_95 : decode cX9_elbow 95 = .ok (.lreturn, 1) := by decide +kernel
theorem dX9_count_0 : decode cX9_count 0 = .ok (.iload_n 1, 1) := by decide +kernel
theorem dX9_count_1 : decode cX9_count 1 = .ok (.bipush 15, 2) := by decide +kernel
theorem dX9_count_3 : decode cX9_count 3 = .ok (.invokestatic 192, 3) := by decide +kernel
theorem dX9_count_6 : decode cX9_count 6 = .ok (.aload_n 0, 1) := by decide +kernel
theorem dX9_count_7 : decode cX9_count 7 = .ok (.iload_n 1, 1) := by decide +kernel
theorem dX9_count_8 : decode cX9_count 8 = .ok (.invokevirtual 227, 3) := by decide +kernel
theorem dX9_count_11 : decode cX9_count 11 = .ok (.lreturn, 1) := by decide +kernel
theorem dX9_setting_0 : decode cX9_setting 0 = .ok (.iload_n 1, 1) := by decide +kernel
theorem dX9_setting_1 : decode cX9_setting 1 = .ok (.invokestatic 83, 3) := by decide +kernel
theorem dX9_setting_4 : decode cX9_setting 4 = .ok (.aload_n 0, 1) := by decide +kernel
theorem dX9_setting_5 : decode cX9_setting 5 = .ok (.getfield 10, 3) := by decide +kernel
theorem dX9_setting_8 : decode cX9_setting 8 = .ok (.getfield 91, 3) := by decide +kernel
theorem dX9_setting_11 : decode cX9_setting 11 = .ok (.iload_n 1, 1) := by decide +kernel
theorem dX9_setting_12 : decode cX9_setting 12 = .ok (.iaload, 1) := by decide +kernel
theorem dX9_setting_13 : decode cX9_setting 13 = .ok (.ireturn, 1) := by decide +kernel
theorem dX9_why_0 : decode cX9_why 0 = .ok (.aload_n 0, 1) := by decide +kernel
theorem dX9_why_1 : decode cX9_why 1 = .ok (.iload_n 1, 1) := by decide +kernel
theorem dX9_why_2 : decode cX9_why 2 = .ok (.invokevirtual 126, 3) := by decide +kernel
theorem dX9_why_5 : decode cX9_why 5 = .ok (.aload_n 0, 1) := by decide +kernel
theorem dX9_why_6 : decode cX9_why 6 = .ok (.aload_n 0, 1) := by decide +kernel
theorem dX9_why_7 : decode cX9_why 7 = .ok (.getfield 10, 3) := by decide +kernel
theorem dX9_why_10 : decode cX9_why 10 = .ok (.invokevirtual 143, 3) := by decide +kernel
theorem dX9_why_13 : decode cX9_why 13 = .ok (.ireturn, 1) := by decide +kernel
theorem dX9_ifSet_0 : decode cX9_ifSet 0 = .ok (.aload_n 0, 1) := by decide +kernel
theorem dX9_ifSet_1 : decode cX9_ifSet 1 = .ok (.iload_n 1, 1) := by decide +kernel
theorem dX9_ifSet_2 : decode cX9_ifSet 2 = .ok (.invokevirtual 126, 3) := by decide +kernel
theorem dX9_ifSet_5 : decode cX9_ifSet 5 = .ok (.iload_n 3, 1) := by decide +kernel
theorem dX9_ifSet_6 : decode cX9_ifSet 6 = .ok (.invokestatic 83, 3) := by decide +kernel
theorem dX9_ifSet_9 : decode cX9_ifSet 9 = .ok (.iload_n 3, 1) := by decide +kernel
theorem dX9_ifSet_10 : decode cX9_ifSet 10 = .ok (.iload 4, 2) := by decide +kernel
theorem dX9_ifSet_12 : decode cX9_ifSet 12 = .ok (.invokestatic 87, 3) := by decide +kernel
theorem dX9_ifSet_15 : decode cX9_ifSet 15 = .ok (.aload_n 0, 1) := by decide +kernel
theorem dX9_ifSet_16 : decode cX9_ifSet 16 = .ok (.getfield 16, 3) := by decide +kernel
theorem dX9_ifSet_19 : decode cX9_ifSet 19 = .ok (.aload_n 0, 1) := by decide +kernel
theorem dX9_ifSet_20 : decode cX9_ifSet 20 = .ok (.getfield 10, 3) := by decide +kernel
theorem dX9_ifSet_23 : decode cX9_ifSet 23 = .ok (.invokevirtual 231, 3) := by decide +kernel
theorem dX9_ifSet_26 : decode cX9_ifSet 26 = .ok (.aload_n 0, 1) := by decide +kernel
theorem dX9_ifSet_27 : decode cX9_ifSet 27 = .ok (.getfield 16, 3) := by decide +kernel
theorem dX9_ifSet_30 : decode cX9_ifSet 30 = .ok (.getfield 91, 3) := by decide +kernel
theorem dX9_ifSet_33 : decode cX9_ifSet 33 = .ok (.iload_n 3, 1) := by decide +kernel
theorem dX9_ifSet_34 : decode cX9_ifSet 34 = .ok (.iload 4, 2) := by decide +kernel
theorem dX9_ifSet_36 : decode cX9_ifSet 36 = .ok (.iastore, 1) := by decide +kernel
theorem dX9_ifSet_37 : decode cX9_ifSet 37 = .ok (.aload_n 0, 1) := by decide +kernel
theorem dX9_ifSet_38 : decode cX9_ifSet 38 = .ok (.getfield 16, 3) := by decide +kernel
theorem dX9_ifSet_41 : decode cX9_ifSet 41 = .ok (.getfield 73, 3) := by decide +kernel
theorem dX9_ifSet_44 : decode cX9_ifSet 44 = .ok (.invokevirtual 77, 3) := by decide +kernel
theorem dX9_ifSet_47 : decode cX9_ifSet 47 = .ok (.pop, 1) := by decide +kernel
theorem dX9_ifSet_48 : decode cX9_ifSet 48 = .ok (.aload_n 0, 1) := by decide +kernel
theorem dX9_ifSet_49 : decode cX9_ifSet 49 = .ok (.aload_n 0, 1) := by decide +kernel
theorem dX9_ifSet_50 : decode cX9_ifSet 50 = .ok (.getfield 16, 3) := by decide +kernel
theorem dX9_ifSet_53 : decode cX9_ifSet 53 = .ok (.invokevirtual 143, 3) := by decide +kernel
theorem dX9_ifSet_56 : decode cX9_ifSet 56 = .ok (.ifCond .eq 5, 3) := by decide +kernel
theorem dX9_ifSet_59 : decode cX9_ifSet 59 = .ok (.lconst 0, 1) := by decide +kernel
theorem dX9_ifSet_60 : decode cX9_ifSet 60 = .ok (.lreturn, 1) := by decide +kernel
theorem dX9_ifSet_61 : decode cX9_ifSet 61 = .ok (.aload_n 0, 1) := by decide +kernel
theorem dX9_ifSet_62 : decode cX9_ifSet 62 = .ok (.getfield 29, 3) := by decide +kernel
theorem dX9_ifSet_65 : decode cX9_ifSet 65 = .ok (.aload_n 0, 1) := by decide +kernel
theorem dX9_ifSet_66 : decode cX9_ifSet 66 = .ok (.getfield 16, 3) := by decide +kernel
theorem dX9_ifSet_69 : decode cX9_ifSet 69 = .ok (.iload_n 1, 1) := by decide +kernel
theorem dX9_ifSet_70 : decode cX9_ifSet 70 = .ok (.iload_n 2, 1) := by decide +kernel
theorem dX9_ifSet_71 : decode cX9_ifSet 71 = .ok (.invokevirtual 152, 3) := by decide +kernel
theorem dX9_ifSet_74 : decode cX9_ifSet 74 = .ok (.lreturn, 1) := by decide +kernel
theorem dX9_leastArm_0 : decode cX9_leastArm 0 = .ok (.aload_n 0, 1) := by decide +kernel
theorem dX9_leastArm_1 : decode cX9_leastArm 1 = .ok (.getfield 10, 3) := by decide +kernel
theorem dX9_leastArm_4 : decode cX9_leastArm 4 = .ok (.getfield 100, 3) := by decide +kernel
theorem dX9_leastArm_7 : decode cX9_leastArm 7 = .ok (.getfield 104, 3) := by decide +kernel
theorem dX9_leastArm_10 : decode cX9_leastArm 10 = .ok (.ifCond .ne 5, 3) := by decide +kernel
theorem dX9_leastArm_13 : decode cX9_leastArm 13 = .ok (.iconst (-1), 1) := by decide +kernel
theorem dX9_leastArm_14 : decode cX9_leastArm 14 = .ok (.ireturn, 1) := by decide +kernel
theorem dX9_leastArm_15 : decode cX9_leastArm 15 = .ok (.aload_n 0, 1) := by decide +kernel
theorem dX9_leastArm_16 : decode cX9_leastArm 16 = .ok (.getfield 29, 3) := by decide +kernel
theorem dX9_leastArm_19 : decode cX9_leastArm 19 = .ok (.aload_n 0, 1) := by decide +kernel
theorem dX9_leastArm_20 : decode cX9_leastArm 20 = .ok (.getfield 10, 3) := by decide +kernel
theorem dX9_leastArm_23 : decode cX9_leastArm 23 = .ok (.invokevirtual 234, 3) := by decide +kernel
theorem dX9_leastArm_26 : decode cX9_leastArm 26 = .ok (.getstatic 237, 3) := by decide +kernel
theorem dX9_leastArm_29 : decode cX9_leastArm 29 = .ok (.iconst 1, 1) := by decide +kernel
theorem dX9_leastArm_30 : decode cX9_leastArm 30 = .ok (.iaload, 1) := by decide +kernel
theorem dX9_leastArm_31 : decode cX9_leastArm 31 = .ok (.istore_n 1, 1) := by decide +kernel
theorem dX9_leastArm_32 : decode cX9_leastArm 32 = .ok (.iload_n 1, 1) := by decide +kernel
theorem dX9_leastArm_33 : decode cX9_leastArm 33 = .ok (.getstatic 240, 3) := by decide +kernel
theorem dX9_leastArm_36 : decode cX9_leastArm 36 = .ok (.iconst 1, 1) := by decide +kernel
theorem dX9_leastArm_37 : decode cX9_leastArm 37 = .ok (.iaload, 1) := by decide +kernel
theorem dX9_leastArm_38 : decode cX9_leastArm 38 = .ok (.if_icmp .gt 22, 3) := by decide +kernel
theorem dX9_leastArm_41 : decode cX9_leastArm 41 = .ok (.aload_n 0, 1) := by decide +kernel
theorem dX9_leastArm_42 : decode cX9_leastArm 42 = .ok (.getfield 29, 3) := by decide +kernel
theorem dX9_leastArm_45 : decode cX9_leastArm 45 = .ok (.iload_n 1, 1) := by decide +kernel
theorem dX9_leastArm_46 : decode cX9_leastArm 46 = .ok (.invokevirtual 243, 3) := by decide +kernel
theorem dX9_leastArm_49 : decode cX9_leastArm 49 = .ok (.ifCond .eq 5, 3) := by decide +kernel
theorem dX9_leastArm_52 : decode cX9_leastArm 52 = .ok (.iload_n 1, 1) := by decide +kernel
theorem dX9_leastArm_53 : decode cX9_leastArm 53 = .ok (.ireturn, 1) := by decide +kernel
theorem dX9_leastArm_54 : decode cX9_leastArm 54 = .ok (.iinc 1 100, 3) := by decide +kernel
theorem dX9_leastArm_57 : decode cX9_leastArm 57 = .ok (.goto (-25), 3) := by decide +kernel
theorem dX9_leastArm_60 : decode cX9_leastArm 60 = .ok (.iconst (-1), 1) := by decide +kernel
theorem dX9_leastArm_61 : decode cX9_leastArm 61 = .ok (.ireturn, 1) := by decide +kernel
theorem dX9_error_0 : decode cX9_error 0 = .ok (.aload_n 0, 1) := by decide +kernel
theorem dX9_error_1 : decode cX9_error 1 = .ok (.getfield 10, 3) := by decide +kernel
theorem dX9_error_4 : decode cX9_error 4 = .ok (.getfield 100, 3) := by decide +kernel
theorem dX9_error_7 : decode cX9_error 7 = .ok (.invokevirtual 247, 3) := by decide +kernel
theorem dX9_error_10 : decode cX9_error 10 = .ok (.lstore_n 1, 1) := by decide +kernel
theorem dX9_error_11 : decode cX9_error 11 = .ok (.aload_n 0, 1) := by decide +kernel
theorem dX9_error_12 : decode cX9_error 12 = .ok (.getfield 10, 3) := by decide +kernel
theorem dX9_error_15 : decode cX9_error 15 = .ok (.getfield 73, 3) := by decide +kernel
theorem dX9_error_18 : decode cX9_error 18 = .ok (.getfield 160, 3) := by decide +kernel
theorem dX9_error_21 : decode cX9_error 21 = .ok (.ifCond .eq 9, 3) := by decide +kernel
theorem dX9_error_24 : decode cX9_error 24 = .ok (.lload_n 1, 1) := by decide +kernel
theorem dX9_error_25 : decode cX9_error 25 = .ok (.lconst 0, 1) := by decide +kernel
theorem dX9_error_26 : decode cX9_error 26 = .ok (.lcmp, 1) := by decide +kernel
theorem dX9_error_27 : decode cX9_error 27 = .ok (.ifCond .ne 5, 3) := by decide +kernel
theorem dX9_error_30 : decode cX9_error 30 = .ok (.dconst 0, 1) := by decide +kernel
theorem dX9_error_31 : decode cX9_error 31 = .ok (.dreturn, 1) := by decide +kernel
theorem dX9_error_32 : decode cX9_error 32 = .ok (.aload_n 0, 1) := by decide +kernel
theorem dX9_error_33 : decode cX9_error 33 = .ok (.invokevirtual 251, 3) := by decide +kernel
theorem dX9_error_36 : decode cX9_error 36 = .ok (.l2d, 1) := by decide +kernel
theorem dX9_error_37 : decode cX9_error 37 = .ok (.lload_n 1, 1) := by decide +kernel
theorem dX9_error_38 : decode cX9_error 38 = .ok (.l2d, 1) := by decide +kernel
theorem dX9_error_39 : decode cX9_error 39 = .ok (.ddiv, 1) := by decide +kernel
theorem dX9_error_40 : decode cX9_error 40 = .ok (.dreturn, 1) := by decide +kernel
theorem dX9_isWithin_0 : decode cX9_isWithin 0 = .ok (.iload_n 0, 1) := by decide +kernel
theorem dX9_isWithin_1 : decode cX9_isWithin 1 = .ok (.iload_n 1, 1) := by decide +kernel
theorem dX9_isWithin_2 : decode cX9_isWithin 2 = .ok (.ineg, 1) := by decide +kernel
theorem dX9_isWithin_3 : decode cX9_isWithin 3 = .ok (.if_icmp .lt 12, 3) := by decide +kernel
theorem dX9_isWithin_6 : decode cX9_isWithin 6 = .ok (.iload_n 0, 1) := by decide +kernel
theorem dX9_isWithin_7 : decode cX9_isWithin 7 = .ok (.iload_n 1, 1) := by decide +kernel
theorem dX9_isWithin_8 : decode cX9_isWithin 8 = .ok (.if_icmp .gt 7, 3) := by decide +kernel
theorem dX9_isWithin_11 : decode cX9_isWithin 11 = .ok (.iconst 1, 1) := by decide +kernel
theorem dX9_isWithin_12 : decode cX9_isWithin 12 = .ok (.goto 4, 3) := by decide +kernel
theorem dX9_isWithin_15 : decode cX9_isWithin 15 = .ok (.iconst 0, 1) := by decide +kernel
theorem dX9_isWithin_16 : decode cX9_isWithin 16 = .ok (.ireturn, 1) := by decide +kernel
theorem dX9_checkSetting_0 : decode cX9_checkSetting 0 = .ok (.iload_n 0, 1) := by decide +kernel
theorem dX9_checkSetting_1 : decode cX9_checkSetting 1 = .ok (.ifCond .lt 8, 3) := by decide +kernel
theorem dX9_checkSetting_4 : decode cX9_checkSetting 4 = .ok (.iload_n 0, 1) := by decide +kernel
theorem dX9_checkSetting_5 : decode cX9_checkSetting 5 = .ok (.iconst 5, 1) := by decide +kernel
theorem dX9_checkSetting_6 : decode cX9_checkSetting 6 = .ok (.if_icmp .lt 14, 3) := by decide +kernel
theorem dX9_checkSetting_9 : decode cX9_checkSetting 9 = .ok (.new 109, 3) := by decide +kernel
theorem dX9_checkSetting_12 : decode cX9_checkSetting 12 = .ok (.dup, 1) := by decide +kernel
theorem dX9_checkSetting_13 : decode cX9_checkSetting 13 = .ok (.ldc_w 266, 3) := by decide +kernel
theorem dX9_checkSetting_16 : decode cX9_checkSetting 16 = .ok (.invokespecial 113, 3) := by decide +kernel
theorem dX9_checkSetting_19 : decode cX9_checkSetting 19 = .ok (.athrow, 1) := by decide +kernel
theorem dX9_checkSetting_20 : decode cX9_checkSetting 20 = .ok (.return_, 1) := by decide +kernel
theorem dX9_checkValue_0 : decode cX9_checkValue 0 = .ok (.iload_n 1, 1) := by decide +kernel
theorem dX9_checkValue_1 : decode cX9_checkValue 1 = .ok (.getstatic 237, 3) := by decide +kernel
theorem dX9_checkValue_4 : decode cX9_checkValue 4 = .ok (.iload_n 0, 1) := by decide +kernel
theorem dX9_checkValue_5 : decode cX9_checkValue 5 = .ok (.iaload, 1) := by decide +kernel
theorem dX9_checkValue_6 : decode cX9_checkValue 6 = .ok (.if_icmp .lt 12, 3) := by decide +kernel
theorem dX9_checkValue_9 : decode cX9_checkValue 9 = .ok (.iload_n 1, 1) := by decide +kernel
theorem dX9_checkValue_10 : decode cX9_checkValue 10 = .ok (.getstatic 240, 3) := by decide +kernel
theorem dX9_checkValue_13 : decode cX9_checkValue 13 = .ok (.iload_n 0, 1) := by decide +kernel
theorem dX9_checkValue_14 : decode cX9_checkValue 14 = .ok (.iaload, 1) := by decide +kernel
theorem dX9_checkValue_15 : decode cX9_checkValue 15 = .ok (.if_icmp .le 14, 3) := by decide +kernel
theorem dX9_checkValue_18 : decode cX9_checkValue 18 = .ok (.new 55, 3) := by decide +kernel
theorem dX9_checkValue_21 : decode cX9_checkValue 21 = .ok (.dup, 1) := by decide +kernel
theorem dX9_checkValue_22 : decode cX9_checkValue 22 = .ok (.ldc_w 268, 3) := by decide +kernel
theorem dX9_checkValue_25 : decode cX9_checkValue 25 = .ok (.invokespecial 59, 3) := by decide +kernel
theorem dX9_checkValue_28 : decode cX9_checkValue 28 = .ok (.athrow, 1) := by decide +kernel
theorem dX9_checkValue_29 : decode cX9_checkValue 29 = .ok (.return_, 1) := by decide +kernel
theorem dX9_checkPoint_0 : decode cX9_checkPoint 0 = .ok (.iload_n 0, 1) := by decide +kernel
theorem dX9_checkPoint_1 : decode cX9_checkPoint 1 = .ok (.sipush 1000, 3) := by decide +kernel
theorem dX9_checkPoint_4 : decode cX9_checkPoint 4 = .ok (.invokestatic 51, 3) := by decide +kernel
theorem dX9_checkPoint_7 : decode cX9_checkPoint 7 = .ok (.ifCond .eq 13, 3) := by decide +kernel
theorem dX9_checkPoint_10 : decode cX9_checkPoint 10 = .ok (.iload_n 1, 1) := by decide +kernel
theorem dX9_checkPoint_11 : decode cX9_checkPoint 11 = .ok (.sipush 1000, 3) := by decide +kernel
theorem dX9_checkPoint_14 : decode cX9_checkPoint 14 = .ok (.invokestatic 51, 3) := by decide +kernel
theorem dX9_checkPoint_17 : decode cX9_checkPoint 17 = .ok (.ifCond .ne 14, 3) := by decide +kernel
theorem dX9_checkPoint_20 : decode cX9_checkPoint 20 = .ok (.new 55, 3) := by decide +kernel
theorem dX9_checkPoint_23 : decode cX9_checkPoint 23 = .ok (.dup, 1) := by decide +kernel
theorem dX9_checkPoint_24 : decode cX9_checkPoint 24 = .ok (.ldc_w 270, 3) := by decide +kernel
theorem dX9_checkPoint_27 : decode cX9_checkPoint 27 = .ok (.invokespecial 59, 3) := by decide +kernel
theorem dX9_checkPoint_30 : decode cX9_checkPoint 30 = .ok (.athrow, 1) := by decide +kernel
theorem dX9_checkPoint_31 : decode cX9_checkPoint 31 = .ok (.return_, 1) := by decide +kernel
theorem dX9_checkWhat_0 : decode cX9_checkWhat 0 = .ok (.iload_n 0, 1) := by decide +kernel
theorem dX9_checkWhat_1 : decode cX9_checkWhat 1 = .ok (.ifCond .lt 8, 3) := by decide +kernel
theorem dX9_checkWhat_4 : decode cX9_checkWhat 4 = .ok (.iload_n 0, 1) := by decide +kernel
theorem dX9_checkWhat_5 : decode cX9_checkWhat 5 = .ok (.iload_n 1, 1) := by decide +kernel
theorem dX9_checkWhat_6 : decode cX9_checkWhat 6 = .ok (.if_icmp .lt 14, 3) := by decide +kernel
theorem dX9_checkWhat_9 : decode cX9_checkWhat 9 = .ok (.new 55, 3) := by decide +kernel
theorem dX9_checkWhat_12 : decode cX9_checkWhat 12 = .ok (.dup, 1) := by decide +kernel
theorem dX9_checkWhat_13 : decode cX9_checkWhat 13 = .ok (.ldc_w 272, 3) := by decide +kernel
theorem dX9_checkWhat_16 : decode cX9_checkWhat 16 = .ok (.invokespecial 59, 3) := by decide +kernel
theorem dX9_checkWhat_19 : decode cX9_checkWhat 19 = .ok (.athrow, 1) := by decide +kernel
theorem dX9_checkWhat_20 : decode cX9_checkWhat 20 = .ok (.return_, 1) := by decide +kernel
theorem dX9_checkCorner_0 : decode cX9_checkCorner 0 = .ok (.iload_n 1, 1) := by decide +kernel
theorem dX9_checkCorner_1 : decode cX9_checkCorner 1 = .ok (.ifCond .lt 17, 3) := by decide +kernel
theorem dX9_checkCorner_4 : decode cX9_checkCorner 4 = .ok (.iload_n 1, 1) := by decide +kernel
theorem dX9_checkCorner_5 : decode cX9_checkCorner 5 = .ok (.aload_n 0, 1) := by decide +kernel
theorem dX9_checkCorner_6 : decode cX9_checkCorner 6 = .ok (.getfield 10, 3) := by decide +kernel
theorem dX9_checkCorner_9 : decode cX9_checkCorner 9 = .ok (.getfield 100, 3) := by decide +kernel
theorem dX9_checkCorner_12 : decode cX9_checkCorner 12 = .ok (.getfield 104, 3) := by decide +kernel
theorem dX9_checkCorner_15 : decode cX9_checkCorner 15 = .ok (.if_icmp .lt 14, 3) := by decide +kernel
theorem dX9_checkCorner_18 : decode cX9_checkCorner 18 = .ok (.new 109, 3) := by decide +kernel
theorem dX9_checkCorner_21 : decode cX9_checkCorner 21 = .ok (.dup, 1) := by decide +kernel
theorem dX9_checkCorner_22 : decode cX9_checkCorner 22 = .ok (.ldc_w 274, 3) := by decide +kernel
theorem dX9_checkCorner_25 : decode cX9_checkCorner 25 = .ok (.invokespecial 113, 3) := by decide +kernel
theorem dX9_checkCorner_28 : decode cX9_checkCorner 28 = .ok (.athrow, 1) := by decide +kernel
theorem dX9_checkCorner_29 : decode cX9_checkCorner 29 = .ok (.return_, 1) := by decide +kernel
theorem dX9_refusal_0 : decode cX9_refusal 0 = .ok (.aload_n 1, 1) := by decide +kernel
theorem dX9_refusal_1 : decode cX9_refusal 1 = .ok (.getfield 100, 3) := by decide +kernel
theorem dX9_refusal_4 : decode cX9_refusal 4 = .ok (.getfield 104, 3) := by decide +kernel
theorem dX9_refusal_7 : decode cX9_refusal 7 = .ok (.iconst 3, 1) := by decide +kernel
theorem dX9_refusal_8 : decode cX9_refusal 8 = .ok (.if_icmp .ge 5, 3) := by decide +kernel
theorem dX9_refusal_11 : decode cX9_refusal 11 = .ok (.iconst 1, 1) := by decide +kernel
theorem dX9_refusal_12 : decode cX9_refusal 12 = .ok (.ireturn, 1) := by decide +kernel
theorem dX9_refusal_13 : decode cX9_refusal 13 = .ok (.aload_n 1, 1) := by decide +kernel
theorem dX9_refusal_14 : decode cX9_refusal 14 = .ok (.getfield 100, 3) := by decide +kernel
theorem dX9_refusal_17 : decode cX9_refusal 17 = .ok (.aload_n 1, 1) := by decide +kernel
theorem dX9_refusal_18 : decode cX9_refusal 18 = .ok (.getfield 66, 3) := by decide +kernel
theorem dX9_refusal_21 : decode cX9_refusal 21 = .ok (.aload_n 1, 1) := by decide +kernel
theorem dX9_refusal_22 : decode cX9_refusal 22 = .ok (.getfield 70, 3) := by decide +kernel
theorem dX9_refusal_25 : decode cX9_refusal 25 = .ok (.invokevirtual 276, 3) := by decide +kernel
theorem dX9_refusal_28 : decode cX9_refusal 28 = .ok (.ifCond .eq 5, 3) := by decide +kernel
theorem dX9_refusal_31 : decode cX9_refusal 31 = .ok (.iconst 2, 1) := by decide +kernel
theorem dX9_refusal_32 : decode cX9_refusal 32 = .ok (.ireturn, 1) := by decide +kernel
theorem dX9_refusal_33 : decode cX9_refusal 33 = .ok (.aload_n 0, 1) := by decide +kernel
theorem dX9_refusal_34 : decode cX9_refusal 34 = .ok (.getfield 29, 3) := by decide +kernel
theorem dX9_refusal_37 : decode cX9_refusal 37 = .ok (.aload_n 1, 1) := by decide +kernel
theorem dX9_refusal_38 : decode cX9_refusal 38 = .ok (.invokevirtual 234, 3) := by decide +kernel
theorem dX9_refusal_41 : decode cX9_refusal 41 = .ok (.aload_n 0, 1) := by decide +kernel
theorem dX9_refusal_42 : decode cX9_refusal 42 = .ok (.getfield 29, 3) := by decide +kernel
theorem dX9_refusal_45 : decode cX9_refusal 45 = .ok (.invokevirtual 279, 3) := by decide +kernel
theorem dX9_refusal_48 : decode cX9_refusal 48 = .ok (.ifCond .ne 5, 3) := by decide +kernel
theorem dX9_refusal_51 : decode cX9_refusal 51 = .ok (.iconst 3, 1) := by decide +kernel
theorem dX9_refusal_52 : decode cX9_refusal 52 = .ok (.ireturn, 1) := by decide +kernel
theorem dX9_refusal_53 : decode cX9_refusal 53 = .ok (.aload_n 1, 1) := by decide +kernel
theorem dX9_refusal_54 : decode cX9_refusal 54 = .ok (.getfield 73, 3) := by decide +kernel
theorem dX9_refusal_57 : decode cX9_refusal 57 = .ok (.getfield 160, 3) := by decide +kernel
theorem dX9_refusal_60 : decode cX9_refusal 60 = .ok (.bipush 12, 2) := by decide +kernel
theorem dX9_refusal_62 : decode cX9_refusal 62 = .ok (.if_icmp .lt 7, 3) := by decide +kernel
theorem dX9_refusal_65 : decode cX9_refusal 65 = .ok (.iconst 4, 1) := by decide +kernel
theorem dX9_refusal_66 : decode cX9_refusal 66 = .ok (.goto 4, 3) := by decide +kernel
theorem dX9_refusal_69 : decode cX9_refusal 69 = .ok (.iconst 0, 1) := by decide +kernel
theorem dX9_refusal_70 : decode cX9_refusal 70 = .ok (.ireturn, 1) := by decide +kernel
theorem dX9_cornerProperty_0 : decode cX9_cornerProperty 0 = .ok (.aload_n 0, 1) := by decide +kernel
theorem dX9_cornerProperty_1 : decode cX9_cornerProperty 1 = .ok (.getfield 10, 3) := by decide +kernel
theorem dX9_cornerProperty_4 : decode cX9_cornerProperty 4 = .ok (.getfield 100, 3) := by decide +kernel
theorem dX9_cornerProperty_7 : decode cX9_cornerProperty 7 = .ok (.astore_n 3, 1) := by decide +kernel
theorem dX9_cornerProperty_8 : decode cX9_cornerProperty 8 = .ok (.iload_n 2, 1) := by decide +kernel
theorem dX9_cornerProperty_9 : decode cX9_cornerProperty 9 = .ok (.tableswitch 107 0 4 #[35, 43, 51, 59, 75], 35) := by decide +kernel
theorem dX9_cornerProperty_44 : decode cX9_cornerProperty 44 = .ok (.aload_n 3, 1) := by decide +kernel
theorem dX9_cornerProperty_45 : decode cX9_cornerProperty 45 = .ok (.getfield 129, 3) := by decide +kernel
theorem dX9_cornerProperty_48 : decode cX9_cornerProperty 48 = .ok (.iload_n 1, 1) := by decide +kernel
theorem dX9_cornerProperty_49 : decode cX9_cornerProperty 49 = .ok (.iaload, 1) := by decide +kernel
theorem dX9_cornerProperty_50 : decode cX9_cornerProperty 50 = .ok (.i2l, 1) := by decide +kernel
theorem dX9_cornerProperty_51 : decode cX9_cornerProperty 51 = .ok (.lreturn, 1) := by decide +kernel
theorem dX9_cornerProperty_52 : decode cX9_cornerProperty 52 = .ok (.aload_n 3, 1) := by decide +kernel
theorem dX9_cornerProperty_53 : decode cX9_cornerProperty 53 = .ok (.getfield 132, 3) := by decide +kernel
theorem dX9_cornerProperty_56 : decode cX9_cornerProperty 56 = .ok (.iload_n 1, 1) := by decide +kernel
theorem dX9_cornerProperty_57 : decode cX9_cornerProperty 57 = .ok (.iaload, 1) := by decide +kernel
theorem dX9_cornerProperty_58 : decode cX9_cornerProperty 58 = .ok (.i2l, 1) := by decide +kernel
theorem dX9_cornerProperty_59 : decode cX9_cornerProperty 59 = .ok (.lreturn, 1) := by decide +kernel
theorem dX9_cornerProperty_60 : decode cX9_cornerProperty 60 = .ok (.aload_n 3, 1) := by decide +kernel
theorem dX9_cornerProperty_61 : decode cX9_cornerProperty 61 = .ok (.getfield 140, 3) := by decide +kernel
theorem dX9_cornerProperty_64 : decode cX9_cornerProperty 64 = .ok (.iload_n 1, 1) := by decide +kernel
theorem dX9_cornerProperty_65 : decode cX9_cornerProperty 65 = .ok (.iaload, 1) := by decide +kernel
theorem dX9_cornerProperty_66 : decode cX9_cornerProperty 66 = .ok (.i2l, 1) := by decide +kernel
theorem dX9_cornerProperty_67 : decode cX9_cornerProperty 67 = .ok (.lreturn, 1) := by decide +kernel
theorem dX9_cornerProperty_68 : decode cX9_cornerProperty 68 = .ok (.aload_n 3, 1) := by decide +kernel
theorem dX9_cornerProperty_69 : decode cX9_cornerProperty 69 = .ok (.iload_n 1, 1) := by decide +kernel
theorem dX9_cornerProperty_70 : decode cX9_cornerProperty 70 = .ok (.aload_n 0, 1) := by decide +kernel
theorem dX9_cornerProperty_71 : decode cX9_cornerProperty 71 = .ok (.getfield 10, 3) := by decide +kernel
theorem dX9_cornerProperty_74 : decode cX9_cornerProperty 74 = .ok (.getfield 91, 3) := by decide +kernel
theorem dX9_cornerProperty_77 : decode cX9_cornerProperty 77 = .ok (.iconst 2, 1) := by decide +kernel
theorem dX9_cornerProperty_78 : decode cX9_cornerProperty 78 = .ok (.iaload, 1) := by decide +kernel
theorem dX9_cornerProperty_79 : decode cX9_cornerProperty 79 = .ok (.invokevirtual 282, 3) := by decide +kernel
theorem dX9_cornerProperty_82 : decode cX9_cornerProperty 82 = .ok (.i2l, 1) := by decide +kernel
theorem dX9_cornerProperty_83 : decode cX9_cornerProperty 83 = .ok (.lreturn, 1) := by decide +kernel
theorem dX9_cornerProperty_84 : decode cX9_cornerProperty 84 = .ok (.aload_n 0, 1) := by decide +kernel
theorem dX9_cornerProperty_85 : decode cX9_cornerProperty 85 = .ok (.getfield 29, 3) := by decide +kernel
theorem dX9_cornerProperty_88 : decode cX9_cornerProperty 88 = .ok (.aload_n 0, 1) := by decide +kernel
theorem dX9_cornerProperty_89 : decode cX9_cornerProperty 89 = .ok (.getfield 10, 3) := by decide +kernel
theorem dX9_cornerProperty_92 : decode cX9_cornerProperty 92 = .ok (.iload_n 1, 1) := by decide +kernel
theorem dX9_cornerProperty_93 : decode cX9_cornerProperty 93 = .ok (.invokevirtual 286, 3) := by decide +kernel
theorem dX9_cornerProperty_96 : decode cX9_cornerProperty 96 = .ok (.ifCond .eq 18, 3) := by decide +kernel
theorem dX9_cornerProperty_99 : decode cX9_cornerProperty 99 = .ok (.aload_n 0, 1) := by decide +kernel
theorem dX9_cornerProperty_100 : decode cX9_cornerProperty 100 = .ok (.getfield 29, 3) := by decide +kernel
theorem dX9_cornerProperty_103 : decode cX9_cornerProperty 103 = .ok (.aload_n 0, 1) := by decide +kernel
theorem dX9_cornerProperty_104 : decode cX9_cornerProperty 104 = .ok (.getfield 10, 3) := by decide +kernel
theorem dX9_cornerProperty_107 : decode cX9_cornerProperty 107 = .ok (.iload_n 1, 1) := by decide +kernel
theorem dX9_cornerProperty_108 : decode cX9_cornerProperty 108 = .ok (.invokevirtual 290, 3) := by decide +kernel
theorem dX9_cornerProperty_111 : decode cX9_cornerProperty 111 = .ok (.goto 4, 3) := by decide +kernel
theorem dX9_cornerProperty_114 : decode cX9_cornerProperty 114 = .ok (.lconst 0, 1) := by decide +kernel
theorem dX9_cornerProperty_115 : decode cX9_cornerProperty 115 = .ok (.lreturn, 1) := by decide +kernel
theorem dX9_cornerProperty_116 : decode cX9_cornerProperty 116 = .ok (.aload_n 0, 1) := by decide +kernel
theorem dX9_cornerProperty_117 : decode cX9_cornerProperty 117 = .ok (.getfield 29, 3) := by decide +kernel
theorem dX9_cornerProperty_120 : decode cX9_cornerProperty 120 = .ok (.aload_n 0, 1) := by decide +kernel
theorem dX9_cornerProperty_121 : decode cX9_cornerProperty 121 = .ok (.getfield 10, 3) := by decide +kernel
theorem dX9_cornerProperty_124 : decode cX9_cornerProperty 124 = .ok (.iload_n 1, 1) := by decide +kernel
theorem dX9_cornerProperty_125 : decode cX9_cornerProperty 125 = .ok (.invokevirtual 286, 3) := by decide +kernel
theorem dX9_cornerProperty_128 : decode cX9_cornerProperty 128 = .ok (.ifCond .eq 7, 3) := by decide +kernel
theorem dX9_cornerProperty_131 : decode cX9_cornerProperty 131 = .ok (.lconst 1, 1) := by decide +kernel
theorem dX9_cornerProperty_132 : decode cX9_cornerProperty 132 = .ok (.goto 4, 3) := by decide +kernel
theorem dX9_cornerProperty_135 : decode cX9_cornerProperty 135 = .ok (.lconst 0, 1) := by decide +kernel
theorem dX9_cornerProperty_136 : decode cX9_cornerProperty 136 = .ok (.lreturn, 1) := by decide +kernel
theorem dX9_runProperty_0 : decode cX9_runProperty 0 = .ok (.aload_n 0, 1) := by decide +kernel
theorem dX9_runProperty_1 : decode cX9_runProperty 1 = .ok (.getfield 10, 3) := by decide +kernel
theorem dX9_runProperty_4 : decode cX9_runProperty 4 = .ok (.getfield 73, 3) := by decide +kernel
theorem dX9_runProperty_7 : decode cX9_runProperty 7 = .ok (.astore_n 3, 1) := by decide +kernel
theorem dX9_runProperty_8 : decode cX9_runProperty 8 = .ok (.iload_n 2, 1) := by decide +kernel
theorem dX9_runProperty_9 : decode cX9_runProperty 9 = .ok (.tableswitch 102 0 4 #[35, 43, 58, 65, 89], 35) := by decide +kernel
theorem dX9_runProperty_44 : decode cX9_runProperty 44 = .ok (.aload_n 3, 1) := by decide +kernel
theorem dX9_runProperty_45 : decode cX9_runProperty 45 = .ok (.getfield 294, 3) := by decide +kernel
theorem dX9_runProperty_48 : decode cX9_runProperty 48 = .ok (.iload_n 1, 1) := by decide +kernel
theorem dX9_runProperty_49 : decode cX9_runProperty 49 = .ok (.iaload, 1) := by decide +kernel
theorem dX9_runProperty_50 : decode cX9_runProperty 50 = .ok (.i2l, 1) := by decide +kernel
theorem dX9_runProperty_51 : decode cX9_runProperty 51 = .ok (.lreturn, 1) := by decide +kernel
theorem dX9_runProperty_52 : decode cX9_runProperty 52 = .ok (.aload_n 3, 1) := by decide +kernel
theorem dX9_runProperty_53 : decode cX9_runProperty 53 = .ok (.getfield 296, 3) := by decide +kernel
theorem dX9_runProperty_56 : decode cX9_runProperty 56 = .ok (.iload_n 1, 1) := by decide +kernel
theorem dX9_runProperty_57 : decode cX9_runProperty 57 = .ok (.baload, 1) := by decide +kernel
theorem dX9_runProperty_58 : decode cX9_runProperty 58 = .ok (.ifCond .eq 7, 3) := by decide +kernel
theorem dX9_runProperty_61 : decode cX9_runProperty 61 = .ok (.lconst 1, 1) := by decide +kernel
theorem dX9_runProperty_62 : decode cX9_runProperty 62 = .ok (.goto 4, 3) := by decide +kernel
theorem dX9_runProperty_65 : decode cX9_runProperty 65 = .ok (.lconst 0, 1) := by decide +kernel
theorem dX9_runProperty_66 : decode cX9_runProperty 66 = .ok (.lreturn, 1) := by decide +kernel
theorem dX9_runProperty_67 : decode cX9_runProperty 67 = .ok (.aload_n 3, 1) := by decide +kernel
theorem dX9_runProperty_68 : decode cX9_runProperty 68 = .ok (.getfield 300, 3) := by decide +kernel
theorem dX9_runProperty_71 : decode cX9_runProperty 71 = .ok (.iload_n 1, 1) := by decide +kernel
theorem dX9_runProperty_72 : decode cX9_runProperty 72 = .ok (.laload, 1) := by decide +kernel
theorem dX9_runProperty_73 : decode cX9_runProperty 73 = .ok (.lreturn, 1) := by decide +kernel
theorem dX9_runProperty_74 : decode cX9_runProperty 74 = .ok (.aload_n 3, 1) := by decide +kernel
theorem dX9_runProperty_75 : decode cX9_runProperty 75 = .ok (.getfield 300, 3) := by decide +kernel
theorem dX9_runProperty_78 : decode cX9_runProperty 78 = .ok (.iload_n 1, 1) := by decide +kernel
theorem dX9_runProperty_79 : decode cX9_runProperty 79 = .ok (.laload, 1) := by decide +kernel
theorem dX9_runProperty_80 : decode cX9_runProperty 80 = .ok (.ldc2_w 304, 3) := by decide +kernel
theorem dX9_runProperty_83 : decode cX9_runProperty 83 = .ok (.aload_n 0, 1) := by decide +kernel
theorem dX9_runProperty_84 : decode cX9_runProperty 84 = .ok (.getfield 10, 3) := by decide +kernel
theorem dX9_runProperty_87 : decode cX9_runProperty 87 = .ok (.getfield 91, 3) := by decide +kernel
theorem dX9_runProperty_90 : decode cX9_runProperty 90 = .ok (.iconst 1, 1) := by decide +kernel
theorem dX9_runProperty_91 : decode cX9_runProperty 91 = .ok (.iaload, 1) := by decide +kernel
theorem dX9_runProperty_92 : decode cX9_runProperty 92 = .ok (.i2l, 1) := by decide +kernel
theorem dX9_runProperty_93 : decode cX9_runProperty 93 = .ok (.lmul, 1) := by decide +kernel
theorem dX9_runProperty_94 : decode cX9_runProperty 94 = .ok (.invokestatic 306, 3) := by decide +kernel
theorem dX9_runProperty_97 : decode cX9_runProperty 97 = .ok (.lreturn, 1) := by decide +kernel
theorem dX9_runProperty_98 : decode cX9_runProperty 98 = .ok (.aload_n 3, 1) := by decide +kernel
theorem dX9_runProperty_99 : decode cX9_runProperty 99 = .ok (.iload_n 1, 1) := by decide +kernel
theorem dX9_runProperty_100 : decode cX9_runProperty 100 = .ok (.aload_n 0, 1) := by decide +kernel
theorem dX9_runProperty_101 : decode cX9_runProperty 101 = .ok (.getfield 10, 3) := by decide +kernel
theorem dX9_runProperty_104 : decode cX9_runProperty 104 = .ok (.invokevirtual 309, 3) := by decide +kernel
theorem dX9_runProperty_107 : decode cX9_runProperty 107 = .ok (.invokevirtual 312, 3) := by decide +kernel
theorem dX9_runProperty_110 : decode cX9_runProperty 110 = .ok (.lreturn, 1) := by decide +kernel
theorem dX9_runProperty_111 : decode cX9_runProperty 111 = .ok (.aload_n 0, 1) := by decide +kernel
theorem dX9_runProperty_112 : decode cX9_runProperty 112 = .ok (.getfield 36, 3) := by decide +kernel
theorem dX9_runProperty_115 : decode cX9_runProperty 115 = .ok (.aload_n 0, 1) := by decide +kernel
theorem dX9_runProperty_116 : decode cX9_runProperty 116 = .ok (.getfield 10, 3) := by decide +kernel
theorem dX9_runProperty_119 : decode cX9_runProperty 119 = .ok (.invokevirtual 315, 3) := by decide +kernel
theorem dX9_runProperty_122 : decode cX9_runProperty 122 = .ok (.aload_n 0, 1) := by decide +kernel
theorem dX9_runProperty_123 : decode cX9_runProperty 123 = .ok (.getfield 36, 3) := by decide +kernel
theorem dX9_runProperty_126 : decode cX9_runProperty 126 = .ok (.getfield 318, 3) := by decide +kernel
theorem dX9_runProperty_129 : decode cX9_runProperty 129 = .ok (.iload_n 1, 1) := by decide +kernel
theorem dX9_runProperty_130 : decode cX9_runProperty 130 = .ok (.baload, 1) := by decide +kernel
theorem dX9_runProperty_131 : decode cX9_runProperty 131 = .ok (.ifCond .eq 7, 3) := by decide +kernel
theorem dX9_runProperty_134 : decode cX9_runProperty 134 = .ok (.lconst 1, 1) := by decide +kernel
theorem dX9_runProperty_135 : decode cX9_runProperty 135 = .ok (.goto 4, 3) := by decide +kernel
theorem dX9_runProperty_138 : decode cX9_runProperty 138 = .ok (.lconst 0, 1) := by decide +kernel
theorem dX9_runProperty_139 : decode cX9_runProperty 139 = .ok (.lreturn, 1) := by decide +kernel
theorem dX9_number_0 : decode cX9_number 0 = .ok (.iload_n 1, 1) := by decide +kernel
theorem dX9_number_1 : decode cX9_number 1 = .ok (.tableswitch 285 0 13 #[71, 83, 95, 104, 113, 122, 133, 144, 169, 177, 210, 229, 260, 265], 71) := by decide +kernel
theorem dX9_number_72 : decode cX9_number 72 = .ok (.aload_n 0, 1) := by decide +kernel
theorem dX9_number_73 : decode cX9_number 73 = .ok (.getfield 10, 3) := by decide +kernel
theorem dX9_number_76 : decode cX9_number 76 = .ok (.getfield 100, 3) := by decide +kernel
theorem dX9_number_79 : decode cX9_number 79 = .ok (.getfield 104, 3) := by decide +kernel
theorem dX9_number_82 : decode cX9_number 82 = .ok (.i2l, 1) := by decide +kernel
theorem dX9_number_83 : decode cX9_number 83 = .ok (.lreturn, 1) := by decide +kernel
theorem dX9_number_84 : decode cX9_number 84 = .ok (.aload_n 0, 1) := by decide +kernel
theorem dX9_number_85 : decode cX9_number 85 = .ok (.getfield 10, 3) := by decide +kernel
theorem dX9_number_88 : decode cX9_number 88 = .ok (.getfield 73, 3) := by decide +kernel
theorem dX9_number_91 : decode cX9_number 91 = .ok (.getfield 160, 3) := by decide +kernel
theorem dX9_number_94 : decode cX9_number 94 = .ok (.i2l, 1) := by decide +kernel
theorem dX9_number_95 : decode cX9_number 95 = .ok (.lreturn, 1) := by decide +kernel
theorem dX9_number_96 : decode cX9_number 96 = .ok (.aload_n 0, 1) := by decide +kernel
theorem dX9_number_97 : decode cX9_number 97 = .ok (.getfield 10, 3) := by decide +kernel
theorem dX9_number_100 : decode cX9_number 100 = .ok (.getfield 66, 3) := by decide +kernel
theorem dX9_number_103 : decode cX9_number 103 = .ok (.i2l, 1) := by decide +kernel
theorem dX9_number_104 : decode cX9_number 104 = .ok (.lreturn, 1) := by decide +kernel
theorem dX9_number_105 : decode cX9_number 105 = .ok (.aload_n 0, 1) := by decide +kernel
theorem dX9_number_106 : decode cX9_number 106 = .ok (.getfield 10, 3) := by decide +kernel
theorem dX9_number_109 : decode cX9_number 109 = .ok (.getfield 70, 3) := by decide +kernel
theorem dX9_number_112 : decode cX9_number 112 = .ok (.i2l, 1) := by decide +kernel
theorem dX9_number_113 : decode cX9_number 113 = .ok (.lreturn, 1) := by decide +kernel
theorem dX9_number_114 : decode cX9_number 114 = .ok (.aload_n 0, 1) := by decide +kernel
theorem dX9_number_115 : decode cX9_number 115 = .ok (.getfield 10, 3) := by decide +kernel
theorem dX9_number_118 : decode cX9_number 118 = .ok (.getfield 97, 3) := by decide +kernel
theorem dX9_number_121 : decode cX9_number 121 = .ok (.i2l, 1) := by decide +kernel
theorem dX9_number_122 : decode cX9_number 122 = .ok (.lreturn, 1) := by decide +kernel
theorem dX9_number_123 : decode cX9_number 123 = .ok (.aload_n 0, 1) := by decide +kernel
theorem dX9_number_124 : decode cX9_number 124 = .ok (.getfield 10, 3) := by decide +kernel
theorem dX9_number_127 : decode cX9_number 127 = .ok (.getfield 100, 3) := by decide +kernel
theorem dX9_number_130 : decode cX9_number 130 = .ok (.invokevirtual 321, 3) := by decide +kernel
theorem dX9_number_133 : decode cX9_number 133 = .ok (.lreturn, 1) := by decide +kernel
theorem dX9_number_134 : decode cX9_number 134 = .ok (.aload_n 0, 1) := by decide +kernel
theorem dX9_number_135 : decode cX9_number 135 = .ok (.getfield 10, 3) := by decide +kernel
theorem dX9_number_138 : decode cX9_number 138 = .ok (.getfield 100, 3) := by decide +kernel
theorem dX9_number_141 : decode cX9_number 141 = .ok (.invokevirtual 247, 3) := by decide +kernel
theorem dX9_number_144 : decode cX9_number 144 = .ok (.lreturn, 1) := by decide +kernel
theorem dX9_number_145 : decode cX9_number 145 = .ok (.aload_n 0, 1) := by decide +kernel
theorem dX9_number_146 : decode cX9_number 146 = .ok (.getfield 10, 3) := by decide +kernel
theorem dX9_number_149 : decode cX9_number 149 = .ok (.getfield 100, 3) := by decide +kernel
theorem dX9_number_152 : decode cX9_number 152 = .ok (.aload_n 0, 1) := by decide +kernel
theorem dX9_number_153 : decode cX9_number 153 = .ok (.getfield 10, 3) := by decide +kernel
theorem dX9_number_156 : decode cX9_number 156 = .ok (.getfield 66, 3) := by decide +kernel
theorem dX9_number_159 : decode cX9_number 159 = .ok (.aload_n 0, 1) := by decide +kernel
theorem dX9_number_160 : decode cX9_number 160 = .ok (.getfield 10, 3) := by decide +kernel
theorem dX9_number_163 : decode cX9_number 163 = .ok (.getfield 70, 3) := by decide +kernel
theorem dX9_number_166 : decode cX9_number 166 = .ok (.invokevirtual 324, 3) := by decide +kernel
theorem dX9_number_169 : decode cX9_number 169 = .ok (.lreturn, 1) := by decide +kernel
theorem dX9_number_170 : decode cX9_number 170 = .ok (.aload_n 0, 1) := by decide +kernel
theorem dX9_number_171 : decode cX9_number 171 = .ok (.getfield 10, 3) := by decide +kernel
theorem dX9_number_174 : decode cX9_number 174 = .ok (.invokevirtual 309, 3) := by decide +kernel
theorem dX9_number_177 : decode cX9_number 177 = .ok (.lreturn, 1) := by decide +kernel
theorem dX9_number_178 : decode cX9_number 178 = .ok (.aload_n 0, 1) := by decide +kernel
theorem dX9_number_179 : decode cX9_number 179 = .ok (.getfield 10, 3) := by decide +kernel
theorem dX9_number_182 : decode cX9_number 182 = .ok (.getfield 100, 3) := by decide +kernel
theorem dX9_number_185 : decode cX9_number 185 = .ok (.aload_n 0, 1) := by decide +kernel
theorem dX9_number_186 : decode cX9_number 186 = .ok (.getfield 10, 3) := by decide +kernel
theorem dX9_number_189 : decode cX9_number 189 = .ok (.getfield 66, 3) := by decide +kernel
theorem dX9_number_192 : decode cX9_number 192 = .ok (.aload_n 0, 1) := by decide +kernel
theorem dX9_number_193 : decode cX9_number 193 = .ok (.getfield 10, 3) := by decide +kernel
theorem dX9_number_196 : decode cX9_number 196 = .ok (.getfield 70, 3) := by decide +kernel
theorem dX9_number_199 : decode cX9_number 199 = .ok (.invokevirtual 276, 3) := by decide +kernel
theorem dX9_number_202 : decode cX9_number 202 = .ok (.ifCond .eq 7, 3) := by decide +kernel
theorem dX9_number_205 : decode cX9_number 205 = .ok (.lconst 1, 1) := by decide +kernel
theorem dX9_number_206 : decode cX9_number 206 = .ok (.goto 4, 3) := by decide +kernel
theorem dX9_number_209 : decode cX9_number 209 = .ok (.lconst 0, 1) := by decide +kernel
theorem dX9_number_210 : decode cX9_number 210 = .ok (.lreturn, 1) := by decide +kernel
theorem dX9_number_211 : decode cX9_number 211 = .ok (.aload_n 0, 1) := by decide +kernel
theorem dX9_number_212 : decode cX9_number 212 = .ok (.getfield 36, 3) := by decide +kernel
theorem dX9_number_215 : decode cX9_number 215 = .ok (.aload_n 0, 1) := by decide +kernel
theorem dX9_number_216 : decode cX9_number 216 = .ok (.getfield 10, 3) := by decide +kernel
theorem dX9_number_219 : decode cX9_number 219 = .ok (.invokevirtual 315, 3) := by decide +kernel
theorem dX9_number_222 : decode cX9_number 222 = .ok (.aload_n 0, 1) := by decide +kernel
theorem dX9_number_223 : decode cX9_number 223 = .ok (.getfield 36, 3) := by decide +kernel
theorem dX9_number_226 : decode cX9_number 226 = .ok (.getfield 327, 3) := by decide +kernel
theorem dX9_number_229 : decode cX9_number 229 = .ok (.lreturn, 1) := by decide +kernel
theorem dX9_number_230 : decode cX9_number 230 = .ok (.aload_n 0, 1) := by decide +kernel
theorem dX9_number_231 : decode cX9_number 231 = .ok (.getfield 36, 3) := by decide +kernel
theorem dX9_number_234 : decode cX9_number 234 = .ok (.aload_n 0, 1) := by decide +kernel
theorem dX9_number_235 : decode cX9_number 235 = .ok (.getfield 10, 3) := by decide +kernel
theorem dX9_number_238 : decode cX9_number 238 = .ok (.invokevirtual 315, 3) := by decide +kernel
theorem dX9_number_241 : decode cX9_number 241 = .ok (.aload_n 0, 1) := by decide +kernel
theorem dX9_number_242 : decode cX9_number 242 = .ok (.getfield 10, 3) := by decide +kernel
theorem dX9_number_245 : decode cX9_number 245 = .ok (.getfield 73, 3) := by decide +kernel
theorem dX9_number_248 : decode cX9_number 248 = .ok (.getfield 160, 3) := by decide +kernel
theorem dX9_number_251 : decode cX9_number 251 = .ok (.aload_n 0, 1) := by decide +kernel
theorem dX9_number_252 : decode cX9_number 252 = .ok (.getfield 36, 3) := by decide +kernel
theorem dX9_number_255 : decode cX9_number 255 = .ok (.getfield 330, 3) := by decide +kernel
theorem dX9_number_258 : decode cX9_number 258 = .ok (.isub, 1) := by decide +kernel
theorem dX9_number_259 : decode cX9_number 259 = .ok (.i2l, 1) := by decide +kernel
theorem dX9_number_260 : decode cX9_number 260 = .ok (.lreturn, 1) := by decide +kernel
theorem dX9_number_261 : decode cX9_number 261 = .ok (.aload_n 0, 1) := by decide +kernel
theorem dX9_number_262 : decode cX9_number 262 = .ok (.invokevirtual 251, 3) := by decide +kernel
theorem dX9_number_265 : decode cX9_number 265 = .ok (.lreturn, 1) := by decide +kernel
theorem dX9_number_266 : decode cX9_number 266 = .ok (.aload_n 0, 1) := by decide +kernel
theorem dX9_number_267 : decode cX9_number 267 = .ok (.getfield 10, 3) := by decide +kernel
theorem dX9_number_270 : decode cX9_number 270 = .ok (.getfield 100, 3) := by decide +kernel
theorem dX9_number_273 : decode cX9_number 273 = .ok (.aload_n 0, 1) := by decide +kernel
theorem dX9_number_274 : decode cX9_number 274 = .ok (.getfield 10, 3) := by decide +kernel
theorem dX9_number_277 : decode cX9_number 277 = .ok (.getfield 91, 3) := by decide +kernel
theorem dX9_number_280 : decode cX9_number 280 = .ok (.iconst 2, 1) := by decide +kernel
theorem dX9_number_281 : decode cX9_number 281 = .ok (.iaload, 1) := by decide +kernel
theorem dX9_number_282 : decode cX9_number 282 = .ok (.invokevirtual 333, 3) := by decide +kernel
theorem dX9_number_285 : decode cX9_number 285 = .ok (.lreturn, 1) := by decide +kernel
theorem dX9_number_286 : decode cX9_number 286 = .ok (.aload_n 0, 1) := by decide +kernel
theorem dX9_number_287 : decode cX9_number 287 = .ok (.getfield 22, 3) := by decide +kernel
theorem dX9_number_290 : decode cX9_number 290 = .ok (.getfield 184, 3) := by decide +kernel
theorem dX9_number_293 : decode cX9_number 293 = .ok (.i2l, 1) := by decide +kernel
theorem dX9_number_294 : decode cX9_number 294 = .ok (.lreturn, 1) := by decide +kernel
theorem dX9_meanMinusArea_0 : decode cX9_meanMinusArea 0 = .ok (.aload_n 0, 1) := by decide +kernel
theorem dX9_meanMinusArea_1 : decode cX9_meanMinusArea 1 = .ok (.getfield 10, 3) := by decide +kernel
theorem dX9_meanMinusArea_4 : decode cX9_meanMinusArea 4 = .ok (.getfield 73, 3) := by decide +kernel
theorem dX9_meanMinusArea_7 : decode cX9_meanMinusArea 7 = .ok (.getfield 160, 3) := by decide +kernel
theorem dX9_meanMinusArea_10 : decode cX9_meanMinusArea 10 = .ok (.ifCond .ne 5, 3) := by decide +kernel
theorem dX9_meanMinusArea_13 : decode cX9_meanMinusArea 13 = .ok (.lconst 0, 1) := by decide +kernel
theorem dX9_meanMinusArea_14 : decode cX9_meanMinusArea 14 = .ok (.lreturn, 1) := by decide +kernel
theorem dX9_meanMinusArea_15 : decode cX9_meanMinusArea 15 = .ok (.aload_n 0, 1) := by decide +kernel
theorem dX9_meanMinusArea_16 : decode cX9_meanMinusArea 16 = .ok (.getfield 36, 3) := by decide +kernel
theorem dX9_meanMinusArea_19 : decode cX9_meanMinusArea 19 = .ok (.aload_n 0, 1) := by decide +kernel
theorem dX9_meanMinusArea_20 : decode cX9_meanMinusArea 20 = .ok (.getfield 10, 3) := by decide +kernel
theorem dX9_meanMinusArea_23 : decode cX9_meanMinusArea 23 = .ok (.invokevirtual 315, 3) := by decide +kernel
theorem dX9_meanMinusArea_26 : decode cX9_meanMinusArea 26 = .ok (.aload_n 0, 1) := by decide +kernel
theorem dX9_meanMinusArea_27 : decode cX9_meanMinusArea 27 = .ok (.getfield 36, 3) := by decide +kernel
theorem dX9_meanMinusArea_30 : decode cX9_meanMinusArea 30 = .ok (.getfield 327, 3) := by decide +kernel
theorem dX9_meanMinusArea_33 : decode cX9_meanMinusArea 33 = .ok (.aload_n 0, 1) := by decide +kernel
theorem dX9_meanMinusArea_34 : decode cX9_meanMinusArea 34 = .ok (.getfield 10, 3) := by decide +kernel
theorem dX9_meanMinusArea_37 : decode cX9_meanMinusArea 37 = .ok (.getfield 100, 3) := by decide +kernel
theorem dX9_meanMinusArea_40 : decode cX9_meanMinusArea 40 = .ok (.invokevirtual 247, 3) := by decide +kernel
theorem dX9_meanMinusArea_43 : decode cX9_meanMinusArea 43 = .ok (.lsub, 1) := by decide +kernel
theorem dX9_meanMinusArea_44 : decode cX9_meanMinusArea 44 = .ok (.lreturn, 1) := by decide +kernel
theorem dX9_quotient_0 : decode cX9_quotient 0 = .ok (.lload_n 2, 1) := by decide +kernel
theorem dX9_quotient_1 : decode cX9_quotient 1 = .ok (.lconst 0, 1) := by decide +kernel
theorem dX9_quotient_2 : decode cX9_quotient 2 = .ok (.lcmp, 1) := by decide +kernel
theorem dX9_quotient_3 : decode cX9_quotient 3 = .ok (.ifCond .ne 7, 3) := by decide +kernel
theorem dX9_quotient_6 : decode cX9_quotient 6 = .ok (.lconst 0, 1) := by decide +kernel
theorem dX9_quotient_7 : decode cX9_quotient 7 = .ok (.goto 6, 3) := by decide +kernel
theorem dX9_quotient_10 : decode cX9_quotient 10 = .ok (.lload_n 0, 1) := by decide +kernel
theorem dX9_quotient_11 : decode cX9_quotient 11 = .ok (.lload_n 2, 1) := by decide +kernel
theorem dX9_quotient_12 : decode cX9_quotient 12 = .ok (.ldiv, 1) := by decide +kernel
theorem dX9_quotient_13 : decode cX9_quotient 13 = .ok (.lreturn, 1) := by decide +kernel
theorem dX9_root_0 : decode cX9_root 0 = .ok (.lload_n 0, 1) := by decide +kernel
theorem dX9_root_1 : decode cX9_root 1 = .ok (.lconst 0, 1) := by decide +kernel
theorem dX9_root_2 : decode cX9_root 2 = .ok (.lcmp, 1) := by decide +kernel
theorem dX9_root_3 : decode cX9_root 3 = .ok (.ifCond .gt 5, 3) := by decide +kernel
theorem dX9_root_6 : decode cX9_root 6 = .ok (.lconst 0, 1) := by decide +kernel
theorem dX9_root_7 : decode cX9_root 7 = .ok (.lreturn, 1) := by decide +kernel
theorem dX9_root_8 : decode cX9_root 8 = .ok (.bipush 64, 2) := by decide +kernel
theorem dX9_root_10 : decode cX9_root 10 = .ok (.lload_n 0, 1) := by decide +kernel
theorem dX9_root_11 : decode cX9_root 11 = .ok (.invokestatic 358, 3) := by decide +kernel
theorem dX9_root_14 : decode cX9_root 14 = .ok (.isub, 1) := by decide +kernel
theorem dX9_root_15 : decode cX9_root 15 = .ok (.istore_n 2, 1) := by decide +kernel
theorem dX9_root_16 : decode cX9_root 16 = .ok (.lconst 1, 1) := by decide +kernel
theorem dX9_root_17 : decode cX9_root 17 = .ok (.iload_n 2, 1) := by decide +kernel
theorem dX9_root_18 : decode cX9_root 18 = .ok (.iconst 1, 1) := by decide +kernel
theorem dX9_root_19 : decode cX9_root 19 = .ok (.iadd, 1) := by decide +kernel
theorem dX9_root_20 : decode cX9_root 20 = .ok (.iconst 2, 1) := by decide +kernel
theorem dX9_root_21 : decode cX9_root 21 = .ok (.idiv, 1) := by decide +kernel
theorem dX9_root_22 : decode cX9_root 22 = .ok (.lshl, 1) := by decide +kernel
theorem dX9_root_23 : decode cX9_root 23 = .ok (.lstore_n 3, 1) := by decide +kernel
theorem dX9_root_24 : decode cX9_root 24 = .ok (.iconst 0, 1) := by decide +kernel
theorem dX9_root_25 : decode cX9_root 25 = .ok (.istore 5, 2) := by decide +kernel
theorem dX9_root_27 : decode cX9_root 27 = .ok (.iload 5, 2) := by decide +kernel
theorem dX9_root_29 : decode cX9_root 29 = .ok (.bipush 64, 2) := by decide +kernel
theorem dX9_root_31 : decode cX9_root 31 = .ok (.if_icmp .ge 35, 3) := by decide +kernel
theorem dX9_root_34 : decode cX9_root 34 = .ok (.lload_n 3, 1) := by decide +kernel
theorem dX9_root_35 : decode cX9_root 35 = .ok (.lload_n 0, 1) := by decide +kernel
theorem dX9_root_36 : decode cX9_root 36 = .ok (.lload_n 3, 1) := by decide +kernel
theorem dX9_root_37 : decode cX9_root 37 = .ok (.invokestatic 306, 3) := by decide +kernel
theorem dX9_root_40 : decode cX9_root 40 = .ok (.ladd, 1) := by decide +kernel
theorem dX9_root_41 : decode cX9_root 41 = .ok (.ldc2_w 364, 3) := by decide +kernel
theorem dX9_root_44 : decode cX9_root 44 = .ok (.ldiv, 1) := by decide +kernel
theorem dX9_root_45 : decode cX9_root 45 = .ok (.lstore 6, 2) := by decide +kernel
theorem dX9_root_47 : decode cX9_root 47 = .ok (.lload 6, 2) := by decide +kernel
theorem dX9_root_49 : decode cX9_root 49 = .ok (.lload_n 3, 1) := by decide +kernel
theorem dX9_root_50 : decode cX9_root 50 = .ok (.lcmp, 1) := by decide +kernel
theorem dX9_root_51 : decode cX9_root 51 = .ok (.ifCond .lt 6, 3) := by decide +kernel
theorem dX9_root_54 : decode cX9_root 54 = .ok (.goto 12, 3) := by decide +kernel
theorem dX9_root_57 : decode cX9_root 57 = .ok (.lload 6, 2) := by decide +kernel
theorem dX9_root_59 : decode cX9_root 59 = .ok (.lstore_n 3, 1) := by decide +kernel
theorem dX9_root_60 : decode cX9_root 60 = .ok (.iinc 5 1, 3) := by decide +kernel
theorem dX9_root_63 : decode cX9_root 63 = .ok (.goto (-36), 3) := by decide +kernel
theorem dX9_root_66 : decode cX9_root 66 = .ok (.lload_n 3, 1) := by decide +kernel
theorem dX9_root_67 : decode cX9_root 67 = .ok (.lreturn, 1) := by decide +kernel
theorem dX9_cross_0 : decode cX9_cross 0 = .ok (.lload 4, 2) := by decide +kernel
theorem dX9_cross_2 : decode cX9_cross 2 = .ok (.lload_n 0, 1) := by decide +kernel
theorem dX9_cross_3 : decode cX9_cross 3 = .ok (.lsub, 1) := by decide +kernel
theorem dX9_cross_4 : decode cX9_cross 4 = .ok (.lload 10, 2) := by decide +kernel
theorem dX9_cross_6 : decode cX9_cross 6 = .ok (.lload_n 2, 1) := by decide +kernel
theorem dX9_cross_7 : decode cX9_cross 7 = .ok (.lsub, 1) := by decide +kernel
theorem dX9_cross_8 : decode cX9_cross 8 = .ok (.lmul, 1) := by decide +kernel
theorem dX9_cross_9 : decode cX9_cross 9 = .ok (.lload 6, 2) := by decide +kernel
theorem dX9_cross_11 : decode cX9_cross 11 = .ok (.lload_n 2, 1) := by decide +kernel
theorem dX9_cross_12 : decode cX9_cross 12 = .ok (.lsub, 1) := by decide +kernel
theorem dX9_cross_13 : decode cX9_cross 13 = .ok (.lload 8, 2) := by decide +kernel
theorem dX9_cross_15 : decode cX9_cross 15 = .ok (.lload_n 0, 1) := by decide +kernel
theorem dX9_cross_16 : decode cX9_cross 16 = .ok (.lsub, 1) := by decide +kernel
theorem dX9_cross_17 : decode cX9_cross 17 = .ok (.lmul, 1) := by decide +kernel
theorem dX9_cross_18 : decode cX9_cross 18 = .ok (.lsub, 1) := by decide +kernel
theorem dX9_cross_19 : decode cX9_cross 19 = .ok (.lreturn, 1) := by decide +kernel
theorem dX9_isBetween_0 : decode cX9_isBetween 0 = .ok (.iload_n 0, 1) := by decide +kernel
theorem dX9_isBetween_1 : decode cX9_isBetween 1 = .ok (.iload_n 1, 1) := by decide +kernel
theorem dX9_isBetween_2 : decode cX9_isBetween 2 = .ok (.iload_n 2, 1) := by decide +kernel
theorem dX9_isBetween_3 : decode cX9_isBetween 3 = .ok (.invokestatic 366, 3) := by decide +kernel
theorem dX9_isBetween_6 : decode cX9_isBetween 6 = .ok (.if_icmp .lt 16, 3) := by decide +kernel
theorem dX9_isBetween_9 : decode cX9_isBetween 9 = .ok (.iload_n 0, 1) := by decide +kernel
theorem dX9_isBetween_10 : decode cX9_isBetween 10 = .ok (.iload_n 1, 1) := by decide +kernel
theorem dX9_isBetween_11 : decode cX9_isBetween 11 = .ok (.iload_n 2, 1) := by decide +kernel
theorem dX9_isBetween_12 : decode cX9_isBetween 12 = .ok (.invokestatic 369, 3) := by decide +kernel
theorem dX9_isBetween_15 : decode cX9_isBetween 15 = .ok (.if_icmp .gt 7, 3) := by decide +kernel
theorem dX9_isBetween_18 : decode cX9_isBetween 18 = .ok (.iconst 1, 1) := by decide +kernel
theorem dX9_isBetween_19 : decode cX9_isBetween 19 = .ok (.goto 4, 3) := by decide +kernel
theorem dX9_isBetween_22 : decode cX9_isBetween 22 = .ok (.iconst 0, 1) := by decide +kernel
theorem dX9_isBetween_23 : decode cX9_isBetween 23 = .ok (.ireturn, 1) := by decide +kernel
