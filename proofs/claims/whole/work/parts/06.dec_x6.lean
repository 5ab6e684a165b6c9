theorem dX6_init_0 : decode cX6_init 0 = .ok (.aload_n 0, 1) := by decide +kernel
theorem dX6_init_1 : decode cX6_init 1 = .ok (.invokespecial 3, 3) := by decide +kernel
theorem dX6_init_4 : decode cX6_init 4 = .ok (.aload_n 0, 1) := by decide +kernel
theorem dX6_init_5 : decode cX6_init 5 = .ok (.new 9, 3) := by decide +kernel
theorem dX6_init_8 : decode cX6_init 8 = .ok (.dup, 1) := by decide +kernel
theorem dX6_init_9 : decode cX6_init 9 = .ok (.invokespecial 11, 3) := by decide +kernel
theorem dX6_init_12 : decode cX6_init 12 = .ok (.putfield 12, 3) := by decide +kernel
theorem dX6_init_15 : decode cX6_init 15 = .ok (.aload_n 0, 1) := by decide +kernel
theorem dX6_init_16 : decode cX6_init 16 = .ok (.iconst 0, 1) := by decide +kernel
theorem dX6_init_17 : decode cX6_init 17 = .ok (.putfield 16, 3) := by decide +kernel
theorem dX6_init_20 : decode cX6_init 20 = .ok (.aload_n 0, 1) := by decide +kernel
theorem dX6_init_21 : decode cX6_init 21 = .ok (.bipush 96, 2) := by decide +kernel
theorem dX6_init_23 : decode cX6_init 23 = .ok (.newarray .int, 2) := by decide +kernel
theorem dX6_init_25 : decode cX6_init 25 = .ok (.putfield 20, 3) := by decide +kernel
theorem dX6_init_28 : decode cX6_init 28 = .ok (.aload_n 0, 1) := by decide +kernel
theorem dX6_init_29 : decode cX6_init 29 = .ok (.iconst 0, 1) := by decide +kernel
theorem dX6_init_30 : decode cX6_init 30 = .ok (.putfield 24, 3) := by decide +kernel
theorem dX6_init_33 : decode cX6_init 33 = .ok (.aload_n 0, 1) := by decide +kernel
theorem dX6_init_34 : decode cX6_init 34 = .ok (.bipush 6, 2) := by decide +kernel
theorem dX6_init_36 : decode cX6_init 36 = .ok (.newarray .int, 2) := by decide +kernel
theorem dX6_init_38 : decode cX6_init 38 = .ok (.putfield 28, 3) := by decide +kernel
theorem dX6_init_41 : decode cX6_init 41 = .ok (.aload_n 0, 1) := by decide +kernel
theorem dX6_init_42 : decode cX6_init 42 = .ok (.new 31, 3) := by decide +kernel
theorem dX6_init_45 : decode cX6_init 45 = .ok (.dup, 1) := by decide +kernel
theorem dX6_init_46 : decode cX6_init 46 = .ok (.invokespecial 33, 3) := by decide +kernel
theorem dX6_init_49 : decode cX6_init 49 = .ok (.putfield 34, 3) := by decide +kernel
theorem dX6_init_52 : decode cX6_init 52 = .ok (.aload_n 0, 1) := by decide +kernel
theorem dX6_init_53 : decode cX6_init 53 = .ok (.new 31, 3) := by decide +kernel
theorem dX6_init_56 : decode cX6_init 56 = .ok (.dup, 1) := by decide +kernel
theorem dX6_init_57 : decode cX6_init 57 = .ok (.invokespecial 33, 3) := by decide +kernel
theorem dX6_init_60 : decode cX6_init 60 = .ok (.putfield 38, 3) := by decide +kernel
theorem dX6_init_63 : decode cX6_init 63 = .ok (.aload_n 0, 1) := by decide +kernel
theorem dX6_init_64 : decode cX6_init 64 = .ok (.new 31, 3) := by decide +kernel
theorem dX6_init_67 : decode cX6_init 67 = .ok (.dup, 1) := by decide +kernel
theorem dX6_init_68 : decode cX6_init 68 = .ok (.invokespecial 33, 3) := by decide +kernel
theorem dX6_init_71 : decode cX6_init 71 = .ok (.putfield 41, 3) := by decide +kernel
theorem dX6_init_74 : decode cX6_init 74 = .ok (.aload_n 0, 1) := by decide +kernel
theorem dX6_init_75 : decode cX6_init 75 = .ok (.new 31, 3) := by decide +kernel
theorem dX6_init_78 : decode cX6_init 78 = .ok (.dup, 1) := by decide +kernel
theorem dX6_init_79 : decode cX6_init 79 = .ok (.invokespecial 33, 3) := by decide +kernel
theorem dX6_init_82 : decode cX6_init 82 = .ok (.putfield 44, 3) := by decide +kernel
theorem dX6_init_85 : decode cX6_init 85 = .ok (.new 47, 3) := by decide +kernel
theorem dX6_init_88 : decode cX6_init 88 = .ok (.dup, 1) := by decide +kernel
theorem dX6_init_89 : decode cX6_init 89 = .ok (.invokespecial 49, 3) := by decide +kernel
theorem dX6_init_92 : decode cX6_init 92 = .ok (.astore_n 1, 1) := by decide +kernel
theorem dX6_init_93 : decode cX6_init 93 = .ok (.aload_n 0, 1) := by decide +kernel
theorem dX6_init_94 : decode cX6_init 94 = .ok (.aload_n 1, 1) := by decide +kernel
theorem dX6_init_95 : decode cX6_init 95 = .ok (.putfield 50, 3) := by decide +kernel
theorem dX6_init_98 : decode cX6_init 98 = .ok (.aload_n 0, 1) := by decide +kernel
theorem dX6_init_99 : decode cX6_init 99 = .ok (.new 54, 3) := by decide +kernel
theorem dX6_init_102 : decode cX6_init 102 = .ok (.dup, 1) := by decide +kernel
theorem dX6_init_103 : decode cX6_init 103 = .ok (.aload_n 1, 1) := by decide +kernel
theorem dX6_init_104 : decode cX6_init 104 = .ok (.invokespecial 56, 3) := by decide +kernel
theorem dX6_init_107 : decode cX6_init 107 = .ok (.putfield 59, 3) := by decide +kernel
theorem dX6_init_110 : decode cX6_init 110 = .ok (.aload_n 0, 1) := by decide +kernel
theorem dX6_init_111 : decode cX6_init 111 = .ok (.new 54, 3) := by decide +kernel
theorem dX6_init_114 : decode cX6_init 114 = .ok (.dup, 1) := by decide +kernel
theorem dX6_init_115 : decode cX6_init 115 = .ok (.aload_n 1, 1) := by decide +kernel
theorem dX6_init_116 : decode cX6_init 116 = .ok (.invokespecial 56, 3) := by decide +kernel
theorem dX6_init_119 : decode cX6_init 119 = .ok (.putfield 63, 3) := by decide +kernel
theorem dX6_init_122 : decode cX6_init 122 = .ok (.aload_n 0, 1) := by decide +kernel
theorem dX6_init_123 : decode cX6_init 123 = .ok (.getfield 28, 3) := by decide +kernel
theorem dX6_init_126 : decode cX6_init 126 = .ok (.iconst (-1), 1) := by decide +kernel
theorem dX6_init_127 : decode cX6_init 127 = .ok (.invokestatic 66, 3) := by decide +kernel
theorem dX6_init_130 : decode cX6_init 130 = .ok (.return_, 1) := by decide +kernel
theorem dX6_type_0 : decode cX6_type 0 = .ok (.iload_n 1, 1) := by decide +kernel
theorem dX6_type_1 : decode cX6_type 1 = .ok (.bipush 10, 2) := by decide +kernel
theorem dX6_type_3 : decode cX6_type 3 = .ok (.invokestatic 72, 3) := by decide +kernel
theorem dX6_type_6 : decode cX6_type 6 = .ok (.ifCond .ne 13, 3) := by decide +kernel
theorem dX6_type_9 : decode cX6_type 9 = .ok (.iload_n 2, 1) := by decide +kernel
theorem dX6_type_10 : decode cX6_type 10 = .ok (.sipush 256, 3) := by decide +kernel
theorem dX6_type_13 : decode cX6_type 13 = .ok (.invokestatic 72, 3) := by decide +kernel
theorem dX6_type_16 : decode cX6_type 16 = .ok (.ifCond .eq 6, 3) := by decide +kernel
theorem dX6_type_19 : decode cX6_type 19 = .ok (.bipush (-2), 2) := by decide +kernel
theorem dX6_type_21 : decode cX6_type 21 = .ok (.ireturn, 1) := by decide +kernel
theorem dX6_type_22 : decode cX6_type 22 = .ok (.aload_n 0, 1) := by decide +kernel
theorem dX6_type_23 : decode cX6_type 23 = .ok (.getfield 50, 3) := by decide +kernel
theorem dX6_type_26 : decode cX6_type 26 = .ok (.iload_n 1, 1) := by decide +kernel
theorem dX6_type_27 : decode cX6_type 27 = .ok (.iload_n 2, 1) := by decide +kernel
theorem dX6_type_28 : decode cX6_type 28 = .ok (.invokevirtual 76, 3) := by decide +kernel
theorem dX6_type_31 : decode cX6_type 31 = .ok (.ifCond .ne 6, 3) := by decide +kernel
theorem dX6_type_34 : decode cX6_type 34 = .ok (.bipush (-4), 2) := by decide +kernel
theorem dX6_type_36 : decode cX6_type 36 = .ok (.ireturn, 1) := by decide +kernel
theorem dX6_type_37 : decode cX6_type 37 = .ok (.aload_n 0, 1) := by decide +kernel
theorem dX6_type_38 : decode cX6_type 38 = .ok (.iload_n 1, 1) := by decide +kernel
theorem dX6_type_39 : decode cX6_type 39 = .ok (.invokevirtual 79, 3) := by decide +kernel
theorem dX6_type_42 : decode cX6_type 42 = .ok (.aload_n 0, 1) := by decide +kernel
theorem dX6_type_43 : decode cX6_type 43 = .ok (.getfield 50, 3) := by decide +kernel
theorem dX6_type_46 : decode cX6_type 46 = .ok (.iload_n 1, 1) := by decide +kernel
theorem dX6_type_47 : decode cX6_type 47 = .ok (.invokevirtual 83, 3) := by decide +kernel
theorem dX6_type_50 : decode cX6_type 50 = .ok (.ireturn, 1) := by decide +kernel
theorem dX6_wipe_0 : decode cX6_wipe 0 = .ok (.iload_n 1, 1) := by decide +kernel
theorem dX6_wipe_1 : decode cX6_wipe 1 = .ok (.bipush 10, 2) := by decide +kernel
theorem dX6_wipe_3 : decode cX6_wipe 3 = .ok (.invokestatic 72, 3) := by decide +kernel
theorem dX6_wipe_6 : decode cX6_wipe 6 = .ok (.ifCond .eq 6, 3) := by decide +kernel
theorem dX6_wipe_9 : decode cX6_wipe 9 = .ok (.bipush (-2), 2) := by decide +kernel
theorem dX6_wipe_11 : decode cX6_wipe 11 = .ok (.ireturn, 1) := by decide +kernel
theorem dX6_wipe_12 : decode cX6_wipe 12 = .ok (.aload_n 0, 1) := by decide +kernel
theorem dX6_wipe_13 : decode cX6_wipe 13 = .ok (.getfield 50, 3) := by decide +kernel
theorem dX6_wipe_16 : decode cX6_wipe 16 = .ok (.iload_n 1, 1) := by decide +kernel
theorem dX6_wipe_17 : decode cX6_wipe 17 = .ok (.invokevirtual 83, 3) := by decide +kernel
theorem dX6_wipe_20 : decode cX6_wipe 20 = .ok (.istore_n 2, 1) := by decide +kernel
theorem dX6_wipe_21 : decode cX6_wipe 21 = .ok (.aload_n 0, 1) := by decide +kernel
theorem dX6_wipe_22 : decode cX6_wipe 22 = .ok (.getfield 50, 3) := by decide +kernel
theorem dX6_wipe_25 : decode cX6_wipe 25 = .ok (.iload_n 1, 1) := by decide +kernel
theorem dX6_wipe_26 : decode cX6_wipe 26 = .ok (.iconst 0, 1) := by decide +kernel
theorem dX6_wipe_27 : decode cX6_wipe 27 = .ok (.invokevirtual 87, 3) := by decide +kernel
theorem dX6_wipe_30 : decode cX6_wipe 30 = .ok (.aload_n 0, 1) := by decide +kernel
theorem dX6_wipe_31 : decode cX6_wipe 31 = .ok (.iload_n 1, 1) := by decide +kernel
theorem dX6_wipe_32 : decode cX6_wipe 32 = .ok (.invokevirtual 79, 3) := by decide +kernel
theorem dX6_wipe_35 : decode cX6_wipe 35 = .ok (.iload_n 2, 1) := by decide +kernel
theorem dX6_wipe_36 : decode cX6_wipe 36 = .ok (.ireturn, 1) := by decide +kernel
theorem dX6_undo_0 : decode cX6_undo 0 = .ok (.iload_n 1, 1) := by decide +kernel
theorem dX6_undo_1 : decode cX6_undo 1 = .ok (.bipush 10, 2) := by decide +kernel
theorem dX6_undo_3 : decode cX6_undo 3 = .ok (.invokestatic 72, 3) := by decide +kernel
theorem dX6_undo_6 : decode cX6_undo 6 = .ok (.ifCond .eq 6, 3) := by decide +kernel
theorem dX6_undo_9 : decode cX6_undo 9 = .ok (.bipush (-2), 2) := by decide +kernel
theorem dX6_undo_11 : decode cX6_undo 11 = .ok (.ireturn, 1) := by decide +kernel
theorem dX6_undo_12 : decode cX6_undo 12 = .ok (.aload_n 0, 1) := by decide +kernel
theorem dX6_undo_13 : decode cX6_undo 13 = .ok (.getfield 50, 3) := by decide +kernel
theorem dX6_undo_16 : decode cX6_undo 16 = .ok (.iload_n 1, 1) := by decide +kernel
theorem dX6_undo_17 : decode cX6_undo 17 = .ok (.invokevirtual 83, 3) := by decide +kernel
theorem dX6_undo_20 : decode cX6_undo 20 = .ok (.istore_n 2, 1) := by decide +kernel
theorem dX6_undo_21 : decode cX6_undo 21 = .ok (.iload_n 2, 1) := by decide +kernel
theorem dX6_undo_22 : decode cX6_undo 22 = .ok (.ifCond .ne 6, 3) := by decide +kernel
theorem dX6_undo_25 : decode cX6_undo 25 = .ok (.bipush (-3), 2) := by decide +kernel
theorem dX6_undo_27 : decode cX6_undo 27 = .ok (.ireturn, 1) := by decide +kernel
theorem dX6_undo_28 : decode cX6_undo 28 = .ok (.aload_n 0, 1) := by decide +kernel
theorem dX6_undo_29 : decode cX6_undo 29 = .ok (.getfield 50, 3) := by decide +kernel
theorem dX6_undo_32 : decode cX6_undo 32 = .ok (.iload_n 1, 1) := by decide +kernel
theorem dX6_undo_33 : decode cX6_undo 33 = .ok (.iload_n 2, 1) := by decide +kernel
theorem dX6_undo_34 : decode cX6_undo 34 = .ok (.iconst 1, 1) := by decide +kernel
theorem dX6_undo_35 : decode cX6_undo 35 = .ok (.isub, 1) := by decide +kernel
theorem dX6_undo_36 : decode cX6_undo 36 = .ok (.invokevirtual 87, 3) := by decide +kernel
theorem dX6_undo_39 : decode cX6_undo 39 = .ok (.aload_n 0, 1) := by decide +kernel
theorem dX6_undo_40 : decode cX6_undo 40 = .ok (.iload_n 1, 1) := by decide +kernel
theorem dX6_undo_41 : decode cX6_undo 41 = .ok (.invokevirtual 79, 3) := by decide +kernel
theorem dX6_undo_44 : decode cX6_undo 44 = .ok (.iload_n 2, 1) := by decide +kernel
theorem dX6_undo_45 : decode cX6_undo 45 = .ok (.iconst 1, 1) := by decide +kernel
theorem dX6_undo_46 : decode cX6_undo 46 = .ok (.isub, 1) := by decide +kernel
theorem dX6_undo_47 : decode cX6_undo 47 = .ok (.ireturn, 1) := by decide +kernel
theorem dX6_fault_0 : decode cX6_fault 0 = .ok (.iload_n 1, 1) := by decide +kernel
theorem dX6_fault_1 : decode cX6_fault 1 = .ok (.bipush 10, 2) := by decide +kernel
theorem dX6_fault_3 : decode cX6_fault 3 = .ok (.invokestatic 72, 3) := by decide +kernel
theorem dX6_fault_6 : decode cX6_fault 6 = .ok (.ifCond .eq 8, 3) := by decide +kernel
theorem dX6_fault_9 : decode cX6_fault 9 = .ok (.bipush (-2), 2) := by decide +kernel
theorem dX6_fault_11 : decode cX6_fault 11 = .ok (.goto 11, 3) := by decide +kernel
theorem dX6_fault_14 : decode cX6_fault 14 = .ok (.aload_n 0, 1) := by decide +kernel
theorem dX6_fault_15 : decode cX6_fault 15 = .ok (.getfield 50, 3) := by decide +kernel
theorem dX6_fault_18 : decode cX6_fault 18 = .ok (.iload_n 1, 1) := by decide +kernel
theorem dX6_fault_19 : decode cX6_fault 19 = .ok (.invokevirtual 91, 3) := by decide +kernel
theorem dX6_fault_22 : decode cX6_fault 22 = .ok (.ireturn, 1) := by decide +kernel
theorem dX6_read_0 : decode cX6_read 0 = .ok (.iload_n 1, 1) := by decide +kernel
theorem dX6_read_1 : decode cX6_read 1 = .ok (.bipush 10, 2) := by decide +kernel
theorem dX6_read_3 : decode cX6_read 3 = .ok (.invokestatic 72, 3) := by decide +kernel
theorem dX6_read_6 : decode cX6_read 6 = .ok (.ifCond .ne 11, 3) := by decide +kernel
theorem dX6_read_9 : decode cX6_read 9 = .ok (.iload_n 2, 1) := by decide +kernel
theorem dX6_read_10 : decode cX6_read 10 = .ok (.iconst 4, 1) := by decide +kernel
theorem dX6_read_11 : decode cX6_read 11 = .ok (.invokestatic 72, 3) := by decide +kernel
theorem dX6_read_14 : decode cX6_read 14 = .ok (.ifCond .eq 6, 3) := by decide +kernel
theorem dX6_read_17 : decode cX6_read 17 = .ok (.bipush (-2), 2) := by decide +kernel
theorem dX6_read_19 : decode cX6_read 19 = .ok (.ireturn, 1) := by decide +kernel
theorem dX6_read_20 : decode cX6_read 20 = .ok (.aload_n 0, 1) := by decide +kernel
theorem dX6_read_21 : decode cX6_read 21 = .ok (.getfield 12, 3) := by decide +kernel
theorem dX6_read_24 : decode cX6_read 24 = .ok (.iload_n 2, 1) := by decide +kernel
theorem dX6_read_25 : decode cX6_read 25 = .ok (.invokevirtual 94, 3) := by decide +kernel
theorem dX6_read_28 : decode cX6_read 28 = .ok (.ifCond .eq 12, 3) := by decide +kernel
theorem dX6_read_31 : decode cX6_read 31 = .ok (.aload_n 0, 1) := by decide +kernel
theorem dX6_read_32 : decode cX6_read 32 = .ok (.getfield 12, 3) := by decide +kernel
theorem dX6_read_35 : decode cX6_read 35 = .ok (.iconst 1, 1) := by decide +kernel
theorem dX6_read_36 : decode cX6_read 36 = .ok (.invokevirtual 98, 3) := by decide +kernel
theorem dX6_read_39 : decode cX6_read 39 = .ok (.ireturn, 1) := by decide +kernel
theorem dX6_read_40 : decode cX6_read 40 = .ok (.aload_n 0, 1) := by decide +kernel
theorem dX6_read_41 : decode cX6_read 41 = .ok (.getfield 12, 3) := by decide +kernel
theorem dX6_read_44 : decode cX6_read 44 = .ok (.iload_n 2, 1) := by decide +kernel
theorem dX6_read_45 : decode cX6_read 45 = .ok (.invokevirtual 101, 3) := by decide +kernel
theorem dX6_read_48 : decode cX6_read 48 = .ok (.istore_n 3, 1) := by decide +kernel
theorem dX6_read_49 : decode cX6_read 49 = .ok (.iconst 0, 1) := by decide +kernel
theorem dX6_read_50 : decode cX6_read 50 = .ok (.istore 4, 2) := by decide +kernel
theorem dX6_read_52 : decode cX6_read 52 = .ok (.iconst 0, 1) := by decide +kernel
theorem dX6_read_53 : decode cX6_read 53 = .ok (.istore 5, 2) := by decide +kernel
theorem dX6_read_55 : decode cX6_read 55 = .ok (.iload 5, 2) := by decide +kernel
theorem dX6_read_57 : decode cX6_read 57 = .ok (.iload_n 3, 1) := by decide +kernel
theorem dX6_read_58 : decode cX6_read 58 = .ok (.if_icmp .ge 51, 3) := by decide +kernel
theorem dX6_read_61 : decode cX6_read 61 = .ok (.aload_n 0, 1) := by decide +kernel
theorem dX6_read_62 : decode cX6_read 62 = .ok (.getfield 12, 3) := by decide +kernel
theorem dX6_read_65 : decode cX6_read 65 = .ok (.iload_n 2, 1) := by decide +kernel
theorem dX6_read_66 : decode cX6_read 66 = .ok (.iload 5, 2) := by decide +kernel
theorem dX6_read_68 : decode cX6_read 68 = .ok (.invokevirtual 104, 3) := by decide +kernel
theorem dX6_read_71 : decode cX6_read 71 = .ok (.istore 6, 2) := by decide +kernel
theorem dX6_read_73 : decode cX6_read 73 = .ok (.iload 6, 2) := by decide +kernel
theorem dX6_read_75 : decode cX6_read 75 = .ok (.sipush 256, 3) := by decide +kernel
theorem dX6_read_78 : decode cX6_read 78 = .ok (.invokestatic 72, 3) := by decide +kernel
theorem dX6_read_81 : decode cX6_read 81 = .ok (.ifCond .ne 28, 3) := by decide +kernel
theorem dX6_read_84 : decode cX6_read 84 = .ok (.aload_n 0, 1) := by decide +kernel
theorem dX6_read_85 : decode cX6_read 85 = .ok (.getfield 50, 3) := by decide +kernel
theorem dX6_read_88 : decode cX6_read 88 = .ok (.iload_n 1, 1) := by decide +kernel
theorem dX6_read_89 : decode cX6_read 89 = .ok (.iload 6, 2) := by decide +kernel
theorem dX6_read_91 : decode cX6_read 91 = .ok (.invokevirtual 76, 3) := by decide +kernel
theorem dX6_read_94 : decode cX6_read 94 = .ok (.ifCond .ne 6, 3) := by decide +kernel
theorem dX6_read_97 : decode cX6_read 97 = .ok (.goto 12, 3) := by decide +kernel
theorem dX6_read_100 : decode cX6_read 100 = .ok (.iinc 4 1, 3) := by decide +kernel
theorem dX6_read_103 : decode cX6_read 103 = .ok (.iinc 5 1, 3) := by decide +kernel
theorem dX6_read_106 : decode cX6_read 106 = .ok (.goto (-51), 3) := by decide +kernel
theorem dX6_read_109 : decode cX6_read 109 = .ok (.aload_n 0, 1) := by decide +kernel
theorem dX6_read_110 : decode cX6_read 110 = .ok (.iload_n 1, 1) := by decide +kernel
theorem dX6_read_111 : decode cX6_read 111 = .ok (.invokevirtual 79, 3) := by decide +kernel
theorem dX6_read_114 : decode cX6_read 114 = .ok (.iload 4, 2) := by decide +kernel
theorem dX6_read_116 : decode cX6_read 116 = .ok (.ireturn, 1) := by decide +kernel
theorem dX6_turn_0 : decode cX6_turn 0 = .ok (.iload_n 1, 1) := by decide +kernel
theorem dX6_turn_1 : decode cX6_turn 1 = .ok (.bipush 6, 2) := by decide +kernel
theorem dX6_turn_3 : decode cX6_turn 3 = .ok (.invokestatic 72, 3) := by decide +kernel
theorem dX6_turn_6 : decode cX6_turn 6 = .ok (.ifCond .ne 11, 3) := by decide +kernel
theorem dX6_turn_9 : decode cX6_turn 9 = .ok (.iload_n 2, 1) := by decide +kernel
theorem dX6_turn_10 : decode cX6_turn 10 = .ok (.iconst 2, 1) := by decide +kernel
theorem dX6_turn_11 : decode cX6_turn 11 = .ok (.invokestatic 72, 3) := by decide +kernel
theorem dX6_turn_14 : decode cX6_turn 14 = .ok (.ifCond .eq 6, 3) := by decide +kernel
theorem dX6_turn_17 : decode cX6_turn 17 = .ok (.bipush (-2), 2) := by decide +kernel
theorem dX6_turn_19 : decode cX6_turn 19 = .ok (.ireturn, 1) := by decide +kernel
theorem dX6_turn_20 : decode cX6_turn 20 = .ok (.iload_n 2, 1) := by decide +kernel
theorem dX6_turn_21 : decode cX6_turn 21 = .ok (.ifCond .ne 17, 3) := by decide +kernel
theorem dX6_turn_24 : decode cX6_turn 24 = .ok (.aload_n 0, 1) := by decide +kernel
theorem dX6_turn_25 : decode cX6_turn 25 = .ok (.getfield 50, 3) := by decide +kernel
theorem dX6_turn_28 : decode cX6_turn 28 = .ok (.getfield 108, 3) := by decide +kernel
theorem dX6_turn_31 : decode cX6_turn 31 = .ok (.iload_n 1, 1) := by decide +kernel
theorem dX6_turn_32 : decode cX6_turn 32 = .ok (.invokestatic 111, 3) := by decide +kernel
theorem dX6_turn_35 : decode cX6_turn 35 = .ok (.goto 14, 3) := by decide +kernel
theorem dX6_turn_38 : decode cX6_turn 38 = .ok (.aload_n 0, 1) := by decide +kernel
theorem dX6_turn_39 : decode cX6_turn 39 = .ok (.getfield 50, 3) := by decide +kernel
theorem dX6_turn_42 : decode cX6_turn 42 = .ok (.getfield 108, 3) := by decide +kernel
theorem dX6_turn_45 : decode cX6_turn 45 = .ok (.iload_n 1, 1) := by decide +kernel
theorem dX6_turn_46 : decode cX6_turn 46 = .ok (.invokestatic 116, 3) := by decide +kernel
theorem dX6_turn_49 : decode cX6_turn 49 = .ok (.ireturn, 1) := by decide +kernel
theorem dX6_power_0 : decode cX6_power 0 = .ok (.iload_n 1, 1) := by decide +kernel
theorem dX6_power_1 : decode cX6_power 1 = .ok (.bipush 6, 2) := by decide +kernel
theorem dX6_power_3 : decode cX6_power 3 = .ok (.invokestatic 72, 3) := by decide +kernel
theorem dX6_power_6 : decode cX6_power 6 = .ok (.ifCond .eq 6, 3) := by decide +kernel
theorem dX6_power_9 : decode cX6_power 9 = .ok (.bipush (-2), 2) := by decide +kernel
theorem dX6_power_11 : decode cX6_power 11 = .ok (.ireturn, 1) := by decide +kernel
theorem dX6_power_12 : decode cX6_power 12 = .ok (.iload_n 2, 1) := by decide +kernel
theorem dX6_power_13 : decode cX6_power 13 = .ok (.bipush 60, 2) := by decide +kernel
theorem dX6_power_15 : decode cX6_power 15 = .ok (.invokestatic 119, 3) := by decide +kernel
theorem dX6_power_18 : decode cX6_power 18 = .ok (.istore_n 3, 1) := by decide +kernel
theorem dX6_power_19 : decode cX6_power 19 = .ok (.iload_n 1, 1) := by decide +kernel
theorem dX6_power_20 : decode cX6_power 20 = .ok (.istore 4, 2) := by decide +kernel
theorem dX6_power_22 : decode cX6_power 22 = .ok (.iconst 0, 1) := by decide +kernel
theorem dX6_power_23 : decode cX6_power 23 = .ok (.istore 5, 2) := by decide +kernel
theorem dX6_power_25 : decode cX6_power 25 = .ok (.iload 5, 2) := by decide +kernel
theorem dX6_power_27 : decode cX6_power 27 = .ok (.iload_n 3, 1) := by decide +kernel
theorem dX6_power_28 : decode cX6_power 28 = .ok (.if_icmp .ge 23, 3) := by decide +kernel
theorem dX6_power_31 : decode cX6_power 31 = .ok (.aload_n 0, 1) := by decide +kernel
theorem dX6_power_32 : decode cX6_power 32 = .ok (.getfield 50, 3) := by decide +kernel
theorem dX6_power_35 : decode cX6_power 35 = .ok (.getfield 108, 3) := by decide +kernel
theorem dX6_power_38 : decode cX6_power 38 = .ok (.iload 4, 2) := by decide +kernel
theorem dX6_power_40 : decode cX6_power 40 = .ok (.invokestatic 111, 3) := by decide +kernel
theorem dX6_power_43 : decode cX6_power 43 = .ok (.istore 4, 2) := by decide +kernel
theorem dX6_power_45 : decode cX6_power 45 = .ok (.iinc 5 1, 3) := by decide +kernel
theorem dX6_power_48 : decode cX6_power 48 = .ok (.goto (-23), 3) := by decide +kernel
theorem dX6_power_51 : decode cX6_power 51 = .ok (.iload 4, 2) := by decide +kernel
theorem dX6_power_53 : decode cX6_power 53 = .ok (.ireturn, 1) := by decide +kernel
theorem dX6_rounds_0 : decode cX6_rounds 0 = .ok (.aload_n 0, 1) := by decide +kernel
theorem dX6_rounds_1 : decode cX6_rounds 1 = .ok (.getfield 50, 3) := by decide +kernel
theorem dX6_rounds_4 : decode cX6_rounds 4 = .ok (.getfield 108, 3) := by decide +kernel
theorem dX6_rounds_7 : decode cX6_rounds 7 = .ok (.istore_n 2, 1) := by decide +kernel
theorem dX6_rounds_8 : decode cX6_rounds 8 = .ok (.iload_n 2, 1) := by decide +kernel
theorem dX6_rounds_9 : decode cX6_rounds 9 = .ok (.ldc 124, 2) := by decide +kernel
theorem dX6_rounds_11 : decode cX6_rounds 11 = .ok (.invokestatic 125, 3) := by decide +kernel
theorem dX6_rounds_14 : decode cX6_rounds 14 = .ok (.istore_n 3, 1) := by decide +kernel
theorem dX6_rounds_15 : decode cX6_rounds 15 = .ok (.iload_n 1, 1) := by decide +kernel
theorem dX6_rounds_16 : decode cX6_rounds 16 = .ok (.tableswitch 69 0 3 #[32, 37, 52, 62], 32) := by decide +kernel
theorem dX6_rounds_48 : decode cX6_rounds 48 = .ok (.iload_n 2, 1) := by decide +kernel
theorem dX6_rounds_49 : decode cX6_rounds 49 = .ok (.invokestatic 128, 3) := by decide +kernel
theorem dX6_rounds_52 : decode cX6_rounds 52 = .ok (.ireturn, 1) := by decide +kernel
theorem dX6_rounds_53 : decode cX6_rounds 53 = .ok (.iload_n 2, 1) := by decide +kernel
theorem dX6_rounds_54 : decode cX6_rounds 54 = .ok (.invokestatic 131, 3) := by decide +kernel
theorem dX6_rounds_57 : decode cX6_rounds 57 = .ok (.iconst 2, 1) := by decide +kernel
theorem dX6_rounds_58 : decode cX6_rounds 58 = .ok (.irem, 1) := by decide +kernel
theorem dX6_rounds_59 : decode cX6_rounds 59 = .ok (.ifCond .ne 7, 3) := by decide +kernel
theorem dX6_rounds_62 : decode cX6_rounds 62 = .ok (.iconst 1, 1) := by decide +kernel
theorem dX6_rounds_63 : decode cX6_rounds 63 = .ok (.goto 4, 3) := by decide +kernel
theorem dX6_rounds_66 : decode cX6_rounds 66 = .ok (.iconst 0, 1) := by decide +kernel
theorem dX6_rounds_67 : decode cX6_rounds 67 = .ok (.ireturn, 1) := by decide +kernel
theorem dX6_rounds_68 : decode cX6_rounds 68 = .ok (.iload_n 3, 1) := by decide +kernel
theorem dX6_rounds_69 : decode cX6_rounds 69 = .ok (.invokestatic 134, 3) := by decide +kernel
theorem dX6_rounds_72 : decode cX6_rounds 72 = .ok (.iload_n 2, 1) := by decide +kernel
theorem dX6_rounds_73 : decode cX6_rounds 73 = .ok (.invokestatic 131, 3) := by decide +kernel
theorem dX6_rounds_76 : decode cX6_rounds 76 = .ok (.isub, 1) := by decide +kernel
theorem dX6_rounds_77 : decode cX6_rounds 77 = .ok (.ireturn, 1) := by decide +kernel
theorem dX6_rounds_78 : decode cX6_rounds 78 = .ok (.iload_n 3, 1) := by decide +kernel
theorem dX6_rounds_79 : decode cX6_rounds 79 = .ok (.iconst (-1), 1) := by decide +kernel
theorem dX6_rounds_80 : decode cX6_rounds 80 = .ok (.ixor, 1) := by decide +kernel
theorem dX6_rounds_81 : decode cX6_rounds 81 = .ok (.bipush 63, 2) := by decide +kernel
theorem dX6_rounds_83 : decode cX6_rounds 83 = .ok (.iand, 1) := by decide +kernel
theorem dX6_rounds_84 : decode cX6_rounds 84 = .ok (.ireturn, 1) := by decide +kernel
theorem dX6_rounds_85 : decode cX6_rounds 85 = .ok (.bipush (-2), 2) := by decide +kernel
theorem dX6_rounds_87 : decode cX6_rounds 87 = .ok (.ireturn, 1) := by decide +kernel
theorem dX6_shows_0 : decode cX6_shows 0 = .ok (.iload_n 1, 1) := by decide +kernel
theorem dX6_shows_1 : decode cX6_shows 1 = .ok (.invokestatic 139, 3) := by decide +kernel
theorem dX6_shows_4 : decode cX6_shows 4 = .ok (.ifCond .eq 6, 3) := by decide +kernel
theorem dX6_shows_7 : decode cX6_shows 7 = .ok (.bipush (-2), 2) := by decide +kernel
theorem dX6_shows_9 : decode cX6_shows 9 = .ok (.ireturn, 1) := by decide +kernel
theorem dX6_shows_10 : decode cX6_shows 10 = .ok (.aload_n 0, 1) := by decide +kernel
theorem dX6_shows_11 : decode cX6_shows 11 = .ok (.getfield 44, 3) := by decide +kernel
theorem dX6_shows_14 : decode cX6_shows 14 = .ok (.iconst 0, 1) := by decide +kernel
theorem dX6_shows_15 : decode cX6_shows 15 = .ok (.invokevirtual 142, 3) := by decide +kernel
theorem dX6_shows_18 : decode cX6_shows 18 = .ok (.ifCond .eq 17, 3) := by decide +kernel
theorem dX6_shows_21 : decode cX6_shows 21 = .ok (.aload_n 0, 1) := by decide +kernel
theorem dX6_shows_22 : decode cX6_shows 22 = .ok (.getfield 44, 3) := by decide +kernel
theorem dX6_shows_25 : decode cX6_shows 25 = .ok (.aload_n 0, 1) := by decide +kernel
theorem dX6_shows_26 : decode cX6_shows 26 = .ok (.getfield 50, 3) := by decide +kernel
theorem dX6_shows_29 : decode cX6_shows 29 = .ok (.getfield 108, 3) := by decide +kernel
theorem dX6_shows_32 : decode cX6_shows 32 = .ok (.invokevirtual 145, 3) := by decide +kernel
theorem dX6_shows_35 : decode cX6_shows 35 = .ok (.aload_n 0, 1) := by decide +kernel
theorem dX6_shows_36 : decode cX6_shows 36 = .ok (.getfield 44, 3) := by decide +kernel
theorem dX6_shows_39 : decode cX6_shows 39 = .ok (.iload_n 1, 1) := by decide +kernel
theorem dX6_shows_40 : decode cX6_shows 40 = .ok (.invokevirtual 148, 3) := by decide +kernel
theorem dX6_shows_43 : decode cX6_shows 43 = .ok (.ireturn, 1) := by decide +kernel
theorem dX6_term_0 : decode cX6_term 0 = .ok (.iload_n 1, 1) := by decide +kernel
theorem dX6_term_1 : decode cX6_term 1 = .ok (.bipush 8, 2) := by decide +kernel
theorem dX6_term_3 : decode cX6_term 3 = .ok (.invokestatic 72, 3) := by decide +kernel
theorem dX6_term_6 : decode cX6_term 6 = .ok (.ifCond .ne 11, 3) := by decide +kernel
theorem dX6_term_9 : decode cX6_term 9 = .ok (.iload_n 2, 1) := by decide +kernel
theorem dX6_term_10 : decode cX6_term 10 = .ok (.iconst 4, 1) := by decide +kernel
theorem dX6_term_11 : decode cX6_term 11 = .ok (.invokestatic 72, 3) := by decide +kernel
theorem dX6_term_14 : decode cX6_term 14 = .ok (.ifCond .eq 6, 3) := by decide +kernel
theorem dX6_term_17 : decode cX6_term 17 = .ok (.bipush (-2), 2) := by decide +kernel
theorem dX6_term_19 : decode cX6_term 19 = .ok (.ireturn, 1) := by decide +kernel
theorem dX6_term_20 : decode cX6_term 20 = .ok (.aload_n 0, 1) := by decide +kernel
theorem dX6_term_21 : decode cX6_term 21 = .ok (.getfield 50, 3) := by decide +kernel
theorem dX6_term_24 : decode cX6_term 24 = .ok (.iload_n 1, 1) := by decide +kernel
theorem dX6_term_25 : decode cX6_term 25 = .ok (.invokevirtual 151, 3) := by decide +kernel
theorem dX6_term_28 : decode cX6_term 28 = .ok (.ifCond .eq 15, 3) := by decide +kernel
theorem dX6_term_31 : decode cX6_term 31 = .ok (.aload_n 0, 1) := by decide +kernel
theorem dX6_term_32 : decode cX6_term 32 = .ok (.getfield 50, 3) := by decide +kernel
theorem dX6_term_35 : decode cX6_term 35 = .ok (.iload_n 1, 1) := by decide +kernel
theorem dX6_term_36 : decode cX6_term 36 = .ok (.iload_n 2, 1) := by decide +kernel
theorem dX6_term_37 : decode cX6_term 37 = .ok (.invokevirtual 154, 3) := by decide +kernel
theorem dX6_term_40 : decode cX6_term 40 = .ok (.goto 4, 3) := by decide +kernel
theorem dX6_term_43 : decode cX6_term 43 = .ok (.iconst 0, 1) := by decide +kernel
theorem dX6_term_44 : decode cX6_term 44 = .ok (.ireturn, 1) := by decide +kernel
theorem dX6_shown_0 : decode cX6_shown 0 = .ok (.iload_n 1, 1) := by decide +kernel
theorem dX6_shown_1 : decode cX6_shown 1 = .ok (.bipush 8, 2) := by decide +kernel
theorem dX6_shown_3 : decode cX6_shown 3 = .ok (.invokestatic 72, 3) := by decide +kernel
theorem dX6_shown_6 : decode cX6_shown 6 = .ok (.ifCond .ne 10, 3) := by decide +kernel
theorem dX6_shown_9 : decode cX6_shown 9 = .ok (.iload_n 2, 1) := by decide +kernel
theorem dX6_shown_10 : decode cX6_shown 10 = .ok (.invokestatic 139, 3) := by decide +kernel
theorem dX6_shown_13 : decode cX6_shown 13 = .ok (.ifCond .eq 6, 3) := by decide +kernel
theorem dX6_shown_16 : decode cX6_shown 16 = .ok (.bipush (-2), 2) := by decide +kernel
theorem dX6_shown_18 : decode cX6_shown 18 = .ok (.ireturn, 1) := by decide +kernel
theorem dX6_shown_19 : decode cX6_shown 19 = .ok (.aload_n 0, 1) := by decide +kernel
theorem dX6_shown_20 : decode cX6_shown 20 = .ok (.getfield 34, 3) := by decide +kernel
theorem dX6_shown_23 : decode cX6_shown 23 = .ok (.iload_n 1, 1) := by decide +kernel
theorem dX6_shown_24 : decode cX6_shown 24 = .ok (.invokevirtual 142, 3) := by decide +kernel
theorem dX6_shown_27 : decode cX6_shown 27 = .ok (.ifCond .eq 38, 3) := by decide +kernel
theorem dX6_shown_30 : decode cX6_shown 30 = .ok (.aload_n 0, 1) := by decide +kernel
theorem dX6_shown_31 : decode cX6_shown 31 = .ok (.getfield 50, 3) := by decide +kernel
theorem dX6_shown_34 : decode cX6_shown 34 = .ok (.iload_n 1, 1) := by decide +kernel
theorem dX6_shown_35 : decode cX6_shown 35 = .ok (.invokevirtual 151, 3) := by decide +kernel
theorem dX6_shown_38 : decode cX6_shown 38 = .ok (.ifCond .eq 27, 3) := by decide +kernel
theorem dX6_shown_41 : decode cX6_shown 41 = .ok (.aload_n 0, 1) := by decide +kernel
theorem dX6_shown_42 : decode cX6_shown 42 = .ok (.getfield 34, 3) := by decide +kernel
theorem dX6_shown_45 : decode cX6_shown 45 = .ok (.aload_n 0, 1) := by decide +kernel
theorem dX6_shown_46 : decode cX6_shown 46 = .ok (.getfield 50, 3) := by decide +kernel
theorem dX6_shown_49 : decode cX6_shown 49 = .ok (.aload_n 0, 1) := by decide +kernel
theorem dX6_shown_50 : decode cX6_shown 50 = .ok (.getfield 28, 3) := by decide +kernel
theorem dX6_shown_53 : decode cX6_shown 53 = .ok (.iload_n 1, 1) := by decide +kernel
theorem dX6_shown_54 : decode cX6_shown 54 = .ok (.bipush 30, 2) := by decide +kernel
theorem dX6_shown_56 : decode cX6_shown 56 = .ok (.imul, 1) := by decide +kernel
theorem dX6_shown_57 : decode cX6_shown 57 = .ok (.ldc 124, 2) := by decide +kernel
theorem dX6_shown_59 : decode cX6_shown 59 = .ok (.invokestatic 157, 3) := by decide +kernel
theorem dX6_shown_62 : decode cX6_shown 62 = .ok (.invokevirtual 162, 3) := by decide +kernel
theorem dX6_shown_65 : decode cX6_shown 65 = .ok (.aload_n 0, 1) := by decide +kernel
theorem dX6_shown_66 : decode cX6_shown 66 = .ok (.getfield 34, 3) := by decide +kernel
theorem dX6_shown_69 : decode cX6_shown 69 = .ok (.iload_n 2, 1) := by decide +kernel
theorem dX6_shown_70 : decode cX6_shown 70 = .ok (.invokevirtual 148, 3) := by decide +kernel
theorem dX6_shown_73 : decode cX6_shown 73 = .ok (.ireturn, 1) := by decide +kernel
theorem dX6_turned_0 : decode cX6_turned 0 = .ok (.iload_n 1, 1) := by decide +kernel
theorem dX6_turned_1 : decode cX6_turned 1 = .ok (.bipush 8, 2) := by decide +kernel
theorem dX6_turned_3 : decode cX6_turned 3 = .ok (.invokestatic 72, 3) := by decide +kernel
theorem dX6_turned_6 : decode cX6_turned 6 = .ok (.ifCond .ne 10, 3) := by decide +kernel
theorem dX6_turned_9 : decode cX6_turned 9 = .ok (.iload_n 2, 1) := by decide +kernel
theorem dX6_turned_10 : decode cX6_turned 10 = .ok (.invokestatic 139, 3) := by decide +kernel
theorem dX6_turned_13 : decode cX6_turned 13 = .ok (.ifCond .eq 6, 3) := by decide +kernel
theorem dX6_turned_16 : decode cX6_turned 16 = .ok (.bipush (-2), 2) := by decide +kernel
theorem dX6_turned_18 : decode cX6_turned 18 = .ok (.ireturn, 1) := by decide +kernel
theorem dX6_turned_19 : decode cX6_turned 19 = .ok (.aload_n 0, 1) := by decide +kernel
theorem dX6_turned_20 : decode cX6_turned 20 = .ok (.getfield 38, 3) := by decide +kernel
theorem dX6_turned_23 : decode cX6_turned 23 = .ok (.iload_n 1, 1) := by decide +kernel
theorem dX6_turned_24 : decode cX6_turned 24 = .ok (.invokevirtual 142, 3) := by decide +kernel
theorem dX6_turned_27 : decode cX6_turned 27 = .ok (.ifCond .eq 43, 3) := by decide +kernel
theorem dX6_turned_30 : decode cX6_turned 30 = .ok (.aload_n 0, 1) := by decide +kernel
theorem dX6_turned_31 : decode cX6_turned 31 = .ok (.getfield 50, 3) := by decide +kernel
theorem dX6_turned_34 : decode cX6_turned 34 = .ok (.iload_n 1, 1) := by decide +kernel
theorem dX6_turned_35 : decode cX6_turned 35 = .ok (.invokevirtual 151, 3) := by decide +kernel
theorem dX6_turned_38 : decode cX6_turned 38 = .ok (.ifCond .eq 32, 3) := by decide +kernel
theorem dX6_turned_41 : decode cX6_turned 41 = .ok (.aload_n 0, 1) := by decide +kernel
theorem dX6_turned_42 : decode cX6_turned 42 = .ok (.getfield 38, 3) := by decide +kernel
theorem dX6_turned_45 : decode cX6_turned 45 = .ok (.aload_n 0, 1) := by decide +kernel
theorem dX6_turned_46 : decode cX6_turned 46 = .ok (.getfield 50, 3) := by decide +kernel
theorem dX6_turned_49 : decode cX6_turned 49 = .ok (.aload_n 0, 1) := by decide +kernel
theorem dX6_turned_50 : decode cX6_turned 50 = .ok (.getfield 28, 3) := by decide +kernel
theorem dX6_turned_53 : decode cX6_turned 53 = .ok (.iload_n 1, 1) := by decide +kernel
theorem dX6_turned_54 : decode cX6_turned 54 = .ok (.bipush 30, 2) := by decide +kernel
theorem dX6_turned_56 : decode cX6_turned 56 = .ok (.imul, 1) := by decide +kernel
theorem dX6_turned_57 : decode cX6_turned 57 = .ok (.aload_n 0, 1) := by decide +kernel
theorem dX6_turned_58 : decode cX6_turned 58 = .ok (.getfield 50, 3) := by decide +kernel
theorem dX6_turned_61 : decode cX6_turned 61 = .ok (.getfield 108, 3) := by decide +kernel
theorem dX6_turned_64 : decode cX6_turned 64 = .ok (.invokestatic 157, 3) := by decide +kernel
theorem dX6_turned_67 : decode cX6_turned 67 = .ok (.invokevirtual 162, 3) := by decide +kernel
theorem dX6_turned_70 : decode cX6_turned 70 = .ok (.aload_n 0, 1) := by decide +kernel
theorem dX6_turned_71 : decode cX6_turned 71 = .ok (.getfield 38, 3) := by decide +kernel
theorem dX6_turned_74 : decode cX6_turned 74 = .ok (.iload_n 2, 1) := by decide +kernel
theorem dX6_turned_75 : decode cX6_turned 75 = .ok (.invokevirtual 148, 3) := by decide +kernel
theorem dX6_turned_78 : decode cX6_turned 78 = .ok (.ireturn, 1) := by decide +kernel
theorem dX6_alike_0 : decode cX6_alike 0 = .ok (.iload_n 1, 1) := by decide +kernel
theorem dX6_alike_1 : decode cX6_alike 1 = .ok (.iconst 4, 1) := by decide +kernel
theorem dX6_alike_2 : decode cX6_alike 2 = .ok (.invokestatic 72, 3) := by decide +kernel
theorem dX6_alike_5 : decode cX6_alike 5 = .ok (.ifCond .eq 6, 3) := by decide +kernel
theorem dX6_alike_8 : decode cX6_alike 8 = .ok (.bipush (-2), 2) := by decide +kernel
theorem dX6_alike_10 : decode cX6_alike 10 = .ok (.ireturn, 1) := by decide +kernel
theorem dX6_alike_11 : decode cX6_alike 11 = .ok (.aload_n 0, 1) := by decide +kernel
theorem dX6_alike_12 : decode cX6_alike 12 = .ok (.getfield 50, 3) := by decide +kernel
theorem dX6_alike_15 : decode cX6_alike 15 = .ok (.iload_n 1, 1) := by decide +kernel
theorem dX6_alike_16 : decode cX6_alike 16 = .ok (.invokevirtual 166, 3) := by decide +kernel
theorem dX6_alike_19 : decode cX6_alike 19 = .ok (.ifCond .ne 6, 3) := by decide +kernel
theorem dX6_alike_22 : decode cX6_alike 22 = .ok (.bipush (-3), 2) := by decide +kernel
theorem dX6_alike_24 : decode cX6_alike 24 = .ok (.ireturn, 1) := by decide +kernel
theorem dX6_alike_25 : decode cX6_alike 25 = .ok (.aload_n 0, 1) := by decide +kernel
theorem dX6_alike_26 : decode cX6_alike 26 = .ok (.getfield 63, 3) := by decide +kernel
theorem dX6_alike_29 : decode cX6_alike 29 = .ok (.getstatic 169, 3) := by decide +kernel
theorem dX6_alike_32 : decode cX6_alike 32 = .ok (.iconst 0, 1) := by decide +kernel
theorem dX6_alike_33 : decode cX6_alike 33 = .ok (.iaload, 1) := by decide +kernel
theorem dX6_alike_34 : decode cX6_alike 34 = .ok (.iconst 1, 1) := by decide +kernel
theorem dX6_alike_35 : decode cX6_alike 35 = .ok (.iload_n 1, 1) := by decide +kernel
theorem dX6_alike_36 : decode cX6_alike 36 = .ok (.ishl, 1) := by decide +kernel
theorem dX6_alike_37 : decode cX6_alike 37 = .ok (.iconst 1, 1) := by decide +kernel
theorem dX6_alike_38 : decode cX6_alike 38 = .ok (.invokevirtual 172, 3) := by decide +kernel
theorem dX6_alike_41 : decode cX6_alike 41 = .ok (.aload_n 0, 1) := by decide +kernel
theorem dX6_alike_42 : decode cX6_alike 42 = .ok (.getfield 63, 3) := by decide +kernel
theorem dX6_alike_45 : decode cX6_alike 45 = .ok (.invokevirtual 176, 3) := by decide +kernel
theorem dX6_alike_48 : decode cX6_alike 48 = .ok (.ifCond .eq 7, 3) := by decide +kernel
theorem dX6_alike_51 : decode cX6_alike 51 = .ok (.iconst 1, 1) := by decide +kernel
theorem dX6_alike_52 : decode cX6_alike 52 = .ok (.goto 4, 3) := by decide +kernel
theorem dX6_alike_55 : decode cX6_alike 55 = .ok (.iconst 0, 1) := by decide +kernel
theorem dX6_alike_56 : decode cX6_alike 56 = .ok (.ireturn, 1) := by decide +kernel
theorem dX6_solved_0 : decode cX6_solved 0 = .ok (.iload_n 1, 1) := by decide +kernel
theorem dX6_solved_1 : decode cX6_solved 1 = .ok (.iconst 4, 1) := by decide +kernel
theorem dX6_solved_2 : decode cX6_solved 2 = .ok (.invokestatic 72, 3) := by decide +kernel
theorem dX6_solved_5 : decode cX6_solved 5 = .ok (.ifCond .eq 6, 3) := by decide +kernel
theorem dX6_solved_8 : decode cX6_solved 8 = .ok (.bipush (-2), 2) := by decide +kernel
theorem dX6_solved_10 : decode cX6_solved 10 = .ok (.ireturn, 1) := by decide +kernel
theorem dX6_solved_11 : decode cX6_solved 11 = .ok (.aload_n 0, 1) := by decide +kernel
theorem dX6_solved_12 : decode cX6_solved 12 = .ok (.invokevirtual 180, 3) := by decide +kernel
theorem dX6_solved_15 : decode cX6_solved 15 = .ok (.aload_n 0, 1) := by decide +kernel
theorem dX6_solved_16 : decode cX6_solved 16 = .ok (.getfield 59, 3) := by decide +kernel
theorem dX6_solved_19 : decode cX6_solved 19 = .ok (.iload_n 1, 1) := by decide +kernel
theorem dX6_solved_20 : decode cX6_solved 20 = .ok (.invokevirtual 183, 3) := by decide +kernel
theorem dX6_solved_23 : decode cX6_solved 23 = .ok (.ireturn, 1) := by decide +kernel
theorem dX6_value_0 : decode cX6_value 0 = .ok (.iload_n 1, 1) := by decide +kernel
theorem dX6_value_1 : decode cX6_value 1 = .ok (.bipush 6, 2) := by decide +kernel
theorem dX6_value_3 : decode cX6_value 3 = .ok (.invokestatic 72, 3) := by decide +kernel
theorem dX6_value_6 : decode cX6_value 6 = .ok (.ifCond .ne 10, 3) := by decide +kernel
theorem dX6_value_9 : decode cX6_value 9 = .ok (.iload_n 2, 1) := by decide +kernel
theorem dX6_value_10 : decode cX6_value 10 = .ok (.invokestatic 139, 3) := by decide +kernel
theorem dX6_value_13 : decode cX6_value 13 = .ok (.ifCond .eq 6, 3) := by decide +kernel
theorem dX6_value_16 : decode cX6_value 16 = .ok (.bipush (-2), 2) := by decide +kernel
theorem dX6_value_18 : decode cX6_value 18 = .ok (.ireturn, 1) := by decide +kernel
theorem dX6_value_19 : decode cX6_value 19 = .ok (.aload_n 0, 1) := by decide +kernel
theorem dX6_value_20 : decode cX6_value 20 = .ok (.invokevirtual 180, 3) := by decide +kernel
theorem dX6_value_23 : decode cX6_value 23 = .ok (.aload_n 0, 1) := by decide +kernel
theorem dX6_value_24 : decode cX6_value 24 = .ok (.iload_n 1, 1) := by decide +kernel
theorem dX6_value_25 : decode cX6_value 25 = .ok (.invokevirtual 186, 3) := by decide +kernel
theorem dX6_value_28 : decode cX6_value 28 = .ok (.aload_n 0, 1) := by decide +kernel
theorem dX6_value_29 : decode cX6_value 29 = .ok (.getfield 41, 3) := by decide +kernel
theorem dX6_value_32 : decode cX6_value 32 = .ok (.iload_n 2, 1) := by decide +kernel
theorem dX6_value_33 : decode cX6_value 33 = .ok (.invokevirtual 148, 3) := by decide +kernel
theorem dX6_value_36 : decode cX6_value 36 = .ok (.ireturn, 1) := by decide +kernel
theorem dX6_fresh_0 : decode cX6_fresh 0 = .ok (.iload_n 1, 1) := by decide +kernel
theorem dX6_fresh_1 : decode cX6_fresh 1 = .ok (.bipush 6, 2) := by decide +kernel
theorem dX6_fresh_3 : decode cX6_fresh 3 = .ok (.invokestatic 72, 3) := by decide +kernel
theorem dX6_fresh_6 : decode cX6_fresh 6 = .ok (.ifCond .eq 6, 3) := by decide +kernel
theorem dX6_fresh_9 : decode cX6_fresh 9 = .ok (.bipush (-2), 2) := by decide +kernel
theorem dX6_fresh_11 : decode cX6_fresh 11 = .ok (.ireturn, 1) := by decide +kernel
theorem dX6_fresh_12 : decode cX6_fresh 12 = .ok (.aload_n 0, 1) := by decide +kernel
theorem dX6_fresh_13 : decode cX6_fresh 13 = .ok (.invokevirtual 180, 3) := by decide +kernel
theorem dX6_fresh_16 : decode cX6_fresh 16 = .ok (.aload_n 0, 1) := by decide +kernel
theorem dX6_fresh_17 : decode cX6_fresh 17 = .ok (.getfield 59, 3) := by decide +kernel
theorem dX6_fresh_20 : decode cX6_fresh 20 = .ok (.iload_n 1, 1) := by decide +kernel
theorem dX6_fresh_21 : decode cX6_fresh 21 = .ok (.invokevirtual 189, 3) := by decide +kernel
theorem dX6_fresh_24 : decode cX6_fresh 24 = .ok (.ireturn, 1) := by decide +kernel
theorem dX6_needs_0 : decode cX6_needs 0 = .ok (.iload_n 1, 1) := by decide +kernel
theorem dX6_needs_1 : decode cX6_needs 1 = .ok (.bipush 6, 2) := by decide +kernel
theorem dX6_needs_3 : decode cX6_needs 3 = .ok (.invokestatic 72, 3) := by decide +kernel
theorem dX6_needs_6 : decode cX6_needs 6 = .ok (.ifCond .eq 6, 3) := by decide +kernel
theorem dX6_needs_9 : decode cX6_needs 9 = .ok (.bipush (-2), 2) := by decide +kernel
theorem dX6_needs_11 : decode cX6_needs 11 = .ok (.ireturn, 1) := by decide +kernel
theorem dX6_needs_12 : decode cX6_needs 12 = .ok (.aload_n 0, 1) := by decide +kernel
theorem dX6_needs_13 : decode cX6_needs 13 = .ok (.invokevirtual 180, 3) := by decide +kernel
theorem dX6_needs_16 : decode cX6_needs 16 = .ok (.aload_n 0, 1) := by decide +kernel
theorem dX6_needs_17 : decode cX6_needs 17 = .ok (.getfield 59, 3) := by decide +kernel
theorem dX6_needs_20 : decode cX6_needs 20 = .ok (.iload_n 1, 1) := by decide +kernel
theorem dX6_needs_21 : decode cX6_needs 21 = .ok (.invokevirtual 192, 3) := by decide +kernel
theorem dX6_needs_24 : decode cX6_needs 24 = .ok (.ireturn, 1) := by decide +kernel
theorem dX6_way_0 : decode cX6_way 0 = .ok (.iload_n 1, 1) := by decide +kernel
theorem dX6_way_1 : decode cX6_way 1 = .ok (.bipush 24, 2) := by decide +kernel
theorem dX6_way_3 : decode cX6_way 3 = .ok (.invokestatic 72, 3) := by decide +kernel
theorem dX6_way_6 : decode cX6_way 6 = .ok (.ifCond .ne 11, 3) := by decide +kernel
theorem dX6_way_9 : decode cX6_way 9 = .ok (.iload_n 2, 1) := by decide +kernel
theorem dX6_way_10 : decode cX6_way 10 = .ok (.iconst 4, 1) := by decide +kernel
theorem dX6_way_11 : decode cX6_way 11 = .ok (.invokestatic 72, 3) := by decide +kernel
theorem dX6_way_14 : decode cX6_way 14 = .ok (.ifCond .eq 6, 3) := by decide +kernel
theorem dX6_way_17 : decode cX6_way 17 = .ok (.bipush (-2), 2) := by decide +kernel
theorem dX6_way_19 : decode cX6_way 19 = .ok (.ireturn, 1) := by decide +kernel
theorem dX6_way_20 : decode cX6_way 20 = .ok (.aload_n 0, 1) := by decide +kernel
theorem dX6_way_21 : decode cX6_way 21 = .ok (.getfield 24, 3) := by decide +kernel
theorem dX6_way_24 : decode cX6_way 24 = .ok (.iload_n 1, 1) := by decide +kernel
theorem dX6_way_25 : decode cX6_way 25 = .ok (.ishr, 1) := by decide +kernel
theorem dX6_way_26 : decode cX6_way 26 = .ok (.iconst 1, 1) := by decide +kernel
theorem dX6_way_27 : decode cX6_way 27 = .ok (.iand, 1) := by decide +kernel
theorem dX6_way_28 : decode cX6_way 28 = .ok (.ifCond .ne 61, 3) := by decide +kernel
theorem dX6_way_31 : decode cX6_way 31 = .ok (.aload_n 0, 1) := by decide +kernel
theorem dX6_way_32 : decode cX6_way 32 = .ok (.getfield 63, 3) := by decide +kernel
theorem dX6_way_35 : decode cX6_way 35 = .ok (.getstatic 169, 3) := by decide +kernel
theorem dX6_way_38 : decode cX6_way 38 = .ok (.iload_n 1, 1) := by decide +kernel
theorem dX6_way_39 : decode cX6_way 39 = .ok (.iaload, 1) := by decide +kernel
theorem dX6_way_40 : decode cX6_way 40 = .ok (.bipush 15, 2) := by decide +kernel
theorem dX6_way_42 : decode cX6_way 42 = .ok (.iconst 0, 1) := by decide +kernel
theorem dX6_way_43 : decode cX6_way 43 = .ok (.invokevirtual 172, 3) := by decide +kernel
theorem dX6_way_46 : decode cX6_way 46 = .ok (.iconst 0, 1) := by decide +kernel
theorem dX6_way_47 : decode cX6_way 47 = .ok (.istore_n 3, 1) := by decide +kernel
theorem dX6_way_48 : decode cX6_way 48 = .ok (.iload_n 3, 1) := by decide +kernel
theorem dX6_way_49 : decode cX6_way 49 = .ok (.iconst 4, 1) := by decide +kernel
theorem dX6_way_50 : decode cX6_way 50 = .ok (.if_icmp .ge 27, 3) := by decide +kernel
theorem dX6_way_53 : decode cX6_way 53 = .ok (.aload_n 0, 1) := by decide +kernel
theorem dX6_way_54 : decode cX6_way 54 = .ok (.getfield 20, 3) := by decide +kernel
theorem dX6_way_57 : decode cX6_way 57 = .ok (.iconst 4, 1) := by decide +kernel
theorem dX6_way_58 : decode cX6_way 58 = .ok (.iload_n 1, 1) := by decide +kernel
theorem dX6_way_59 : decode cX6_way 59 = .ok (.imul, 1) := by decide +kernel
theorem dX6_way_60 : decode cX6_way 60 = .ok (.iload_n 3, 1) := by decide +kernel
theorem dX6_way_61 : decode cX6_way 61 = .ok (.iadd, 1) := by decide +kernel
theorem dX6_way_62 : decode cX6_way 62 = .ok (.aload_n 0, 1) := by decide +kernel
theorem dX6_way_63 : decode cX6_way 63 = .ok (.getfield 63, 3) := by decide +kernel
theorem dX6_way_66 : decode cX6_way 66 = .ok (.iload_n 3, 1) := by decide +kernel
theorem dX6_way_67 : decode cX6_way 67 = .ok (.invokevirtual 183, 3) := by decide +kernel
theorem dX6_way_70 : decode cX6_way 70 = .ok (.iastore, 1) := by decide +kernel
theorem dX6_way_71 : decode cX6_way 71 = .ok (.iinc 3 1, 3) := by decide +kernel
theorem dX6_way_74 : decode cX6_way 74 = .ok (.goto (-26), 3) := by decide +kernel
theorem dX6_way_77 : decode cX6_way 77 = .ok (.aload_n 0, 1) := by decide +kernel
theorem dX6_way_78 : decode cX6_way 78 = .ok (.dup, 1) := by decide +kernel
theorem dX6_way_79 : decode cX6_way 79 = .ok (.getfield 24, 3) := by decide +kernel
theorem dX6_way_82 : decode cX6_way 82 = .ok (.iconst 1, 1) := by decide +kernel
theorem dX6_way_83 : decode cX6_way 83 = .ok (.iload_n 1, 1) := by decide +kernel
theorem dX6_way_84 : decode cX6_way 84 = .ok (.ishl, 1) := by decide +kernel
theorem dX6_way_85 : decode cX6_way 85 = .ok (.ior, 1) := by decide +kernel
theorem dX6_way_86 : decode cX6_way 86 = .ok (.putfield 24, 3) := by decide +kernel
theorem dX6_way_89 : decode cX6_way 89 = .ok (.aload_n 0, 1) := by decide +kernel
theorem dX6_way_90 : decode cX6_way 90 = .ok (.getfield 20, 3) := by decide +kernel
theorem dX6_way_93 : decode cX6_way 93 = .ok (.iconst 4, 1) := by decide +kernel
theorem dX6_way_94 : decode cX6_way 94 = .ok (.iload_n 1, 1) := by decide +kernel
theorem dX6_way_95 : decode cX6_way 95 = .ok (.imul, 1) := by decide +kernel
theorem dX6_way_96 : decode cX6_way 96 = .ok (.iload_n 2, 1) := by decide +kernel
theorem dX6_way_97 : decode cX6_way 97 = .ok (.iadd, 1) := by decide +kernel
theorem dX6_way_98 : decode cX6_way 98 = .ok (.iaload, 1) := by decide +kernel
theorem dX6_way_99 : decode cX6_way 99 = .ok (.ireturn, 1) := by decide +kernel
theorem dX6_spare_0 : decode cX6_spare 0 = .ok (.aload_n 0, 1) := by decide +kernel
theorem dX6_spare_1 : decode cX6_spare 1 = .ok (.invokevirtual 180, 3) := by decide +kernel
theorem dX6_spare_4 : decode cX6_spare 4 = .ok (.aload_n 0, 1) := by decide +kernel
theorem dX6_spare_5 : decode cX6_spare 5 = .ok (.getfield 59, 3) := by decide +kernel
theorem dX6_spare_8 : decode cX6_spare 8 = .ok (.iconst 0, 1) := by decide +kernel
theorem dX6_spare_9 : decode cX6_spare 9 = .ok (.invokevirtual 183, 3) := by decide +kernel
theorem dX6_spare_12 : decode cX6_spare 12 = .ok (.ifCond .ne 5, 3) := by decide +kernel
theorem dX6_spare_15 : decode cX6_spare 15 = .ok (.iconst (-1), 1) := by decide +kernel
theorem dX6_spare_16 : decode cX6_spare 16 = .ok (.ireturn, 1) := by decide +kernel
theorem dX6_spare_17 : decode cX6_spare 17 = .ok (.iconst 0, 1) := by decide +kernel
theorem dX6_spare_18 : decode cX6_spare 18 = .ok (.istore_n 1, 1) := by decide +kernel
theorem dX6_spare_19 : decode cX6_spare 19 = .ok (.iload_n 1, 1) := by decide +kernel
theorem dX6_spare_20 : decode cX6_spare 20 = .ok (.iconst 4, 1) := by decide +kernel
theorem dX6_spare_21 : decode cX6_spare 21 = .ok (.if_icmp .ge 43, 3) := by decide +kernel
theorem dX6_spare_24 : decode cX6_spare 24 = .ok (.aload_n 0, 1) := by decide +kernel
theorem dX6_spare_25 : decode cX6_spare 25 = .ok (.getfield 63, 3) := by decide +kernel
theorem dX6_spare_28 : decode cX6_spare 28 = .ok (.getstatic 169, 3) := by decide +kernel
theorem dX6_spare_31 : decode cX6_spare 31 = .ok (.iconst 0, 1) := by decide +kernel
theorem dX6_spare_32 : decode cX6_spare 32 = .ok (.iaload, 1) := by decide +kernel
theorem dX6_spare_33 : decode cX6_spare 33 = .ok (.bipush 15, 2) := by decide +kernel
theorem dX6_spare_35 : decode cX6_spare 35 = .ok (.iconst 1, 1) := by decide +kernel
theorem dX6_spare_36 : decode cX6_spare 36 = .ok (.iload_n 1, 1) := by decide +kernel
theorem dX6_spare_37 : decode cX6_spare 37 = .ok (.ishl, 1) := by decide +kernel
theorem dX6_spare_38 : decode cX6_spare 38 = .ok (.iconst (-1), 1) := by decide +kernel
theorem dX6_spare_39 : decode cX6_spare 39 = .ok (.ixor, 1) := by decide +kernel
theorem dX6_spare_40 : decode cX6_spare 40 = .ok (.iand, 1) := by decide +kernel
theorem dX6_spare_41 : decode cX6_spare 41 = .ok (.iconst 0, 1) := by decide +kernel
theorem dX6_spare_42 : decode cX6_spare 42 = .ok (.invokevirtual 172, 3) := by decide +kernel
theorem dX6_spare_45 : decode cX6_spare 45 = .ok (.aload_n 0, 1) := by decide +kernel
theorem dX6_spare_46 : decode cX6_spare 46 = .ok (.getfield 63, 3) := by decide +kernel
theorem dX6_spare_49 : decode cX6_spare 49 = .ok (.iconst 0, 1) := by decide +kernel
theorem dX6_spare_50 : decode cX6_spare 50 = .ok (.invokevirtual 183, 3) := by decide +kernel
theorem dX6_spare_53 : decode cX6_spare 53 = .ok (.ifCond .ne 5, 3) := by decide +kernel
theorem dX6_spare_56 : decode cX6_spare 56 = .ok (.iload_n 1, 1) := by decide +kernel
theorem dX6_spare_57 : decode cX6_spare 57 = .ok (.ireturn, 1) := by decide +kernel
theorem dX6_spare_58 : decode cX6_spare 58 = .ok (.iinc 1 1, 3) := by decide +kernel
theorem dX6_spare_61 : decode cX6_spare 61 = .ok (.goto (-42), 3) := by decide +kernel
theorem dX6_spare_64 : decode cX6_spare 64 = .ok (.iconst (-1), 1) := by decide +kernel
theorem dX6_spare_65 : decode cX6_spare 65 = .ok (.ireturn, 1) := by decide +kernel
theorem dX6_sheet_0 : decode cX6_sheet 0 = .ok (.iload_n 1, 1) := by decide +kernel
theorem dX6_sheet_1 : decode cX6_sheet 1 = .ok (.iconst 4, 1) := by decide +kernel
theorem dX6_sheet_2 : decode cX6_sheet 2 = .ok (.invokestatic 72, 3) := by decide +kernel
theorem dX6_sheet_5 : decode cX6_sheet 5 = .ok (.ifCond .ne 17, 3) := by decide +kernel
theorem dX6_sheet_8 : decode cX6_sheet 8 = .ok (.iload_n 2, 1) := by decide +kernel
theorem dX6_sheet_9 : decode cX6_sheet 9 = .ok (.iconst 3, 1) := by decide +kernel
theorem dX6_sheet_10 : decode cX6_sheet 10 = .ok (.invokestatic 72, 3) := by decide +kernel
theorem dX6_sheet_13 : decode cX6_sheet 13 = .ok (.ifCond .ne 9, 3) := by decide +kernel
theorem dX6_sheet_16 : decode cX6_sheet 16 = .ok (.iload_n 3, 1) := by decide +kernel
theorem dX6_sheet_17 : decode cX6_sheet 17 = .ok (.bipush 60, 2) := by decide +kernel
theorem dX6_sheet_19 : decode cX6_sheet 19 = .ok (.if_icmp .le 6, 3) := by decide +kernel
theorem dX6_sheet_22 : decode cX6_sheet 22 = .ok (.bipush (-2), 2) := by decide +kernel
theorem dX6_sheet_24 : decode cX6_sheet 24 = .ok (.ireturn, 1) := by decide +kernel
theorem dX6_sheet_25 : decode cX6_sheet 25 = .ok (.iload_n 3, 1) := by decide +kernel
theorem dX6_sheet_26 : decode cX6_sheet 26 = .ok (.ifCond .ge 12, 3) := by decide +kernel
theorem dX6_sheet_29 : decode cX6_sheet 29 = .ok (.aload_n 0, 1) := by decide +kernel
theorem dX6_sheet_30 : decode cX6_sheet 30 = .ok (.getfield 12, 3) := by decide +kernel
theorem dX6_sheet_33 : decode cX6_sheet 33 = .ok (.iconst 5, 1) := by decide +kernel
theorem dX6_sheet_34 : decode cX6_sheet 34 = .ok (.invokevirtual 98, 3) := by decide +kernel
theorem dX6_sheet_37 : decode cX6_sheet 37 = .ok (.ireturn, 1) := by decide +kernel
theorem dX6_sheet_38 : decode cX6_sheet 38 = .ok (.aload_n 0, 1) := by decide +kernel
theorem dX6_sheet_39 : decode cX6_sheet 39 = .ok (.getfield 12, 3) := by decide +kernel
theorem dX6_sheet_42 : decode cX6_sheet 42 = .ok (.iload_n 1, 1) := by decide +kernel
theorem dX6_sheet_43 : decode cX6_sheet 43 = .ok (.iload_n 2, 1) := by decide +kernel
theorem dX6_sheet_44 : decode cX6_sheet 44 = .ok (.iload_n 3, 1) := by decide +kernel
theorem dX6_sheet_45 : decode cX6_sheet 45 = .ok (.invokevirtual 195, 3) := by decide +kernel
theorem dX6_sheet_48 : decode cX6_sheet 48 = .ok (.iload_n 3, 1) := by decide +kernel
theorem dX6_sheet_49 : decode cX6_sheet 49 = .ok (.ireturn, 1) := by decide +kernel
theorem dX6_lose_0 : decode cX6_lose 0 = .ok (.iload_n 1, 1) := by decide +kernel
theorem dX6_lose_1 : decode cX6_lose 1 = .ok (.iconst 4, 1) := by decide +kernel
theorem dX6_lose_2 : decode cX6_lose 2 = .ok (.invokestatic 72, 3) := by decide +kernel
theorem dX6_lose_5 : decode cX6_lose 5 = .ok (.ifCond .eq 6, 3) := by decide +kernel
theorem dX6_lose_8 : decode cX6_lose 8 = .ok (.bipush (-2), 2) := by decide +kernel
theorem dX6_lose_10 : decode cX6_lose 10 = .ok (.ireturn, 1) := by decide +kernel
theorem dX6_lose_11 : decode cX6_lose 11 = .ok (.aload_n 0, 1) := by decide +kernel
theorem dX6_lose_12 : decode cX6_lose 12 = .ok (.getfield 12, 3) := by decide +kernel
theorem dX6_lose_15 : decode cX6_lose 15 = .ok (.iload_n 1, 1) := by decide +kernel
theorem dX6_lose_16 : decode cX6_lose 16 = .ok (.invokevirtual 94, 3) := by decide +kernel
theorem dX6_lose_19 : decode cX6_lose 19 = .ok (.ifCond .eq 12, 3) := by decide +kernel
theorem dX6_lose_22 : decode cX6_lose 22 = .ok (.aload_n 0, 1) := by decide +kernel
theorem dX6_lose_23 : decode cX6_lose 23 = .ok (.getfield 12, 3) := by decide +kernel
theorem dX6_lose_26 : decode cX6_lose 26 = .ok (.iconst 1, 1) := by decide +kernel
theorem dX6_lose_27 : decode cX6_lose 27 = .ok (.invokevirtual 98, 3) := by decide +kernel
theorem dX6_lose_30 : decode cX6_lose 30 = .ok (.ireturn, 1) := by decide +kernel
theorem dX6_lose_31 : decode cX6_lose 31 = .ok (.aload_n 0, 1) := by decide +kernel
theorem dX6_lose_32 : decode cX6_lose 32 = .ok (.getfield 12, 3) := by decide +kernel
theorem dX6_lose_35 : decode cX6_lose 35 = .ok (.iload_n 1, 1) := by decide +kernel
theorem dX6_lose_36 : decode cX6_lose 36 = .ok (.invokevirtual 101, 3) := by decide +kernel
theorem dX6_lose_39 : decode cX6_lose 39 = .ok (.istore_n 2, 1) := by decide +kernel
theorem dX6_lose_40 : decode cX6_lose 40 = .ok (.aload_n 0, 1) := by decide +kernel
theorem dX6_lose_41 : decode cX6_lose 41 = .ok (.getfield 12, 3) := by decide +kernel
theorem dX6_lose_44 : decode cX6_lose 44 = .ok (.iload_n 1, 1) := by decide +kernel
theorem dX6_lose_45 : decode cX6_lose 45 = .ok (.iconst (-1), 1) := by decide +kernel
theorem dX6_lose_46 : decode cX6_lose 46 = .ok (.iconst 0, 1) := by decide +kernel
theorem dX6_lose_47 : decode cX6_lose 47 = .ok (.invokevirtual 195, 3) := by decide +kernel
theorem dX6_lose_50 : decode cX6_lose 50 = .ok (.iload_n 2, 1) := by decide +kernel
theorem dX6_lose_51 : decode cX6_lose 51 = .ok (.ireturn, 1) := by decide +kernel
theorem dX6_lay_0 : decode cX6_lay 0 = .ok (.iload_n 1, 1) := by decide +kernel
theorem dX6_lay_1 : decode cX6_lay 1 = .ok (.iconst 4, 1) := by decide +kernel
theorem dX6_lay_2 : decode cX6_lay 2 = .ok (.invokestatic 72, 3) := by decide +kernel
theorem dX6_lay_5 : decode cX6_lay 5 = .ok (.ifCond .ne 11, 3) := by decide +kernel
theorem dX6_lay_8 : decode cX6_lay 8 = .ok (.iload_n 2, 1) := by decide +kernel
theorem dX6_lay_9 : decode cX6_lay 9 = .ok (.iconst 3, 1) := by decide +kernel
theorem dX6_lay_10 : decode cX6_lay 10 = .ok (.invokestatic 72, 3) := by decide +kernel
theorem dX6_lay_13 : decode cX6_lay 13 = .ok (.ifCond .eq 6, 3) := by decide +kernel
theorem dX6_lay_16 : decode cX6_lay 16 = .ok (.bipush (-2), 2) := by decide +kernel
theorem dX6_lay_18 : decode cX6_lay 18 = .ok (.ireturn, 1) := by decide +kernel
theorem dX6_lay_19 : decode cX6_lay 19 = .ok (.aload_n 0, 1) := by decide +kernel
theorem dX6_lay_20 : decode cX6_lay 20 = .ok (.getfield 12, 3) := by decide +kernel
theorem dX6_lay_23 : decode cX6_lay 23 = .ok (.iload_n 1, 1) := by decide +kernel
theorem dX6_lay_24 : decode cX6_lay 24 = .ok (.iload_n 2, 1) := by decide +kernel
theorem dX6_lay_25 : decode cX6_lay 25 = .ok (.iload_n 3, 1) := by decide +kernel
theorem dX6_lay_26 : decode cX6_lay 26 = .ok (.invokevirtual 198, 3) := by decide +kernel
theorem dX6_lay_29 : decode cX6_lay 29 = .ok (.istore 5, 2) := by decide +kernel
theorem dX6_lay_31 : decode cX6_lay 31 = .ok (.iload 5, 2) := by decide +kernel
theorem dX6_lay_33 : decode cX6_lay 33 = .ok (.ifCond .eq 13, 3) := by decide +kernel
theorem dX6_lay_36 : decode cX6_lay 36 = .ok (.aload_n 0, 1) := by decide +kernel
theorem dX6_lay_37 : decode cX6_lay 37 = .ok (.getfield 12, 3) := by decide +kernel
theorem dX6_lay_40 : decode cX6_lay 40 = .ok (.iload 5, 2) := by decide +kernel
theorem dX6_lay_42 : decode cX6_lay 42 = .ok (.invokevirtual 98, 3) := by decide +kernel
theorem dX6_lay_45 : decode cX6_lay 45 = .ok (.ireturn, 1) := by decide +kernel
theorem dX6_lay_46 : decode cX6_lay 46 = .ok (.aload_n 0, 1) := by decide +kernel
theorem dX6_lay_47 : decode cX6_lay 47 = .ok (.getfield 12, 3) := by decide +kernel
theorem dX6_lay_50 : decode cX6_lay 50 = .ok (.iload_n 1, 1) := by decide +kernel
theorem dX6_lay_51 : decode cX6_lay 51 = .ok (.iload_n 3, 1) := by decide +kernel
theorem dX6_lay_52 : decode cX6_lay 52 = .ok (.iload 4, 2) := by decide +kernel
theorem dX6_lay_54 : decode cX6_lay 54 = .ok (.invokevirtual 202, 3) := by decide +kernel
theorem dX6_lay_57 : decode cX6_lay 57 = .ok (.iconst 1, 1) := by decide +kernel
theorem dX6_lay_58 : decode cX6_lay 58 = .ok (.ireturn, 1) := by decide +kernel
theorem dX6_get_0 : decode cX6_get 0 = .ok (.iload_n 1, 1) := by decide +kernel
theorem dX6_get_1 : decode cX6_get 1 = .ok (.iconst 4, 1) := by decide +kernel
theorem dX6_get_2 : decode cX6_get 2 = .ok (.invokestatic 72, 3) := by decide +kernel
theorem dX6_get_5 : decode cX6_get 5 = .ok (.ifCond .ne 11, 3) := by decide +kernel
theorem dX6_get_8 : decode cX6_get 8 = .ok (.iload_n 2, 1) := by decide +kernel
theorem dX6_get_9 : decode cX6_get 9 = .ok (.iconst 3, 1) := by decide +kernel
theorem dX6_get_10 : decode cX6_get 10 = .ok (.invokestatic 72, 3) := by decide +kernel
theorem dX6_get_13 : decode cX6_get 13 = .ok (.ifCond .eq 6, 3) := by decide +kernel
theorem dX6_get_16 : decode cX6_get 16 = .ok (.ldc 205, 2) := by decide +kernel
theorem dX6_get_18 : decode cX6_get 18 = .ok (.ireturn, 1) := by decide +kernel
theorem dX6_get_19 : decode cX6_get 19 = .ok (.aload_n 0, 1) := by decide +kernel
theorem dX6_get_20 : decode cX6_get 20 = .ok (.getfield 12, 3) := by decide +kernel
theorem dX6_get_23 : decode cX6_get 23 = .ok (.iload_n 1, 1) := by decide +kernel
theorem dX6_get_24 : decode cX6_get 24 = .ok (.iload_n 2, 1) := by decide +kernel
theorem dX6_get_25 : decode cX6_get 25 = .ok (.iload_n 3, 1) := by decide +kernel
theorem dX6_get_26 : decode cX6_get 26 = .ok (.invokevirtual 198, 3) := by decide +kernel
theorem dX6_get_29 : decode cX6_get 29 = .ok (.istore 4, 2) := by decide +kernel
theorem dX6_get_31 : decode cX6_get 31 = .ok (.iload 4, 2) := by decide +kernel
theorem dX6_get_33 : decode cX6_get 33 = .ok (.ifCond .eq 16, 3) := by decide +kernel
theorem dX6_get_36 : decode cX6_get 36 = .ok (.aload_n 0, 1) := by decide +kernel
theorem dX6_get_37 : decode cX6_get 37 = .ok (.getfield 12, 3) := by decide +kernel
theorem dX6_get_40 : decode cX6_get 40 = .ok (.iload 4, 2) := by decide +kernel
theorem dX6_get_42 : decode cX6_get 42 = .ok (.invokevirtual 98, 3) := by decide +kernel
theorem dX6_get_45 : decode cX6_get 45 = .ok (.pop, 1) := by decide +kernel
theorem dX6_get_46 : decode cX6_get 46 = .ok (.ldc 205, 2) := by decide +kernel
theorem dX6_get_48 : decode cX6_get 48 = .ok (.ireturn, 1) := by decide +kernel
theorem dX6_get_49 : decode cX6_get 49 = .ok (.aload_n 0, 1) := by decide +kernel
theorem dX6_get_50 : decode cX6_get 50 = .ok (.getfield 12, 3) := by decide +kernel
theorem dX6_get_53 : decode cX6_get 53 = .ok (.iload_n 1, 1) := by decide +kernel
theorem dX6_get_54 : decode cX6_get 54 = .ok (.iload_n 3, 1) := by decide +kernel
theorem dX6_get_55 : decode cX6_get 55 = .ok (.invokevirtual 104, 3) := by decide +kernel
theorem dX6_get_58 : decode cX6_get 58 = .ok (.ireturn, 1) := by decide +kernel
theorem dX6_copy_0 : decode cX6_copy 0 = .ok (.iload_n 1, 1) := by decide +kernel
theorem dX6_copy_1 : decode cX6_copy 1 = .ok (.iconst 4, 1) := by decide +kernel
theorem dX6_copy_2 : decode cX6_copy 2 = .ok (.invokestatic 72, 3) := by decide +kernel
theorem dX6_copy_5 : decode cX6_copy 5 = .ok (.ifCond .ne 11, 3) := by decide +kernel
theorem dX6_copy_8 : decode cX6_copy 8 = .ok (.iload_n 3, 1) := by decide +kernel
theorem dX6_copy_9 : decode cX6_copy 9 = .ok (.iconst 4, 1) := by decide +kernel
theorem dX6_copy_10 : decode cX6_copy 10 = .ok (.invokestatic 72, 3) := by decide +kernel
theorem dX6_copy_13 : decode cX6_copy 13 = .ok (.ifCond .eq 6, 3) := by decide +kernel
theorem dX6_copy_16 : decode cX6_copy 16 = .ok (.bipush (-2), 2) := by decide +kernel
theorem dX6_copy_18 : decode cX6_copy 18 = .ok (.ireturn, 1) := by decide +kernel
theorem dX6_copy_19 : decode cX6_copy 19 = .ok (.aload_n 0, 1) := by decide +kernel
theorem dX6_copy_20 : decode cX6_copy 20 = .ok (.getfield 12, 3) := by decide +kernel
theorem dX6_copy_23 : decode cX6_copy 23 = .ok (.iload_n 1, 1) := by decide +kernel
theorem dX6_copy_24 : decode cX6_copy 24 = .ok (.invokevirtual 94, 3) := by decide +kernel
theorem dX6_copy_27 : decode cX6_copy 27 = .ok (.ifCond .ne 14, 3) := by decide +kernel
theorem dX6_copy_30 : decode cX6_copy 30 = .ok (.aload_n 0, 1) := by decide +kernel
theorem dX6_copy_31 : decode cX6_copy 31 = .ok (.getfield 12, 3) := by decide +kernel
theorem dX6_copy_34 : decode cX6_copy 34 = .ok (.iload_n 3, 1) := by decide +kernel
theorem dX6_copy_35 : decode cX6_copy 35 = .ok (.invokevirtual 94, 3) := by decide +kernel
theorem dX6_copy_38 : decode cX6_copy 38 = .ok (.ifCond .eq 12, 3) := by decide +kernel
theorem dX6_copy_41 : decode cX6_copy 41 = .ok (.aload_n 0, 1) := by decide +kernel
theorem dX6_copy_42 : decode cX6_copy 42 = .ok (.getfield 12, 3) := by decide +kernel
theorem dX6_copy_45 : decode cX6_copy 45 = .ok (.iconst 1, 1) := by decide +kernel
theorem dX6_copy_46 : decode cX6_copy 46 = .ok (.invokevirtual 98, 3) := by decide +kernel
theorem dX6_copy_49 : decode cX6_copy 49 = .ok (.ireturn, 1) := by decide +kernel
theorem dX6_copy_50 : decode cX6_copy 50 = .ok (.aload_n 0, 1) := by decide +kernel
theorem dX6_copy_51 : decode cX6_copy 51 = .ok (.getfield 12, 3) := by decide +kernel
theorem dX6_copy_54 : decode cX6_copy 54 = .ok (.iload_n 1, 1) := by decide +kernel
theorem dX6_copy_55 : decode cX6_copy 55 = .ok (.invokevirtual 206, 3) := by decide +kernel
theorem dX6_copy_58 : decode cX6_copy 58 = .ok (.aload_n 0, 1) := by decide +kernel
theorem dX6_copy_59 : decode cX6_copy 59 = .ok (.getfield 12, 3) := by decide +kernel
theorem dX6_copy_62 : decode cX6_copy 62 = .ok (.iload_n 3, 1) := by decide +kernel
theorem dX6_copy_63 : decode cX6_copy 63 = .ok (.invokevirtual 206, 3) := by decide +kernel
theorem dX6_copy_66 : decode cX6_copy 66 = .ok (.if_icmp .eq 12, 3) := by decide +kernel
theorem dX6_copy_69 : decode cX6_copy 69 = .ok (.aload_n 0, 1) := by decide +kernel
theorem dX6_copy_70 : decode cX6_copy 70 = .ok (.getfield 12, 3) := by decide +kernel
theorem dX6_copy_73 : decode cX6_copy 73 = .ok (.iconst 4, 1) := by decide +kernel
theorem dX6_copy_74 : decode cX6_copy 74 = .ok (.invokevirtual 98, 3) := by decide +kernel
theorem dX6_copy_77 : decode cX6_copy 77 = .ok (.ireturn, 1) := by decide +kernel
theorem dX6_copy_78 : decode cX6_copy 78 = .ok (.aload_n 0, 1) := by decide +kernel
theorem dX6_copy_79 : decode cX6_copy 79 = .ok (.getfield 12, 3) := by decide +kernel
theorem dX6_copy_82 : decode cX6_copy 82 = .ok (.iload_n 1, 1) := by decide +kernel
theorem dX6_copy_83 : decode cX6_copy 83 = .ok (.iload_n 2, 1) := by decide +kernel
theorem dX6_copy_84 : decode cX6_copy 84 = .ok (.iload 5, 2) := by decide +kernel
theorem dX6_copy_86 : decode cX6_copy 86 = .ok (.invokevirtual 209, 3) := by decide +kernel
theorem dX6_copy_89 : decode cX6_copy 89 = .ok (.ifCond .eq 18, 3) := by decide +kernel
theorem dX6_copy_92 : decode cX6_copy 92 = .ok (.aload_n 0, 1) := by decide +kernel
theorem dX6_copy_93 : decode cX6_copy 93 = .ok (.getfield 12, 3) := by decide +kernel
theorem dX6_copy_96 : decode cX6_copy 96 = .ok (.iload_n 3, 1) := by decide +kernel
theorem dX6_copy_97 : decode cX6_copy 97 = .ok (.iload 4, 2) := by decide +kernel
theorem dX6_copy_99 : decode cX6_copy 99 = .ok (.iload 5, 2) := by decide +kernel
theorem dX6_copy_101 : decode cX6_copy 101 = .ok (.invokevirtual 209, 3) := by decide +kernel
theorem dX6_copy_104 : decode cX6_copy 104 = .ok (.ifCond .ne 12, 3) := by decide +kernel
theorem dX6_copy_107 : decode cX6_copy 107 = .ok (.aload_n 0, 1) := by decide +kernel
theorem dX6_copy_108 : decode cX6_copy 108 = .ok (.getfield 12, 3) := by decide +kernel
theorem dX6_copy_111 : decode cX6_copy 111 = .ok (.iconst 2, 1) := by decide +kernel
theorem dX6_copy_112 : decode cX6_copy 112 = .ok (.invokevirtual 98, 3) := by decide +kernel
theorem dX6_copy_115 : decode cX6_copy 115 = .ok (.ireturn, 1) := by decide +kernel
theorem dX6_copy_116 : decode cX6_copy 116 = .ok (.aload_n 0, 1) := by decide +kernel
theorem dX6_copy_117 : decode cX6_copy 117 = .ok (.getfield 12, 3) := by decide +kernel
theorem dX6_copy_120 : decode cX6_copy 120 = .ok (.iload_n 1, 1) := by decide +kernel
theorem dX6_copy_121 : decode cX6_copy 121 = .ok (.iload_n 2, 1) := by decide +kernel
theorem dX6_copy_122 : decode cX6_copy 122 = .ok (.iload_n 3, 1) := by decide +kernel
theorem dX6_copy_123 : decode cX6_copy 123 = .ok (.iload 4, 2) := by decide +kernel
theorem dX6_copy_125 : decode cX6_copy 125 = .ok (.iload 5, 2) := by decide +kernel
theorem dX6_copy_127 : decode cX6_copy 127 = .ok (.invokevirtual 213, 3) := by decide +kernel
theorem dX6_copy_130 : decode cX6_copy 130 = .ok (.iconst 1, 1) := by decide +kernel
theorem dX6_copy_131 : decode cX6_copy 131 = .ok (.ireturn, 1) := by decide +kernel
theorem dX6_write_0 : decode cX6_write 0 = .ok (.iload_n 1, 1) := by decide +kernel
theorem dX6_write_1 : decode cX6_write 1 = .ok (.bipush 6, 2) := by decide +kernel
theorem dX6_write_3 : decode cX6_write 3 = .ok (.invokestatic 72, 3) := by decide +kernel
theorem dX6_write_6 : decode cX6_write 6 = .ok (.ifCond .ne 11, 3) := by decide +kernel
theorem dX6_write_9 : decode cX6_write 9 = .ok (.iload_n 2, 1) := by decide +kernel
theorem dX6_write_10 : decode cX6_write 10 = .ok (.iconst 4, 1) := by decide +kernel
theorem dX6_write_11 : decode cX6_write 11 = .ok (.invokestatic 72, 3) := by decide +kernel
theorem dX6_write_14 : decode cX6_write 14 = .ok (.ifCond .eq 6, 3) := by decide +kernel
theorem dX6_write_17 : decode cX6_write 17 = .ok (.bipush (-2), 2) := by decide +kernel
theorem dX6_write_19 : decode cX6_write 19 = .ok (.ireturn, 1) := by decide +kernel
theorem dX6_write_20 : decode cX6_write 20 = .ok (.aload_n 0, 1) := by decide +kernel
theorem dX6_write_21 : decode cX6_write 21 = .ok (.getfield 12, 3) := by decide +kernel
theorem dX6_write_24 : decode cX6_write 24 = .ok (.iload_n 2, 1) := by decide +kernel
theorem dX6_write_25 : decode cX6_write 25 = .ok (.invokevirtual 94, 3) := by decide +kernel
theorem dX6_write_28 : decode cX6_write 28 = .ok (.ifCond .eq 12, 3) := by decide +kernel
theorem dX6_write_31 : decode cX6_write 31 = .ok (.aload_n 0, 1) := by decide +kernel
theorem dX6_write_32 : decode cX6_write 32 = .ok (.getfield 12, 3) := by decide +kernel
theorem dX6_write_35 : decode cX6_write 35 = .ok (.iconst 1, 1) := by decide +kernel
theorem dX6_write_36 : decode cX6_write 36 = .ok (.invokevirtual 98, 3) := by decide +kernel
theorem dX6_write_39 : decode cX6_write 39 = .ok (.ireturn, 1) := by decide +kernel
theorem dX6_write_40 : decode cX6_write 40 = .ok (.aload_n 0, 1) := by decide +kernel
theorem dX6_write_41 : decode cX6_write 41 = .ok (.invokevirtual 180, 3) := by decide +kernel
theorem dX6_write_44 : decode cX6_write 44 = .ok (.aload_n 0, 1) := by decide +kernel
theorem dX6_write_45 : decode cX6_write 45 = .ok (.iload_n 1, 1) := by decide +kernel
theorem dX6_write_46 : decode cX6_write 46 = .ok (.invokevirtual 186, 3) := by decide +kernel
theorem dX6_write_49 : decode cX6_write 49 = .ok (.aload_n 0, 1) := by decide +kernel
theorem dX6_write_50 : decode cX6_write 50 = .ok (.getfield 41, 3) := by decide +kernel
theorem dX6_write_53 : decode cX6_write 53 = .ok (.iconst (-1), 1) := by decide +kernel
theorem dX6_write_54 : decode cX6_write 54 = .ok (.invokevirtual 148, 3) := by decide +kernel
theorem dX6_write_57 : decode cX6_write 57 = .ok (.aload_n 0, 1) := by decide +kernel
theorem dX6_write_58 : decode cX6_write 58 = .ok (.getfield 12, 3) := by decide +kernel
theorem dX6_write_61 : decode cX6_write 61 = .ok (.iload_n 2, 1) := by decide +kernel
theorem dX6_write_62 : decode cX6_write 62 = .ok (.invokevirtual 101, 3) := by decide +kernel
theorem dX6_write_65 : decode cX6_write 65 = .ok (.invokestatic 217, 3) := by decide +kernel
theorem dX6_write_68 : decode cX6_write 68 = .ok (.istore_n 3, 1) := by decide +kernel
theorem dX6_write_69 : decode cX6_write 69 = .ok (.iconst 0, 1) := by decide +kernel
theorem dX6_write_70 : decode cX6_write 70 = .ok (.istore 4, 2) := by decide +kernel
theorem dX6_write_72 : decode cX6_write 72 = .ok (.iload 4, 2) := by decide +kernel
theorem dX6_write_74 : decode cX6_write 74 = .ok (.iload_n 3, 1) := by decide +kernel
theorem dX6_write_75 : decode cX6_write 75 = .ok (.if_icmp .ge 28, 3) := by decide +kernel
theorem dX6_write_78 : decode cX6_write 78 = .ok (.aload_n 0, 1) := by decide +kernel
theorem dX6_write_79 : decode cX6_write 79 = .ok (.getfield 12, 3) := by decide +kernel
theorem dX6_write_82 : decode cX6_write 82 = .ok (.iload_n 2, 1) := by decide +kernel
theorem dX6_write_83 : decode cX6_write 83 = .ok (.iload 4, 2) := by decide +kernel
theorem dX6_write_85 : decode cX6_write 85 = .ok (.aload_n 0, 1) := by decide +kernel
theorem dX6_write_86 : decode cX6_write 86 = .ok (.getfield 41, 3) := by decide +kernel
theorem dX6_write_89 : decode cX6_write 89 = .ok (.iload 4, 2) := by decide +kernel
theorem dX6_write_91 : decode cX6_write 91 = .ok (.invokevirtual 148, 3) := by decide +kernel
theorem dX6_write_94 : decode cX6_write 94 = .ok (.invokevirtual 202, 3) := by decide +kernel
theorem dX6_write_97 : decode cX6_write 97 = .ok (.iinc 4 1, 3) := by decide +kernel
theorem dX6_write_100 : decode cX6_write 100 = .ok (.goto (-28), 3) := by decide +kernel
theorem dX6_write_103 : decode cX6_write 103 = .ok (.iload_n 3, 1) := by decide +kernel
theorem dX6_write_104 : decode cX6_write 104 = .ok (.ireturn, 1) := by decide +kernel
theorem dX6_count_0 : decode cX6_count 0 = .ok (.iload_n 1, 1) := by decide +kernel
theorem dX6_count_1 : decode cX6_count 1 = .ok (.iconst 4, 1) := by decide +kernel
theorem dX6_count_2 : decode cX6_count 2 = .ok (.invokestatic 72, 3) := by decide +kernel
theorem dX6_count_5 : decode cX6_count 5 = .ok (.ifCond .ne 20, 3) := by decide +kernel
theorem dX6_count_8 : decode cX6_count 8 = .ok (.aload_n 0, 1) := by decide +kernel
theorem dX6_count_9 : decode cX6_count 9 = .ok (.getfield 50, 3) := by decide +kernel
theorem dX6_count_12 : decode cX6_count 12 = .ok (.iload_n 1, 1) := by decide +kernel
theorem dX6_count_13 : decode cX6_count 13 = .ok (.invokevirtual 166, 3) := by decide +kernel
theorem dX6_count_16 : decode cX6_count 16 = .ok (.ifCond .eq 7, 3) := by decide +kernel
theorem dX6_count_19 : decode cX6_count 19 = .ok (.iconst 1, 1) := by decide +kernel
theorem dX6_count_20 : decode cX6_count 20 = .ok (.goto 4, 3) := by decide +kernel
theorem dX6_count_23 : decode cX6_count 23 = .ok (.iconst 0, 1) := by decide +kernel
theorem dX6_count_24 : decode cX6_count 24 = .ok (.ireturn, 1) := by decide +kernel
theorem dX6_count_25 : decode cX6_count 25 = .ok (.iload_n 1, 1) := by decide +kernel
theorem dX6_count_26 : decode cX6_count 26 = .ok (.tableswitch 87 4 8 #[34, 42, 55, 68, 79], 34) := by decide +kernel
theorem dX6_count_60 : decode cX6_count 60 = .ok (.aload_n 0, 1) := by decide +kernel
theorem dX6_count_61 : decode cX6_count 61 = .ok (.getfield 50, 3) := by decide +kernel
theorem dX6_count_64 : decode cX6_count 64 = .ok (.invokevirtual 220, 3) := by decide +kernel
theorem dX6_count_67 : decode cX6_count 67 = .ok (.ireturn, 1) := by decide +kernel
theorem dX6_count_68 : decode cX6_count 68 = .ok (.aload_n 0, 1) := by decide +kernel
theorem dX6_count_69 : decode cX6_count 69 = .ok (.invokevirtual 180, 3) := by decide +kernel
theorem dX6_count_72 : decode cX6_count 72 = .ok (.aload_n 0, 1) := by decide +kernel
theorem dX6_count_73 : decode cX6_count 73 = .ok (.getfield 59, 3) := by decide +kernel
theorem dX6_count_76 : decode cX6_count 76 = .ok (.iconst 0, 1) := by decide +kernel
theorem dX6_count_77 : decode cX6_count 77 = .ok (.invokevirtual 183, 3) := by decide +kernel
theorem dX6_count_80 : decode cX6_count 80 = .ok (.ireturn, 1) := by decide +kernel
theorem dX6_count_81 : decode cX6_count 81 = .ok (.aload_n 0, 1) := by decide +kernel
theorem dX6_count_82 : decode cX6_count 82 = .ok (.invokevirtual 180, 3) := by decide +kernel
theorem dX6_count_85 : decode cX6_count 85 = .ok (.aload_n 0, 1) := by decide +kernel
theorem dX6_count_86 : decode cX6_count 86 = .ok (.getfield 59, 3) := by decide +kernel
theorem dX6_count_89 : decode cX6_count 89 = .ok (.iconst 2, 1) := by decide +kernel
theorem dX6_count_90 : decode cX6_count 90 = .ok (.invokevirtual 183, 3) := by decide +kernel
theorem dX6_count_93 : decode cX6_count 93 = .ok (.ireturn, 1) := by decide +kernel
theorem dX6_count_94 : decode cX6_count 94 = .ok (.aload_n 0, 1) := by decide +kernel
theorem dX6_count_95 : decode cX6_count 95 = .ok (.getfield 50, 3) := by decide +kernel
theorem dX6_count_98 : decode cX6_count 98 = .ok (.getfield 108, 3) := by decide +kernel
theorem dX6_count_101 : decode cX6_count 101 = .ok (.invokestatic 131, 3) := by decide +kernel
theorem dX6_count_104 : decode cX6_count 104 = .ok (.ireturn, 1) := by decide +kernel
theorem dX6_count_105 : decode cX6_count 105 = .ok (.aload_n 0, 1) := by decide +kernel
theorem dX6_count_106 : decode cX6_count 106 = .ok (.getfield 12, 3) := by decide +kernel
theorem dX6_count_109 : decode cX6_count 109 = .ok (.getfield 224, 3) := by decide +kernel
theorem dX6_count_112 : decode cX6_count 112 = .ok (.ireturn, 1) := by decide +kernel
theorem dX6_count_113 : decode cX6_count 113 = .ok (.bipush (-2), 2) := by decide +kernel
theorem dX6_count_115 : decode cX6_count 115 = .ok (.ireturn, 1) := by decide +kernel
theorem dX6_digest_0 : decode cX6_digest 0 = .ok (.ldc2_w 227, 3) := by decide +kernel
theorem dX6_digest_3 : decode cX6_digest 3 = .ok (.lstore_n 1, 1) := by decide +kernel
theorem dX6_digest_4 : decode cX6_digest 4 = .ok (.iconst 0, 1) := by decide +kernel
theorem dX6_digest_5 : decode cX6_digest 5 = .ok (.istore_n 3, 1) := by decide +kernel
theorem dX6_digest_6 : decode cX6_digest 6 = .ok (.iload_n 3, 1) := by decide +kernel
theorem dX6_digest_7 : decode cX6_digest 7 = .ok (.bipush 8, 2) := by decide +kernel
theorem dX6_digest_9 : decode cX6_digest 9 = .ok (.if_icmp .ge 22, 3) := by decide +kernel
theorem dX6_digest_12 : decode cX6_digest 12 = .ok (.ldc2_w 229, 3) := by decide +kernel
theorem dX6_digest_15 : decode cX6_digest 15 = .ok (.lload_n 1, 1) := by decide +kernel
theorem dX6_digest_16 : decode cX6_digest 16 = .ok (.lmul, 1) := by decide +kernel
theorem dX6_digest_17 : decode cX6_digest 17 = .ok (.aload_n 0, 1) := by decide +kernel
theorem dX6_digest_18 : decode cX6_digest 18 = .ok (.iload_n 3, 1) := by decide +kernel
theorem dX6_digest_19 : decode cX6_digest 19 = .ok (.invokevirtual 231, 3) := by decide +kernel
theorem dX6_digest_22 : decode cX6_digest 22 = .ok (.i2l, 1) := by decide +kernel
theorem dX6_digest_23 : decode cX6_digest 23 = .ok (.ladd, 1) := by decide +kernel
theorem dX6_digest_24 : decode cX6_digest 24 = .ok (.lstore_n 1, 1) := by decide +kernel
theorem dX6_digest_25 : decode cX6_digest 25 = .ok (.iinc 3 1, 3) := by decide +kernel
theorem dX6_digest_28 : decode cX6_digest 28 = .ok (.goto (-22), 3) := by decide +kernel
theorem dX6_digest_31 : decode cX6_digest 31 = .ok (.iconst 0, 1) := by decide +kernel
theorem dX6_digest_32 : decode cX6_digest 32 = .ok (.istore_n 3, 1) := by decide +kernel
theorem dX6_digest_33 : decode cX6_digest 33 = .ok (.iload_n 3, 1) := by decide +kernel
theorem dX6_digest_34 : decode cX6_digest 34 = .ok (.bipush 10, 2) := by decide +kernel
theorem dX6_digest_36 : decode cX6_digest 36 = .ok (.if_icmp .ge 22, 3) := by decide +kernel
theorem dX6_digest_39 : decode cX6_digest 39 = .ok (.ldc2_w 229, 3) := by decide +kernel
theorem dX6_digest_42 : decode cX6_digest 42 = .ok (.lload_n 1, 1) := by decide +kernel
theorem dX6_digest_43 : decode cX6_digest 43 = .ok (.lmul, 1) := by decide +kernel
theorem dX6_digest_44 : decode cX6_digest 44 = .ok (.aload_n 0, 1) := by decide +kernel
theorem dX6_digest_45 : decode cX6_digest 45 = .ok (.iload_n 3, 1) := by decide +kernel
theorem dX6_digest_46 : decode cX6_digest 46 = .ok (.invokevirtual 234, 3) := by decide +kernel
theorem dX6_digest_49 : decode cX6_digest 49 = .ok (.i2l, 1) := by decide +kernel
theorem dX6_digest_50 : decode cX6_digest 50 = .ok (.ladd, 1) := by decide +kernel
theorem dX6_digest_51 : decode cX6_digest 51 = .ok (.lstore_n 1, 1) := by decide +kernel
theorem dX6_digest_52 : decode cX6_digest 52 = .ok (.iinc 3 1, 3) := by decide +kernel
theorem dX6_digest_55 : decode cX6_digest 55 = .ok (.goto (-22), 3) := by decide +kernel
theorem dX6_digest_58 : decode cX6_digest 58 = .ok (.iconst 0, 1) := by decide +kernel
theorem dX6_digest_59 : decode cX6_digest 59 = .ok (.istore_n 3, 1) := by decide +kernel
theorem dX6_digest_60 : decode cX6_digest 60 = .ok (.iload_n 3, 1) := by decide +kernel
theorem dX6_digest_61 : decode cX6_digest 61 = .ok (.bipush 6, 2) := by decide +kernel
theorem dX6_digest_63 : decode cX6_digest 63 = .ok (.if_icmp .ge 66, 3) := by decide +kernel
theorem dX6_digest_66 : decode cX6_digest 66 = .ok (.ldc2_w 229, 3) := by decide +kernel
theorem dX6_digest_69 : decode cX6_digest 69 = .ok (.lload_n 1, 1) := by decide +kernel
theorem dX6_digest_70 : decode cX6_digest 70 = .ok (.lmul, 1) := by decide +kernel
theorem dX6_digest_71 : decode cX6_digest 71 = .ok (.aload_n 0, 1) := by decide +kernel
theorem dX6_digest_72 : decode cX6_digest 72 = .ok (.iload_n 3, 1) := by decide +kernel
theorem dX6_digest_73 : decode cX6_digest 73 = .ok (.iconst 0, 1) := by decide +kernel
theorem dX6_digest_74 : decode cX6_digest 74 = .ok (.invokevirtual 237, 3) := by decide +kernel
theorem dX6_digest_77 : decode cX6_digest 77 = .ok (.i2l, 1) := by decide +kernel
theorem dX6_digest_78 : decode cX6_digest 78 = .ok (.ladd, 1) := by decide +kernel
theorem dX6_digest_79 : decode cX6_digest 79 = .ok (.lstore_n 1, 1) := by decide +kernel
theorem dX6_digest_80 : decode cX6_digest 80 = .ok (.ldc2_w 229, 3) := by decide +kernel
theorem dX6_digest_83 : decode cX6_digest 83 = .ok (.lload_n 1, 1) := by decide +kernel
theorem dX6_digest_84 : decode cX6_digest 84 = .ok (.lmul, 1) := by decide +kernel
theorem dX6_digest_85 : decode cX6_digest 85 = .ok (.aload_n 0, 1) := by decide +kernel
theorem dX6_digest_86 : decode cX6_digest 86 = .ok (.iload_n 3, 1) := by decide +kernel
theorem dX6_digest_87 : decode cX6_digest 87 = .ok (.iconst 1, 1) := by decide +kernel
theorem dX6_digest_88 : decode cX6_digest 88 = .ok (.invokevirtual 237, 3) := by decide +kernel
theorem dX6_digest_91 : decode cX6_digest 91 = .ok (.i2l, 1) := by decide +kernel
theorem dX6_digest_92 : decode cX6_digest 92 = .ok (.ladd, 1) := by decide +kernel
theorem dX6_digest_93 : decode cX6_digest 93 = .ok (.lstore_n 1, 1) := by decide +kernel
theorem dX6_digest_94 : decode cX6_digest 94 = .ok (.ldc2_w 229, 3) := by decide +kernel
theorem dX6_digest_97 : decode cX6_digest 97 = .ok (.lload_n 1, 1) := by decide +kernel
theorem dX6_digest_98 : decode cX6_digest 98 = .ok (.lmul, 1) := by decide +kernel
theorem dX6_digest_99 : decode cX6_digest 99 = .ok (.aload_n 0, 1) := by decide +kernel
theorem dX6_digest_100 : decode cX6_digest 100 = .ok (.iload_n 3, 1) := by decide +kernel
theorem dX6_digest_101 : decode cX6_digest 101 = .ok (.iconst 2, 1) := by decide +kernel
theorem dX6_digest_102 : decode cX6_digest 102 = .ok (.invokevirtual 240, 3) := by decide +kernel
theorem dX6_digest_105 : decode cX6_digest 105 = .ok (.i2l, 1) := by decide +kernel
theorem dX6_digest_106 : decode cX6_digest 106 = .ok (.ladd, 1) := by decide +kernel
theorem dX6_digest_107 : decode cX6_digest 107 = .ok (.lstore_n 1, 1) := by decide +kernel
theorem dX6_digest_108 : decode cX6_digest 108 = .ok (.ldc2_w 229, 3) := by decide +kernel
theorem dX6_digest_111 : decode cX6_digest 111 = .ok (.lload_n 1, 1) := by decide +kernel
theorem dX6_digest_112 : decode cX6_digest 112 = .ok (.lmul, 1) := by decide +kernel
theorem dX6_digest_113 : decode cX6_digest 113 = .ok (.aload_n 0, 1) := by decide +kernel
theorem dX6_digest_114 : decode cX6_digest 114 = .ok (.iload_n 3, 1) := by decide +kernel
theorem dX6_digest_115 : decode cX6_digest 115 = .ok (.bipush (-3), 2) := by decide +kernel
theorem dX6_digest_117 : decode cX6_digest 117 = .ok (.invokevirtual 240, 3) := by decide +kernel
theorem dX6_digest_120 : decode cX6_digest 120 = .ok (.i2l, 1) := by decide +kernel
theorem dX6_digest_121 : decode cX6_digest 121 = .ok (.ladd, 1) := by decide +kernel
theorem dX6_digest_122 : decode cX6_digest 122 = .ok (.lstore_n 1, 1) := by decide +kernel
theorem dX6_digest_123 : decode cX6_digest 123 = .ok (.iinc 3 1, 3) := by decide +kernel
theorem dX6_digest_126 : decode cX6_digest 126 = .ok (.goto (-66), 3) := by decide +kernel
theorem dX6_digest_129 : decode cX6_digest 129 = .ok (.iconst 0, 1) := by decide +kernel
theorem dX6_digest_130 : decode cX6_digest 130 = .ok (.istore_n 3, 1) := by decide +kernel
theorem dX6_digest_131 : decode cX6_digest 131 = .ok (.iload_n 3, 1) := by decide +kernel
theorem dX6_digest_132 : decode cX6_digest 132 = .ok (.iconst 4, 1) := by decide +kernel
theorem dX6_digest_133 : decode cX6_digest 133 = .ok (.if_icmp .ge 22, 3) := by decide +kernel
theorem dX6_digest_136 : decode cX6_digest 136 = .ok (.ldc2_w 229, 3) := by decide +kernel
theorem dX6_digest_139 : decode cX6_digest 139 = .ok (.lload_n 1, 1) := by decide +kernel
theorem dX6_digest_140 : decode cX6_digest 140 = .ok (.lmul, 1) := by decide +kernel
theorem dX6_digest_141 : decode cX6_digest 141 = .ok (.aload_n 0, 1) := by decide +kernel
theorem dX6_digest_142 : decode cX6_digest 142 = .ok (.iload_n 3, 1) := by decide +kernel
theorem dX6_digest_143 : decode cX6_digest 143 = .ok (.invokevirtual 243, 3) := by decide +kernel
theorem dX6_digest_146 : decode cX6_digest 146 = .ok (.i2l, 1) := by decide +kernel
theorem dX6_digest_147 : decode cX6_digest 147 = .ok (.ladd, 1) := by decide +kernel
theorem dX6_digest_148 : decode cX6_digest 148 = .ok (.lstore_n 1, 1) := by decide +kernel
theorem dX6_digest_149 : decode cX6_digest 149 = .ok (.iinc 3 1, 3) := by decide +kernel
theorem dX6_digest_152 : decode cX6_digest 152 = .ok (.goto (-21), 3) := by decide +kernel
theorem dX6_digest_155 : decode cX6_digest 155 = .ok (.iconst (-1), 1) := by decide +kernel
theorem dX6_digest_156 : decode cX6_digest 156 = .ok (.istore_n 3, 1) := by decide +kernel
theorem dX6_digest_157 : decode cX6_digest 157 = .ok (.iload_n 3, 1) := by decide +kernel
theorem dX6_digest_158 : decode cX6_digest 158 = .ok (.bipush 15, 2) := by decide +kernel
theorem dX6_digest_160 : decode cX6_digest 160 = .ok (.if_icmp .ge 22, 3) := by decide +kernel
theorem dX6_digest_163 : decode cX6_digest 163 = .ok (.ldc2_w 229, 3) := by decide +kernel
theorem dX6_digest_166 : decode cX6_digest 166 = .ok (.lload_n 1, 1) := by decide +kernel
theorem dX6_digest_167 : decode cX6_digest 167 = .ok (.lmul, 1) := by decide +kernel
theorem dX6_digest_168 : decode cX6_digest 168 = .ok (.aload_n 0, 1) := by decide +kernel
theorem dX6_digest_169 : decode cX6_digest 169 = .ok (.iload_n 3, 1) := by decide +kernel
theorem dX6_digest_170 : decode cX6_digest 170 = .ok (.invokevirtual 246, 3) := by decide +kernel
theorem dX6_digest_173 : decode cX6_digest 173 = .ok (.i2l, 1) := by decide +kernel
theorem dX6_digest_174 : decode cX6_digest 174 = .ok (.ladd, 1) := by decide +kernel
theorem dX6_digest_175 : decode cX6_digest 175 = .ok (.lstore_n 1, 1) := by decide +kernel
theorem dX6_digest_176 : decode cX6_digest 176 = .ok (.iinc 3 1, 3) := by decide +kernel
theorem dX6_digest_179 : decode cX6_digest 179 = .ok (.goto (-22), 3) := by decide +kernel
theorem dX6_digest_182 : decode cX6_digest 182 = .ok (.iconst 0, 1) := by decide +kernel
theorem dX6_digest_183 : decode cX6_digest 183 = .ok (.istore_n 3, 1) := by decide +kernel
theorem dX6_digest_184 : decode cX6_digest 184 = .ok (.iload_n 3, 1) := by decide +kernel
theorem dX6_digest_185 : decode cX6_digest 185 = .ok (.bipush 8, 2) := by decide +kernel
theorem dX6_digest_187 : decode cX6_digest 187 = .ok (.if_icmp .ge 85, 3) := by decide +kernel
theorem dX6_digest_190 : decode cX6_digest 190 = .ok (.iconst 0, 1) := by decide +kernel
theorem dX6_digest_191 : decode cX6_digest 191 = .ok (.istore 4, 2) := by decide +kernel
theorem dX6_digest_193 : decode cX6_digest 193 = .ok (.iload 4, 2) := by decide +kernel
theorem dX6_digest_195 : decode cX6_digest 195 = .ok (.iconst 4, 1) := by decide +kernel
theorem dX6_digest_196 : decode cX6_digest 196 = .ok (.if_icmp .ge 24, 3) := by decide +kernel
theorem dX6_digest_199 : decode cX6_digest 199 = .ok (.ldc2_w 229, 3) := by decide +kernel
theorem dX6_digest_202 : decode cX6_digest 202 = .ok (.lload_n 1, 1) := by decide +kernel
theorem dX6_digest_203 : decode cX6_digest 203 = .ok (.lmul, 1) := by decide +kernel
theorem dX6_digest_204 : decode cX6_digest 204 = .ok (.aload_n 0, 1) := by decide +kernel
theorem dX6_digest_205 : decode cX6_digest 205 = .ok (.iload_n 3, 1) := by decide +kernel
theorem dX6_digest_206 : decode cX6_digest 206 = .ok (.iload 4, 2) := by decide +kernel
theorem dX6_digest_208 : decode cX6_digest 208 = .ok (.invokevirtual 249, 3) := by decide +kernel
theorem dX6_digest_211 : decode cX6_digest 211 = .ok (.i2l, 1) := by decide +kernel
theorem dX6_digest_212 : decode cX6_digest 212 = .ok (.ladd, 1) := by decide +kernel
theorem dX6_digest_213 : decode cX6_digest 213 = .ok (.lstore_n 1, 1) := by decide +kernel
theorem dX6_digest_214 : decode cX6_digest 214 = .ok (.iinc 4 1, 3) := by decide +kernel
theorem dX6_digest_217 : decode cX6_digest 217 = .ok (.goto (-24), 3) := by decide +kernel
theorem dX6_digest_220 : decode cX6_digest 220 = .ok (.iconst (-1), 1) := by decide +kernel
theorem dX6_digest_221 : decode cX6_digest 221 = .ok (.istore 4, 2) := by decide +kernel
theorem dX6_digest_223 : decode cX6_digest 223 = .ok (.iload 4, 2) := by decide +kernel
theorem dX6_digest_225 : decode cX6_digest 225 = .ok (.bipush 30, 2) := by decide +kernel
theorem dX6_digest_227 : decode cX6_digest 227 = .ok (.if_icmp .ge 39, 3) := by decide +kernel
theorem dX6_digest_230 : decode cX6_digest 230 = .ok (.ldc2_w 229, 3) := by decide +kernel
theorem dX6_digest_233 : decode cX6_digest 233 = .ok (.lload_n 1, 1) := by decide +kernel
theorem dX6_digest_234 : decode cX6_digest 234 = .ok (.lmul, 1) := by decide +kernel
theorem dX6_digest_235 : decode cX6_digest 235 = .ok (.aload_n 0, 1) := by decide +kernel
theorem dX6_digest_236 : decode cX6_digest 236 = .ok (.iload_n 3, 1) := by decide +kernel
theorem dX6_digest_237 : decode cX6_digest 237 = .ok (.iload 4, 2) := by decide +kernel
theorem dX6_digest_239 : decode cX6_digest 239 = .ok (.invokevirtual 252, 3) := by decide +kernel
theorem dX6_digest_242 : decode cX6_digest 242 = .ok (.i2l, 1) := by decide +kernel
theorem dX6_digest_243 : decode cX6_digest 243 = .ok (.ladd, 1) := by decide +kernel
theorem dX6_digest_244 : decode cX6_digest 244 = .ok (.lstore_n 1, 1) := by decide +kernel
theorem dX6_digest_245 : decode cX6_digest 245 = .ok (.ldc2_w 229, 3) := by decide +kernel
theorem dX6_digest_248 : decode cX6_digest 248 = .ok (.lload_n 1, 1) := by decide +kernel
theorem dX6_digest_249 : decode cX6_digest 249 = .ok (.lmul, 1) := by decide +kernel
theorem dX6_digest_250 : decode cX6_digest 250 = .ok (.aload_n 0, 1) := by decide +kernel
theorem dX6_digest_251 : decode cX6_digest 251 = .ok (.iload_n 3, 1) := by decide +kernel
theorem dX6_digest_252 : decode cX6_digest 252 = .ok (.iload 4, 2) := by decide +kernel
theorem dX6_digest_254 : decode cX6_digest 254 = .ok (.invokevirtual 255, 3) := by decide +kernel
theorem dX6_digest_257 : decode cX6_digest 257 = .ok (.i2l, 1) := by decide +kernel
theorem dX6_digest_258 : decode cX6_digest 258 = .ok (.ladd, 1) := by decide +kernel
theorem dX6_digest_259 : decode cX6_digest 259 = .ok (.lstore_n 1, 1) := by decide +kernel
theorem dX6_digest_260 : decode cX6_digest 260 = .ok (.iinc 4 1, 3) := by decide +kernel
theorem dX6_digest_263 : decode cX6_digest 263 = .ok (.goto (-40), 3) := by decide +kernel
theorem dX6_digest_266 : decode cX6_digest 266 = .ok (.iinc 3 1, 3) := by decide +kernel
theorem dX6_digest_269 : decode cX6_digest 269 = .ok (.goto (-85), 3) := by decide +kernel
theorem dX6_digest_272 : decode cX6_digest 272 = .ok (.iconst 0, 1) := by decide +kernel
theorem dX6_digest_273 : decode cX6_digest 273 = .ok (.istore_n 3, 1) := by decide +kernel
theorem dX6_digest_274 : decode cX6_digest 274 = .ok (.iload_n 3, 1) := by decide +kernel
theorem dX6_digest_275 : decode cX6_digest 275 = .ok (.iconst 4, 1) := by decide +kernel
theorem dX6_digest_276 : decode cX6_digest 276 = .ok (.if_icmp .ge 22, 3) := by decide +kernel
theorem dX6_digest_279 : decode cX6_digest 279 = .ok (.ldc2_w 229, 3) := by decide +kernel
theorem dX6_digest_282 : decode cX6_digest 282 = .ok (.lload_n 1, 1) := by decide +kernel
theorem dX6_digest_283 : decode cX6_digest 283 = .ok (.lmul, 1) := by decide +kernel
theorem dX6_digest_284 : decode cX6_digest 284 = .ok (.aload_n 0, 1) := by decide +kernel
theorem dX6_digest_285 : decode cX6_digest 285 = .ok (.iload_n 3, 1) := by decide +kernel
theorem dX6_digest_286 : decode cX6_digest 286 = .ok (.invokevirtual 258, 3) := by decide +kernel
theorem dX6_digest_289 : decode cX6_digest 289 = .ok (.i2l, 1) := by decide +kernel
theorem dX6_digest_290 : decode cX6_digest 290 = .ok (.ladd, 1) := by decide +kernel
theorem dX6_digest_291 : decode cX6_digest 291 = .ok (.lstore_n 1, 1) := by decide +kernel
theorem dX6_digest_292 : decode cX6_digest 292 = .ok (.iinc 3 1, 3) := by decide +kernel
theorem dX6_digest_295 : decode cX6_digest 295 = .ok (.goto (-21), 3) := by decide +kernel
theorem dX6_digest_298 : decode cX6_digest 298 = .ok (.iconst 0, 1) := by decide +kernel
theorem dX6_digest_299 : decode cX6_digest 299 = .ok (.istore_n 3, 1) := by decide +kernel
theorem dX6_digest_300 : decode cX6_digest 300 = .ok (.iload_n 3, 1) := by decide +kernel
theorem dX6_digest_301 : decode cX6_digest 301 = .ok (.iconst 4, 1) := by decide +kernel
theorem dX6_digest_302 : decode cX6_digest 302 = .ok (.if_icmp .ge 22, 3) := by decide +kernel
theorem dX6_digest_305 : decode cX6_digest 305 = .ok (.ldc2_w 229, 3) := by decide +kernel
theorem dX6_digest_308 : decode cX6_digest 308 = .ok (.lload_n 1, 1) := by decide +kernel
theorem dX6_digest_309 : decode cX6_digest 309 = .ok (.lmul, 1) := by decide +kernel
theorem dX6_digest_310 : decode cX6_digest 310 = .ok (.aload_n 0, 1) := by decide +kernel
theorem dX6_digest_311 : decode cX6_digest 311 = .ok (.iload_n 3, 1) := by decide +kernel
theorem dX6_digest_312 : decode cX6_digest 312 = .ok (.invokevirtual 261, 3) := by decide +kernel
theorem dX6_digest_315 : decode cX6_digest 315 = .ok (.i2l, 1) := by decide +kernel
theorem dX6_digest_316 : decode cX6_digest 316 = .ok (.ladd, 1) := by decide +kernel
theorem dX6_digest_317 : decode cX6_digest 317 = .ok (.lstore_n 1, 1) := by decide +kernel
theorem dX6_digest_318 : decode cX6_digest 318 = .ok (.iinc 3 1, 3) := by decide +kernel
theorem dX6_digest_321 : decode cX6_digest 321 = .ok (.goto (-21), 3) := by decide +kernel
theorem dX6_digest_324 : decode cX6_digest 324 = .ok (.iconst 0, 1) := by decide +kernel
theorem dX6_digest_325 : decode cX6_digest 325 = .ok (.istore_n 3, 1) := by decide +kernel
theorem dX6_digest_326 : decode cX6_digest 326 = .ok (.iload_n 3, 1) := by decide +kernel
theorem dX6_digest_327 : decode cX6_digest 327 = .ok (.bipush 6, 2) := by decide +kernel
theorem dX6_digest_329 : decode cX6_digest 329 = .ok (.if_icmp .ge 66, 3) := by decide +kernel
theorem dX6_digest_332 : decode cX6_digest 332 = .ok (.iconst (-1), 1) := by decide +kernel
theorem dX6_digest_333 : decode cX6_digest 333 = .ok (.istore 4, 2) := by decide +kernel
theorem dX6_digest_335 : decode cX6_digest 335 = .ok (.iload 4, 2) := by decide +kernel
theorem dX6_digest_337 : decode cX6_digest 337 = .ok (.bipush 60, 2) := by decide +kernel
theorem dX6_digest_339 : decode cX6_digest 339 = .ok (.if_icmp .ge 24, 3) := by decide +kernel
theorem dX6_digest_342 : decode cX6_digest 342 = .ok (.ldc2_w 229, 3) := by decide +kernel
theorem dX6_digest_345 : decode cX6_digest 345 = .ok (.lload_n 1, 1) := by decide +kernel
theorem dX6_digest_346 : decode cX6_digest 346 = .ok (.lmul, 1) := by decide +kernel
theorem dX6_digest_347 : decode cX6_digest 347 = .ok (.aload_n 0, 1) := by decide +kernel
theorem dX6_digest_348 : decode cX6_digest 348 = .ok (.iload_n 3, 1) := by decide +kernel
theorem dX6_digest_349 : decode cX6_digest 349 = .ok (.iload 4, 2) := by decide +kernel
theorem dX6_digest_351 : decode cX6_digest 351 = .ok (.invokevirtual 264, 3) := by decide +kernel
theorem dX6_digest_354 : decode cX6_digest 354 = .ok (.i2l, 1) := by decide +kernel
theorem dX6_digest_355 : decode cX6_digest 355 = .ok (.ladd, 1) := by decide +kernel
theorem dX6_digest_356 : decode cX6_digest 356 = .ok (.lstore_n 1, 1) := by decide +kernel
theorem dX6_digest_357 : decode cX6_digest 357 = .ok (.iinc 4 1, 3) := by decide +kernel
theorem dX6_digest_360 : decode cX6_digest 360 = .ok (.goto (-25), 3) := by decide +kernel
theorem dX6_digest_363 : decode cX6_digest 363 = .ok (.ldc2_w 229, 3) := by decide +kernel
theorem dX6_digest_366 : decode cX6_digest 366 = .ok (.lload_n 1, 1) := by decide +kernel
theorem dX6_digest_367 : decode cX6_digest 367 = .ok (.lmul, 1) := by decide +kernel
theorem dX6_digest_368 : decode cX6_digest 368 = .ok (.aload_n 0, 1) := by decide +kernel
theorem dX6_digest_369 : decode cX6_digest 369 = .ok (.iload_n 3, 1) := by decide +kernel
theorem dX6_digest_370 : decode cX6_digest 370 = .ok (.invokevirtual 267, 3) := by decide +kernel
theorem dX6_digest_373 : decode cX6_digest 373 = .ok (.i2l, 1) := by decide +kernel
theorem dX6_digest_374 : decode cX6_digest 374 = .ok (.ladd, 1) := by decide +kernel
theorem dX6_digest_375 : decode cX6_digest 375 = .ok (.lstore_n 1, 1) := by decide +kernel
theorem dX6_digest_376 : decode cX6_digest 376 = .ok (.ldc2_w 229, 3) := by decide +kernel
theorem dX6_digest_379 : decode cX6_digest 379 = .ok (.lload_n 1, 1) := by decide +kernel
theorem dX6_digest_380 : decode cX6_digest 380 = .ok (.lmul, 1) := by decide +kernel
theorem dX6_digest_381 : decode cX6_digest 381 = .ok (.aload_n 0, 1) := by decide +kernel
theorem dX6_digest_382 : decode cX6_digest 382 = .ok (.iload_n 3, 1) := by decide +kernel
theorem dX6_digest_383 : decode cX6_digest 383 = .ok (.invokevirtual 270, 3) := by decide +kernel
theorem dX6_digest_386 : decode cX6_digest 386 = .ok (.i2l, 1) := by decide +kernel
theorem dX6_digest_387 : decode cX6_digest 387 = .ok (.ladd, 1) := by decide +kernel
theorem dX6_digest_388 : decode cX6_digest 388 = .ok (.lstore_n 1, 1) := by decide +kernel
theorem dX6_digest_389 : decode cX6_digest 389 = .ok (.iinc 3 1, 3) := by decide +kernel
theorem dX6_digest_392 : decode cX6_digest 392 = .ok (.goto (-66), 3) := by decide +kernel
theorem dX6_digest_395 : decode cX6_digest 395 = .ok (.iconst 0, 1) := by decide +kernel
theorem dX6_digest_396 : decode cX6_digest 396 = .ok (.istore_n 3, 1) := by decide +kernel
theorem dX6_digest_397 : decode cX6_digest 397 = .ok (.iload_n 3, 1) := by decide +kernel
theorem dX6_digest_398 : decode cX6_digest 398 = .ok (.bipush 24, 2) := by decide +kernel
theorem dX6_digest_400 : decode cX6_digest 400 = .ok (.if_icmp .ge 39, 3) := by decide +kernel
theorem dX6_digest_403 : decode cX6_digest 403 = .ok (.iconst 0, 1) := by decide +kernel
theorem dX6_digest_404 : decode cX6_digest 404 = .ok (.istore 4, 2) := by decide +kernel
theorem dX6_digest_406 : decode cX6_digest 406 = .ok (.iload 4, 2) := by decide +kernel
theorem dX6_digest_408 : decode cX6_digest 408 = .ok (.iconst 4, 1) := by decide +kernel
theorem dX6_digest_409 : decode cX6_digest 409 = .ok (.if_icmp .ge 24, 3) := by decide +kernel
theorem dX6_digest_412 : decode cX6_digest 412 = .ok (.ldc2_w 229, 3) := by decide +kernel
theorem dX6_digest_415 : decode cX6_digest 415 = .ok (.lload_n 1, 1) := by decide +kernel
theorem dX6_digest_416 : decode cX6_digest 416 = .ok (.lmul, 1) := by decide +kernel
theorem dX6_digest_417 : decode cX6_digest 417 = .ok (.aload_n 0, 1) := by decide +kernel
theorem dX6_digest_418 : decode cX6_digest 418 = .ok (.iload_n 3, 1) := by decide +kernel
theorem dX6_digest_419 : decode cX6_digest 419 = .ok (.iload 4, 2) := by decide +kernel
theorem dX6_digest_421 : decode cX6_digest 421 = .ok (.invokevirtual 273, 3) := by decide +kernel
theorem dX6_digest_424 : decode cX6_digest 424 = .ok (.i2l, 1) := by decide +kernel
theorem dX6_digest_425 : decode cX6_digest 425 = .ok (.ladd, 1) := by decide +kernel
theorem dX6_digest_426 : decode cX6_digest 426 = .ok (.lstore_n 1, 1) := by decide +kernel
theorem dX6_digest_427 : decode cX6_digest 427 = .ok (.iinc 4 1, 3) := by decide +kernel
theorem dX6_digest_430 : decode cX6_digest 430 = .ok (.goto (-24), 3) := by decide +kernel
theorem dX6_digest_433 : decode cX6_digest 433 = .ok (.iinc 3 1, 3) := by decide +kernel
theorem dX6_digest_436 : decode cX6_digest 436 = .ok (.goto (-39), 3) := by decide +kernel
theorem dX6_digest_439 : decode cX6_digest 439 = .ok (.ldc2_w 229, 3) := by decide +kernel
theorem dX6_digest_442 : decode cX6_digest 442 = .ok (.lload_n 1, 1) := by decide +kernel
theorem dX6_digest_443 : decode cX6_digest 443 = .ok (.lmul, 1) := by decide +kernel
theorem dX6_digest_444 : decode cX6_digest 444 = .ok (.aload_n 0, 1) := by decide +kernel
theorem dX6_digest_445 : decode cX6_digest 445 = .ok (.invokevirtual 276, 3) := by decide +kernel
theorem dX6_digest_448 : decode cX6_digest 448 = .ok (.i2l, 1) := by decide +kernel
theorem dX6_digest_449 : decode cX6_digest 449 = .ok (.ladd, 1) := by decide +kernel
theorem dX6_digest_450 : decode cX6_digest 450 = .ok (.lreturn, 1) := by decide +kernel
theorem dX6_isOutside_0 : decode cX6_isOutside 0 = .ok (.iload_n 0, 1) := by decide +kernel
theorem dX6_isOutside_1 : decode cX6_isOutside 1 = .ok (.ifCond .lt 8, 3) := by decide +kernel
theorem dX6_isOutside_4 : decode cX6_isOutside 4 = .ok (.iload_n 0, 1) := by decide +kernel
theorem dX6_isOutside_5 : decode cX6_isOutside 5 = .ok (.iload_n 1, 1) := by decide +kernel
theorem dX6_isOutside_6 : decode cX6_isOutside 6 = .ok (.if_icmp .lt 7, 3) := by decide +kernel
theorem dX6_isOutside_9 : decode cX6_isOutside 9 = .ok (.iconst 1, 1) := by decide +kernel
theorem dX6_isOutside_10 : decode cX6_isOutside 10 = .ok (.goto 4, 3) := by decide +kernel
theorem dX6_isOutside_13 : decode cX6_isOutside 13 = .ok (.iconst 0, 1) := by decide +kernel
theorem dX6_isOutside_14 : decode cX6_isOutside 14 = .ok (.ireturn, 1) := by decide +kernel
theorem dX6_isNoPlace_0 : decode cX6_isNoPlace 0 = .ok (.iload_n 0, 1) := by decide +kernel
theorem dX6_isNoPlace_1 : decode cX6_isNoPlace 1 = .ok (.iconst (-1), 1) := by decide +kernel
theorem dX6_isNoPlace_2 : decode cX6_isNoPlace 2 = .ok (.if_icmp .lt 9, 3) := by decide +kernel
theorem dX6_isNoPlace_5 : decode cX6_isNoPlace 5 = .ok (.iload_n 0, 1) := by decide +kernel
theorem dX6_isNoPlace_6 : decode cX6_isNoPlace 6 = .ok (.bipush 60, 2) := by decide +kernel
theorem dX6_isNoPlace_8 : decode cX6_isNoPlace 8 = .ok (.if_icmp .lt 7, 3) := by decide +kernel
theorem dX6_isNoPlace_11 : decode cX6_isNoPlace 11 = .ok (.iconst 1, 1) := by decide +kernel
theorem dX6_isNoPlace_12 : decode cX6_isNoPlace 12 = .ok (.goto 4, 3) := by decide +kernel
theorem dX6_isNoPlace_15 : decode cX6_isNoPlace 15 = .ok (.iconst 0, 1) := by decide +kernel
theorem dX6_isNoPlace_16 : decode cX6_isNoPlace 16 = .ok (.ireturn, 1) := by decide +kernel
theorem dX6_noteChange_0 : decode cX6_noteChange 0 = .ok (.aload_n 0, 1) := by decide +kernel
theorem dX6_noteChange_1 : decode cX6_noteChange 1 = .ok (.getfield 50, 3) := by decide +kernel
theorem dX6_noteChange_4 : decode cX6_noteChange 4 = .ok (.iload_n 1, 1) := by decide +kernel
theorem dX6_noteChange_5 : decode cX6_noteChange 5 = .ok (.invokevirtual 279, 3) := by decide +kernel
theorem dX6_noteChange_8 : decode cX6_noteChange 8 = .ok (.aload_n 0, 1) := by decide +kernel
theorem dX6_noteChange_9 : decode cX6_noteChange 9 = .ok (.iconst 0, 1) := by decide +kernel
theorem dX6_noteChange_10 : decode cX6_noteChange 10 = .ok (.putfield 16, 3) := by decide +kernel
theorem dX6_noteChange_13 : decode cX6_noteChange 13 = .ok (.aload_n 0, 1) := by decide +kernel
theorem dX6_noteChange_14 : decode cX6_noteChange 14 = .ok (.iconst 0, 1) := by decide +kernel
theorem dX6_noteChange_15 : decode cX6_noteChange 15 = .ok (.putfield 24, 3) := by decide +kernel
theorem dX6_noteChange_18 : decode cX6_noteChange 18 = .ok (.aload_n 0, 1) := by decide +kernel
theorem dX6_noteChange_19 : decode cX6_noteChange 19 = .ok (.getfield 34, 3) := by decide +kernel
theorem dX6_noteChange_22 : decode cX6_noteChange 22 = .ok (.invokevirtual 282, 3) := by decide +kernel
theorem dX6_noteChange_25 : decode cX6_noteChange 25 = .ok (.aload_n 0, 1) := by decide +kernel
theorem dX6_noteChange_26 : decode cX6_noteChange 26 = .ok (.getfield 38, 3) := by decide +kernel
theorem dX6_noteChange_29 : decode cX6_noteChange 29 = .ok (.invokevirtual 282, 3) := by decide +kernel
theorem dX6_noteChange_32 : decode cX6_noteChange 32 = .ok (.aload_n 0, 1) := by decide +kernel
theorem dX6_noteChange_33 : decode cX6_noteChange 33 = .ok (.getfield 41, 3) := by decide +kernel
theorem dX6_noteChange_36 : decode cX6_noteChange 36 = .ok (.invokevirtual 282, 3) := by decide +kernel
theorem dX6_noteChange_39 : decode cX6_noteChange 39 = .ok (.aload_n 0, 1) := by decide +kernel
theorem dX6_noteChange_40 : decode cX6_noteChange 40 = .ok (.getfield 44, 3) := by decide +kernel
theorem dX6_noteChange_43 : decode cX6_noteChange 43 = .ok (.invokevirtual 282, 3) := by decide +kernel
theorem dX6_noteChange_46 : decode cX6_noteChange 46 = .ok (.return_, 1) := by decide +kernel
theorem dX6_settle_0 : decode cX6_settle 0 = .ok (.aload_n 0, 1) := by decide +kernel
theorem dX6_settle_1 : decode cX6_settle 1 = .ok (.getfield 16, 3) := by decide +kernel
theorem dX6_settle_4 : decode cX6_settle 4 = .ok (.ifCond .ne 23, 3) := by decide +kernel
theorem dX6_settle_7 : decode cX6_settle 7 = .ok (.aload_n 0, 1) := by decide +kernel
theorem dX6_settle_8 : decode cX6_settle 8 = .ok (.getfield 59, 3) := by decide +kernel
theorem dX6_settle_11 : decode cX6_settle 11 = .ok (.getstatic 169, 3) := by decide +kernel
theorem dX6_settle_14 : decode cX6_settle 14 = .ok (.iconst 0, 1) := by decide +kernel
theorem dX6_settle_15 : decode cX6_settle 15 = .ok (.iaload, 1) := by decide +kernel
theorem dX6_settle_16 : decode cX6_settle 16 = .ok (.bipush 15, 2) := by decide +kernel
theorem dX6_settle_18 : decode cX6_settle 18 = .ok (.iconst 0, 1) := by decide +kernel
theorem dX6_settle_19 : decode cX6_settle 19 = .ok (.invokevirtual 172, 3) := by decide +kernel
theorem dX6_settle_22 : decode cX6_settle 22 = .ok (.aload_n 0, 1) := by decide +kernel
theorem dX6_settle_23 : decode cX6_settle 23 = .ok (.iconst 1, 1) := by decide +kernel
theorem dX6_settle_24 : decode cX6_settle 24 = .ok (.putfield 16, 3) := by decide +kernel
theorem dX6_settle_27 : decode cX6_settle 27 = .ok (.return_, 1) := by decide +kernel
theorem dX6_showValue_0 : decode cX6_showValue 0 = .ok (.aload_n 0, 1) := by decide +kernel
theorem dX6_showValue_1 : decode cX6_showValue 1 = .ok (.getfield 41, 3) := by decide +kernel
theorem dX6_showValue_4 : decode cX6_showValue 4 = .ok (.iload_n 1, 1) := by decide +kernel
theorem dX6_showValue_5 : decode cX6_showValue 5 = .ok (.invokevirtual 142, 3) := by decide +kernel
theorem dX6_showValue_8 : decode cX6_showValue 8 = .ok (.ifCond .eq 14, 3) := by decide +kernel
theorem dX6_showValue_11 : decode cX6_showValue 11 = .ok (.aload_n 0, 1) := by decide +kernel
theorem dX6_showValue_12 : decode cX6_showValue 12 = .ok (.getfield 59, 3) := by decide +kernel
theorem dX6_showValue_15 : decode cX6_showValue 15 = .ok (.iconst 0, 1) := by decide +kernel
theorem dX6_showValue_16 : decode cX6_showValue 16 = .ok (.invokevirtual 183, 3) := by decide +kernel
theorem dX6_showValue_19 : decode cX6_showValue 19 = .ok (.ifCond .eq 4, 3) := by decide +kernel
theorem dX6_showValue_22 : decode cX6_showValue 22 = .ok (.return_, 1) := by decide +kernel
theorem dX6_showValue_23 : decode cX6_showValue 23 = .ok (.aload_n 0, 1) := by decide +kernel
theorem dX6_showValue_24 : decode cX6_showValue 24 = .ok (.getfield 59, 3) := by decide +kernel
theorem dX6_showValue_27 : decode cX6_showValue 27 = .ok (.getfield 285, 3) := by decide +kernel
theorem dX6_showValue_30 : decode cX6_showValue 30 = .ok (.iload_n 1, 1) := by decide +kernel
theorem dX6_showValue_31 : decode cX6_showValue 31 = .ok (.iaload, 1) := by decide +kernel
theorem dX6_showValue_32 : decode cX6_showValue 32 = .ok (.istore_n 2, 1) := by decide +kernel
theorem dX6_showValue_33 : decode cX6_showValue 33 = .ok (.iload_n 2, 1) := by decide +kernel
theorem dX6_showValue_34 : decode cX6_showValue 34 = .ok (.iconst (-1), 1) := by decide +kernel
theorem dX6_showValue_35 : decode cX6_showValue 35 = .ok (.if_icmp .ne 17, 3) := by decide +kernel
theorem dX6_showValue_38 : decode cX6_showValue 38 = .ok (.aload_n 0, 1) := by decide +kernel
theorem dX6_showValue_39 : decode cX6_showValue 39 = .ok (.getfield 41, 3) := by decide +kernel
theorem dX6_showValue_42 : decode cX6_showValue 42 = .ok (.bipush 80, 2) := by decide +kernel
theorem dX6_showValue_44 : decode cX6_showValue 44 = .ok (.iload_n 1, 1) := by decide +kernel
theorem dX6_showValue_45 : decode cX6_showValue 45 = .ok (.iadd, 1) := by decide +kernel
theorem dX6_showValue_46 : decode cX6_showValue 46 = .ok (.invokevirtual 288, 3) := by decide +kernel
theorem dX6_showValue_49 : decode cX6_showValue 49 = .ok (.goto 22, 3) := by decide +kernel
theorem dX6_showValue_52 : decode cX6_showValue 52 = .ok (.aload_n 0, 1) := by decide +kernel
theorem dX6_showValue_53 : decode cX6_showValue 53 = .ok (.getfield 41, 3) := by decide +kernel
theorem dX6_showValue_56 : decode cX6_showValue 56 = .ok (.aload_n 0, 1) := by decide +kernel
theorem dX6_showValue_57 : decode cX6_showValue 57 = .ok (.getfield 50, 3) := by decide +kernel
theorem dX6_showValue_60 : decode cX6_showValue 60 = .ok (.aload_n 0, 1) := by decide +kernel
theorem dX6_showValue_61 : decode cX6_showValue 61 = .ok (.getfield 59, 3) := by decide +kernel
theorem dX6_showValue_64 : decode cX6_showValue 64 = .ok (.getfield 285, 3) := by decide +kernel
theorem dX6_showValue_67 : decode cX6_showValue 67 = .ok (.iload_n 2, 1) := by decide +kernel
theorem dX6_showValue_68 : decode cX6_showValue 68 = .ok (.invokevirtual 162, 3) := by decide +kernel
theorem dX6_showValue_71 : decode cX6_showValue 71 = .ok (.return_, 1) := by decide +kernel
theorem dJ6_bitCount_0f7a4_0 : decode cJ6_bitCount_0f7a4 0 = .ok (.iload_n 0, 1) := by decide +kernel
theorem dJ6_bitCount_0f7a4_1 : decode cJ6_bitCount_0f7a4 1 = .ok (.iload_n 0, 1) := by decide +kernel
theorem dJ6_bitCount_0f7a4_2 : decode cJ6_bitCount_0f7a4 2 = .ok (.iconst 1, 1) := by decide +kernel
theorem dJ6_bitCount_0f7a4_3 : decode cJ6_bitCount_0f7a4 3 = .ok (.iushr, 1) := by decide +kernel
theorem dJ6_bitCount_0f7a4_4 : decode cJ6_bitCount_0f7a4 4 = .ok (.ldc_w 265, 3) := by decide +kernel
theorem dJ6_bitCount_0f7a4_7 : decode cJ6_bitCount_0f7a4 7 = .ok (.iand, 1) := by decide +kernel
theorem dJ6_bitCount_0f7a4_8 : decode cJ6_bitCount_0f7a4 8 = .ok (.isub, 1) := by decide +kernel
theorem dJ6_bitCount_0f7a4_9 : decode cJ6_bitCount_0f7a4 9 = .ok (.istore_n 0, 1) := by decide +kernel
theorem dJ6_bitCount_0f7a4_10 : decode cJ6_bitCount_0f7a4 10 = .ok (.iload_n 0, 1) := by decide +kernel
theorem dJ6_bitCount_0f7a4_11 : decode cJ6_bitCount_0f7a4 11 = .ok (.ldc_w 266, 3) := by decide +kernel
theorem dJ6_bitCount_0f7a4_14 : decode cJ6_bitCount_0f7a4 14 = .ok (.iand, 1) := by decide +kernel
theorem dJ6_bitCount_0f7a4_15 : decode cJ6_bitCount_0f7a4 15 = .ok (.iload_n 0, 1) := by decide +kernel
theorem dJ6_bitCount_0f7a4_16 : decode cJ6_bitCount_0f7a4 16 = .ok (.iconst 2, 1) := by decide +kernel
theorem dJ6_bitCount_0f7a4_17 : decode cJ6_bitCount_0f7a4 17 = .ok (.iushr, 1) := by decide +kernel
theorem dJ6_bitCount_0f7a4_18 : decode cJ6_bitCount_0f7a4 18 = .ok (.ldc_w 266, 3) := by decide +kernel
theorem dJ6_bitCount_0f7a4_21 : decode cJ6_bitCount_0f7a4 21 = .ok (.iand, 1) := by decide +kernel
theorem dJ6_bitCount_0f7a4_22 : decode cJ6_bitCount_0f7a4 22 = .ok (.iadd, 1) := by decide +kernel
theorem dJ6_bitCount_0f7a4_23 : decode cJ6_bitCount_0f7a4 23 = .ok (.istore_n 0, 1) := by decide +kernel
theorem dJ6_bitCount_0f7a4_24 : decode cJ6_bitCount_0f7a4 24 = .ok (.iload_n 0, 1) := by decide +kernel
theorem dJ6_bitCount_0f7a4_25 : decode cJ6_bitCount_0f7a4 25 = .ok (.iload_n 0, 1) := by decide +kernel
theorem dJ6_bitCount_0f7a4_26 : decode cJ6_bitCount_0f7a4 26 = .ok (.iconst 4, 1) := by decide +kernel
theorem dJ6_bitCount_0f7a4_27 : decode cJ6_bitCount_0f7a4 27 = .ok (.iushr, 1) := by decide +kernel
theorem dJ6_bitCount_0f7a4_28 : decode cJ6_bitCount_0f7a4 28 = .ok (.iadd, 1) := by decide +kernel
theorem dJ6_bitCount_0f7a4_29 : decode cJ6_bitCount_0f7a4 29 = .ok (.ldc_w 267, 3) := by decide +kernel
theorem dJ6_bitCount_0f7a4_32 : decode cJ6_bitCount_0f7a4 32 = .ok (.iand, 1) := by decide +kernel
theorem dJ6_bitCount_0f7a4_33 : decode cJ6_bitCount_0f7a4 33 = .ok (.istore_n 0, 1) := by decide +kernel
theorem dJ6_bitCount_0f7a4_34 : decode cJ6_bitCount_0f7a4 34 = .ok (.iload_n 0, 1) := by decide +kernel
theorem dJ6_bitCount_0f7a4_35 : decode cJ6_bitCount_0f7a4 35 = .ok (.iload_n 0, 1) := by decide +kernel
theorem dJ6_bitCount_0f7a4_36 : decode cJ6_bitCount_0f7a4 36 = .ok (.bipush 8, 2) := by decide +kernel
theorem dJ6_bitCount_0f7a4_38 : decode cJ6_bitCount_0f7a4 38 = .ok (.iushr, 1) := by decide +kernel
theorem dJ6_bitCount_0f7a4_39 : decode cJ6_bitCount_0f7a4 39 = .ok (.iadd, 1) := by decide +kernel
theorem dJ6_bitCount_0f7a4_40 : decode cJ6_bitCount_0f7a4 40 = .ok (.istore_n 0, 1) := by decide +kernel
theorem dJ6_bitCount_0f7a4_41 : decode cJ6_bitCount_0f7a4 41 = .ok (.iload_n 0, 1) := by decide +kernel
theorem dJ6_bitCount_0f7a4_42 : decode cJ6_bitCount_0f7a4 42 = .ok (.iload_n 0, 1) := by decide +kernel
theorem dJ6_bitCount_0f7a4_43 : decode cJ6_bitCount_0f7a4 43 = .ok (.bipush 16, 2) := by decide +kernel
theorem dJ6_bitCount_0f7a4_45 : decode cJ6_bitCount_0f7a4 45 = .ok (.iushr, 1) := by decide +kernel
theorem dJ6_bitCount_0f7a4_46 : decode cJ6_bitCount_0f7a4 46 = .ok (.iadd, 1) := by decide +kernel
theorem dJ6_bitCount_0f7a4_47 : decode cJ6_bitCount_0f7a4 47 = .ok (.istore_n 0, 1) := by decide +kernel
theorem dJ6_bitCount_0f7a4_48 : decode cJ6_bitCount_0f7a4 48 = .ok (.iload_n 0, 1) := by decide +kernel
theorem dJ6_bitCount_0f7a4_49 : decode cJ6_bitCount_0f7a4 49 = .ok (.bipush 63, 2) := by decide +kernel
theorem dJ6_bitCount_0f7a4_51 : decode cJ6_bitCount_0f7a4 51 = .ok (.iand, 1) := by decide +kernel
theorem dJ6_bitCount_0f7a4_52 : decode cJ6_bitCount_0f7a4 52 = .ok (.ireturn, 1) := by decide +kernel
theorem dJ9_floorMod_7cf53_0 : decode cJ9_floorMod_7cf53 0 = .ok (.iload_n 0, 1) := by decide +kernel
theorem dJ9_floorMod_7cf53_1 : decode cJ9_floorMod_7cf53 1 = .ok (.iload_n 1, 1) := by decide +kernel
theorem dJ9_floorMod_7cf53_2 : decode cJ9_floorMod_7cf53 2 = .ok (.irem, 1) := by decide +kernel
theorem dJ9_floorMod_7cf53_3 : decode cJ9_floorMod_7cf53 3 = .ok (.istore_n 2, 1) := by decide +kernel
theorem dJ9_floorMod_7cf53_4 : decode cJ9_floorMod_7cf53 4 = .ok (.iload_n 0, 1) := by decide +kernel
theorem dJ9_floorMod_7cf53_5 : decode cJ9_floorMod_7cf53 5 = .ok (.iload_n 1, 1) := by decide +kernel
theorem dJ9_floorMod_7cf53_6 : decode cJ9_floorMod_7cf53 6 = .ok (.ixor, 1) := by decide +kernel
theorem dJ9_floorMod_7cf53_7 : decode cJ9_floorMod_7cf53 7 = .ok (.ifCond .ge 11, 3) := by decide +kernel
theorem dJ9_floorMod_7cf53_10 : decode cJ9_floorMod_7cf53 10 = .ok (.iload_n 2, 1) := by decide +kernel
theorem dJ9_floorMod_7cf53_11 : decode cJ9_floorMod_7cf53 11 = .ok (.ifCond .eq 7, 3) := by decide +kernel
theorem dJ9_floorMod_7cf53_14 : decode cJ9_floorMod_7cf53 14 = .ok (.iload_n 2, 1) := by decide +kernel
theorem dJ9_floorMod_7cf53_15 : decode cJ9_floorMod_7cf53 15 = .ok (.iload_n 1, 1) := by decide +kernel
theorem dJ9_floorMod_7cf53_16 : decode cJ9_floorMod_7cf53 16 = .ok (.iadd, 1) := by decide +kernel
theorem dJ9_floorMod_7cf53_17 : decode cJ9_floorMod_7cf53 17 = .ok (.ireturn, 1) := by decide +kernel
theorem dJ9_floorMod_7cf53_18 : decode cJ9_floorMod_7cf53 18 = .ok (.iload_n 2, 1) := by decide +kernel
theorem dJ9_floorMod_7cf53_19 : decode cJ9_floorMod_7cf53 19 = .ok (.ireturn, 1) := by decide +kernel
theorem dJ9_max_7cf53_0 : decode cJ9_max_7cf53 0 = .ok (.iload_n 0, 1) := by decide +kernel
theorem dJ9_max_7cf53_1 : decode cJ9_max_7cf53 1 = .ok (.iload_n 1, 1) := by decide +kernel
theorem dJ9_max_7cf53_2 : decode cJ9_max_7cf53 2 = .ok (.if_icmp .lt 7, 3) := by decide +kernel
theorem dJ9_max_7cf53_5 : decode cJ9_max_7cf53 5 = .ok (.iload_n 0, 1) := by decide +kernel
theorem dJ9_max_7cf53_6 : decode cJ9_max_7cf53 6 = .ok (.goto 4, 3) := by decide +kernel
theorem dJ9_max_7cf53_9 : decode cJ9_max_7cf53 9 = .ok (.iload_n 1, 1) := by decide +kernel
theorem dJ9_max_7cf53_10 : decode cJ9_max_7cf53 10 = .ok (.ireturn, 1) := by decide +kernel
theorem dJ9_min_7cf53_0 : decode cJ9_min_7cf53 0 = .ok (.iload_n 0, 1) := by decide +kernel
theorem dJ9_min_7cf53_1 : decode cJ9_min_7cf53 1 = .ok (.iload_n 1, 1) := by decide +kernel
theorem dJ9_min_7cf53_2 : decode cJ9_min_7cf53 2 = .ok (.if_icmp .gt 7, 3) := by decide +kernel
theorem dJ9_min_7cf53_5 : decode cJ9_min_7cf53 5 = .ok (.iload_n 0, 1) := by decide +kernel
theorem dJ9_min_7cf53_6 : decode cJ9_min_7cf53 6 = .ok (.goto 4, 3) := by decide +kernel
theorem dJ9_min_7cf53_9 : decode cJ9_min_7cf53 9 = .ok (.iload_n 1, 1) := by decide +kernel
theorem dJ9_min_7cf53_10 : decode cJ9_min_7cf53 10 = .ok (.ireturn, 1) := by decide +kernel
theorem dJ7_rangeCheck_23922_0 : decode cJ7_rangeCheck_23922 0 = .ok (.iload_n 1, 1) := by decide +kernel
theorem dJ7_rangeCheck_23922_1 : decode cJ7_rangeCheck_23922 1 = .ok (.iload_n 2, 1) := by decide +kernel
theorem dJ7_rangeCheck_23922_2 : decode cJ7_rangeCheck_23922 2 = .ok (.if_icmp .le 44, 3) := by decide +kernel
theorem dJ7_rangeCheck_23922_5 : decode cJ7_rangeCheck_23922 5 = .ok (.new 43, 3) := by decide +kernel
theorem dJ7_rangeCheck_23922_8 : decode cJ7_rangeCheck_23922 8 = .ok (.dup, 1) := by decide +kernel
theorem dJ7_rangeCheck_23922_9 : decode cJ7_rangeCheck_23922 9 = .ok (.new 45, 3) := by decide +kernel
theorem dJ7_rangeCheck_23922_12 : decode cJ7_rangeCheck_23922 12 = .ok (.dup, 1) := by decide +kernel
theorem dJ7_rangeCheck_23922_13 : decode cJ7_rangeCheck_23922 13 = .ok (.invokespecial 47, 3) := by decide +kernel
theorem dJ7_rangeCheck_23922_16 : decode cJ7_rangeCheck_23922 16 = .ok (.ldc 48, 2) := by decide +kernel
theorem dJ7_rangeCheck_23922_18 : decode cJ7_rangeCheck_23922 18 = .ok (.invokevirtual 50, 3) := by decide +kernel
theorem dJ7_rangeCheck_23922_21 : decode cJ7_rangeCheck_23922 21 = .ok (.iload_n 1, 1) := by decide +kernel
theorem dJ7_rangeCheck_23922_22 : decode cJ7_rangeCheck_23922 22 = .ok (.invokevirtual 54, 3) := by decide +kernel
theorem dJ7_rangeCheck_23922_25 : decode cJ7_rangeCheck_23922 25 = .ok (.ldc 57, 2) := by decide +kernel
theorem dJ7_rangeCheck_23922_27 : decode cJ7_rangeCheck_23922 27 = .ok (.invokevirtual 50, 3) := by decide +kernel
theorem dJ7_rangeCheck_23922_30 : decode cJ7_rangeCheck_23922 30 = .ok (.iload_n 2, 1) := by decide +kernel
theorem dJ7_rangeCheck_23922_31 : decode cJ7_rangeCheck_23922 31 = .ok (.invokevirtual 54, 3) := by decide +kernel
theorem dJ7_rangeCheck_23922_34 : decode cJ7_rangeCheck_23922 34 = .ok (.ldc 59, 2) := by decide +kernel
theorem dJ7_rangeCheck_23922_36 : decode cJ7_rangeCheck_23922 36 = .ok (.invokevirtual 50, 3) := by decide +kernel
theorem dJ7_rangeCheck_23922_39 : decode cJ7_rangeCheck_23922 39 = .ok (.invokevirtual 61, 3) := by decide +kernel
theorem dJ7_rangeCheck_23922_42 : decode cJ7_rangeCheck_23922 42 = .ok (.invokespecial 65, 3) := by decide +kernel
theorem dJ7_rangeCheck_23922_45 : decode cJ7_rangeCheck_23922 45 = .ok (.athrow, 1) := by decide +kernel
theorem dJ7_rangeCheck_23922_46 : decode cJ7_rangeCheck_23922 46 = .ok (.iload_n 1, 1) := by decide +kernel
theorem dJ7_rangeCheck_23922_47 : decode cJ7_rangeCheck_23922 47 = .ok (.ifCond .ge 12, 3) := by decide +kernel
theorem dJ7_rangeCheck_23922_50 : decode cJ7_rangeCheck_23922 50 = .ok (.new 68, 3) := by decide +kernel
theorem dJ7_rangeCheck_23922_53 : decode cJ7_rangeCheck_23922 53 = .ok (.dup, 1) := by decide +kernel
theorem dJ7_rangeCheck_23922_54 : decode cJ7_rangeCheck_23922 54 = .ok (.iload_n 1, 1) := by decide +kernel
theorem dJ7_rangeCheck_23922_55 : decode cJ7_rangeCheck_23922 55 = .ok (.invokespecial 70, 3) := by decide +kernel
theorem dJ7_rangeCheck_23922_58 : decode cJ7_rangeCheck_23922 58 = .ok (.athrow, 1) := by decide +kernel
theorem dJ7_rangeCheck_23922_59 : decode cJ7_rangeCheck_23922 59 = .ok (.iload_n 2, 1) := by decide +kernel
theorem dJ7_rangeCheck_23922_60 : decode cJ7_rangeCheck_23922 60 = .ok (.iload_n 0, 1) := by decide +kernel
theorem dJ7_rangeCheck_23922_61 : decode cJ7_rangeCheck_23922 61 = .ok (.if_icmp .le 12, 3) := by decide +kernel
theorem dJ7_rangeCheck_23922_64 : decode cJ7_rangeCheck_23922 64 = .ok (.new 68, 3) := by decide +kernel
theorem dJ7_rangeCheck_23922_67 : decode cJ7_rangeCheck_23922 67 = .ok (.dup, 1) := by decide +kernel
theorem dJ7_rangeCheck_23922_68 : decode cJ7_rangeCheck_23922 68 = .ok (.iload_n 2, 1) := by decide +kernel
theorem dJ7_rangeCheck_23922_69 : decode cJ7_rangeCheck_23922 69 = .ok (.invokespecial 70, 3) := by decide +kernel
theorem dJ7_rangeCheck_23922_72 : decode cJ7_rangeCheck_23922 72 = .ok (.athrow, 1) := by decide +kernel
theorem dJ7_rangeCheck_23922_73 : decode cJ7_rangeCheck_23922 73 = .ok (.return_, 1) := by decide +kernel
theorem dJ7_fill_53178_0 : decode cJ7_fill_53178 0 = .ok (.iconst 0, 1) := by decide +kernel
theorem dJ7_fill_53178_1 : decode cJ7_fill_53178 1 = .ok (.istore_n 2, 1) := by decide +kernel
theorem dJ7_fill_53178_2 : decode cJ7_fill_53178 2 = .ok (.aload_n 0, 1) := by decide +kernel
theorem dJ7_fill_53178_3 : decode cJ7_fill_53178 3 = .ok (.arraylength, 1) := by decide +kernel
theorem dJ7_fill_53178_4 : decode cJ7_fill_53178 4 = .ok (.istore_n 3, 1) := by decide +kernel
theorem dJ7_fill_53178_5 : decode cJ7_fill_53178 5 = .ok (.iload_n 2, 1) := by decide +kernel
theorem dJ7_fill_53178_6 : decode cJ7_fill_53178 6 = .ok (.iload_n 3, 1) := by decide +kernel
theorem dJ7_fill_53178_7 : decode cJ7_fill_53178 7 = .ok (.if_icmp .ge 13, 3) := by decide +kernel
theorem dJ7_fill_53178_10 : decode cJ7_fill_53178 10 = .ok (.aload_n 0, 1) := by decide +kernel
theorem dJ7_fill_53178_11 : decode cJ7_fill_53178 11 = .ok (.iload_n 2, 1) := by decide +kernel
theorem dJ7_fill_53178_12 : decode cJ7_fill_53178 12 = .ok (.iload_n 1, 1) := by decide +kernel
theorem dJ7_fill_53178_13 : decode cJ7_fill_53178 13 = .ok (.iastore, 1) := by decide +kernel
theorem dJ7_fill_53178_14 : decode cJ7_fill_53178 14 = .ok (.iinc 2 1, 3) := by decide +kernel
theorem dJ7_fill_53178_17 : decode cJ7_fill_53178 17 = .ok (.goto (-12), 3) := by decide +kernel
theorem dJ7_fill_53178_20 : decode cJ7_fill_53178 20 = .ok (.return_, 1) := by decide +kernel
theorem dJ7_fill_fda19_0 : decode cJ7_fill_fda19 0 = .ok (.aload_n 0, 1) := by decide +kernel
theorem dJ7_fill_fda19_1 : decode cJ7_fill_fda19 1 = .ok (.arraylength, 1) := by decide +kernel
theorem dJ7_fill_fda19_2 : decode cJ7_fill_fda19 2 = .ok (.iload_n 1, 1) := by decide +kernel
theorem dJ7_fill_fda19_3 : decode cJ7_fill_fda19 3 = .ok (.iload_n 2, 1) := by decide +kernel
theorem dJ7_fill_fda19_4 : decode cJ7_fill_fda19 4 = .ok (.invokestatic 13, 3) := by decide +kernel
theorem dJ7_fill_fda19_7 : decode cJ7_fill_fda19 7 = .ok (.iload_n 1, 1) := by decide +kernel
theorem dJ7_fill_fda19_8 : decode cJ7_fill_fda19 8 = .ok (.istore 4, 2) := by decide +kernel
theorem dJ7_fill_fda19_10 : decode cJ7_fill_fda19 10 = .ok (.iload 4, 2) := by decide +kernel
theorem dJ7_fill_fda19_12 : decode cJ7_fill_fda19 12 = .ok (.iload_n 2, 1) := by decide +kernel
theorem dJ7_fill_fda19_13 : decode cJ7_fill_fda19 13 = .ok (.if_icmp .ge 14, 3) := by decide +kernel
theorem dJ7_fill_fda19_16 : decode cJ7_fill_fda19 16 = .ok (.aload_n 0, 1) := by decide +kernel
theorem dJ7_fill_fda19_17 : decode cJ7_fill_fda19 17 = .ok (.iload 4, 2) := by decide +kernel
theorem dJ7_fill_fda19_19 : decode cJ7_fill_fda19 19 = .ok (.iload_n 3, 1) := by decide +kernel
theorem dJ7_fill_fda19_20 : decode cJ7_fill_fda19 20 = .ok (.iastore, 1) := by decide +kernel
theorem dJ7_fill_fda19_21 : decode cJ7_fill_fda19 21 = .ok (.iinc 4 1, 3) := by decide +kernel
theorem dJ7_fill_fda19_24 : decode cJ7_fill_fda19 24 = .ok (.goto (-14), 3) := by decide +kernel
theorem dJ7_fill_fda19_27 : decode cJ7_fill_fda19 27 = .ok (.return_, 1) := by decide +kernel
