theorem dX0_init_0 : decode cX0_init 0 = .ok (.aload_n 0, 1) := by decide +kernel
theorem dX0_init_1 : decode cX0_init 1 = .ok (.invokespecial 3, 3) := by decide +kernel
theorem dX0_init_4 : decode cX0_init 4 = .ok (.aload_n 0, 1) := by decide +kernel
theorem dX0_init_5 : decode cX0_init 5 = .ok (.bipush 60, 2) := by decide +kernel
theorem dX0_init_7 : decode cX0_init 7 = .ok (.newarray .int, 2) := by decide +kernel
theorem dX0_init_9 : decode cX0_init 9 = .ok (.putfield 9, 3) := by decide +kernel
theorem dX0_init_12 : decode cX0_init 12 = .ok (.aload_n 0, 1) := by decide +kernel
theorem dX0_init_13 : decode cX0_init 13 = .ok (.iconst 0, 1) := by decide +kernel
theorem dX0_init_14 : decode cX0_init 14 = .ok (.putfield 15, 3) := by decide +kernel
theorem dX0_init_17 : decode cX0_init 17 = .ok (.aload_n 0, 1) := by decide +kernel
theorem dX0_init_18 : decode cX0_init 18 = .ok (.iconst (-1), 1) := by decide +kernel
theorem dX0_init_19 : decode cX0_init 19 = .ok (.putfield 19, 3) := by decide +kernel
theorem dX0_init_22 : decode cX0_init 22 = .ok (.aload_n 0, 1) := by decide +kernel
theorem dX0_init_23 : decode cX0_init 23 = .ok (.bipush 62, 2) := by decide +kernel
theorem dX0_init_25 : decode cX0_init 25 = .ok (.newarray .int, 2) := by decide +kernel
theorem dX0_init_27 : decode cX0_init 27 = .ok (.putfield 22, 3) := by decide +kernel
theorem dX0_init_30 : decode cX0_init 30 = .ok (.aload_n 0, 1) := by decide +kernel
theorem dX0_init_31 : decode cX0_init 31 = .ok (.iconst 0, 1) := by decide +kernel
theorem dX0_init_32 : decode cX0_init 32 = .ok (.putfield 25, 3) := by decide +kernel
theorem dX0_init_35 : decode cX0_init 35 = .ok (.return_, 1) := by decide +kernel
theorem dX0_forget_0 : decode cX0_forget 0 = .ok (.aload_n 0, 1) := by decide +kernel
theorem dX0_forget_1 : decode cX0_forget 1 = .ok (.iconst (-1), 1) := by decide +kernel
theorem dX0_forget_2 : decode cX0_forget 2 = .ok (.putfield 19, 3) := by decide +kernel
theorem dX0_forget_5 : decode cX0_forget 5 = .ok (.return_, 1) := by decide +kernel
theorem dX0_isToShow_0 : decode cX0_isToShow 0 = .ok (.aload_n 0, 1) := by decide +kernel
theorem dX0_isToShow_1 : decode cX0_isToShow 1 = .ok (.getfield 19, 3) := by decide +kernel
theorem dX0_isToShow_4 : decode cX0_isToShow 4 = .ok (.iload_n 1, 1) := by decide +kernel
theorem dX0_isToShow_5 : decode cX0_isToShow 5 = .ok (.if_icmp .ne 5, 3) := by decide +kernel
theorem dX0_isToShow_8 : decode cX0_isToShow 8 = .ok (.iconst 0, 1) := by decide +kernel
theorem dX0_isToShow_9 : decode cX0_isToShow 9 = .ok (.ireturn, 1) := by decide +kernel
theorem dX0_isToShow_10 : decode cX0_isToShow 10 = .ok (.aload_n 0, 1) := by decide +kernel
theorem dX0_isToShow_11 : decode cX0_isToShow 11 = .ok (.iload_n 1, 1) := by decide +kernel
theorem dX0_isToShow_12 : decode cX0_isToShow 12 = .ok (.putfield 19, 3) := by decide +kernel
theorem dX0_isToShow_15 : decode cX0_isToShow 15 = .ok (.aload_n 0, 1) := by decide +kernel
theorem dX0_isToShow_16 : decode cX0_isToShow 16 = .ok (.iconst 0, 1) := by decide +kernel
theorem dX0_isToShow_17 : decode cX0_isToShow 17 = .ok (.putfield 15, 3) := by decide +kernel
theorem dX0_isToShow_20 : decode cX0_isToShow 20 = .ok (.iconst 1, 1) := by decide +kernel
theorem dX0_isToShow_21 : decode cX0_isToShow 21 = .ok (.ireturn, 1) := by decide +kernel
theorem dX0_tell_0 : decode cX0_tell 0 = .ok (.iload_n 1, 1) := by decide +kernel
theorem dX0_tell_1 : decode cX0_tell 1 = .ok (.iconst (-1), 1) := by decide +kernel
theorem dX0_tell_2 : decode cX0_tell 2 = .ok (.if_icmp .ne 8, 3) := by decide +kernel
theorem dX0_tell_5 : decode cX0_tell 5 = .ok (.aload_n 0, 1) := by decide +kernel
theorem dX0_tell_6 : decode cX0_tell 6 = .ok (.getfield 15, 3) := by decide +kernel
theorem dX0_tell_9 : decode cX0_tell 9 = .ok (.ireturn, 1) := by decide +kernel
theorem dX0_tell_10 : decode cX0_tell 10 = .ok (.iload_n 1, 1) := by decide +kernel
theorem dX0_tell_11 : decode cX0_tell 11 = .ok (.aload_n 0, 1) := by decide +kernel
theorem dX0_tell_12 : decode cX0_tell 12 = .ok (.getfield 15, 3) := by decide +kernel
theorem dX0_tell_15 : decode cX0_tell 15 = .ok (.bipush 60, 2) := by decide +kernel
theorem dX0_tell_17 : decode cX0_tell 17 = .ok (.invokestatic 28, 3) := by decide +kernel
theorem dX0_tell_20 : decode cX0_tell 20 = .ok (.invokestatic 34, 3) := by decide +kernel
theorem dX0_tell_23 : decode cX0_tell 23 = .ok (.ifCond .eq 7, 3) := by decide +kernel
theorem dX0_tell_26 : decode cX0_tell 26 = .ok (.iconst (-1), 1) := by decide +kernel
theorem dX0_tell_27 : decode cX0_tell 27 = .ok (.goto 9, 3) := by decide +kernel
theorem dX0_tell_30 : decode cX0_tell 30 = .ok (.aload_n 0, 1) := by decide +kernel
theorem dX0_tell_31 : decode cX0_tell 31 = .ok (.getfield 9, 3) := by decide +kernel
theorem dX0_tell_34 : decode cX0_tell 34 = .ok (.iload_n 1, 1) := by decide +kernel
theorem dX0_tell_35 : decode cX0_tell 35 = .ok (.iaload, 1) := by decide +kernel
theorem dX0_tell_36 : decode cX0_tell 36 = .ok (.ireturn, 1) := by decide +kernel
theorem dX0_putByte_0 : decode cX0_putByte 0 = .ok (.aload_n 0, 1) := by decide +kernel
theorem dX0_putByte_1 : decode cX0_putByte 1 = .ok (.getfield 15, 3) := by decide +kernel
theorem dX0_putByte_4 : decode cX0_putByte 4 = .ok (.bipush 60, 2) := by decide +kernel
theorem dX0_putByte_6 : decode cX0_putByte 6 = .ok (.if_icmp .ge 23, 3) := by decide +kernel
theorem dX0_putByte_9 : decode cX0_putByte 9 = .ok (.aload_n 0, 1) := by decide +kernel
theorem dX0_putByte_10 : decode cX0_putByte 10 = .ok (.getfield 9, 3) := by decide +kernel
theorem dX0_putByte_13 : decode cX0_putByte 13 = .ok (.aload_n 0, 1) := by decide +kernel
theorem dX0_putByte_14 : decode cX0_putByte 14 = .ok (.getfield 15, 3) := by decide +kernel
theorem dX0_putByte_17 : decode cX0_putByte 17 = .ok (.iload_n 1, 1) := by decide +kernel
theorem dX0_putByte_18 : decode cX0_putByte 18 = .ok (.iastore, 1) := by decide +kernel
theorem dX0_putByte_19 : decode cX0_putByte 19 = .ok (.aload_n 0, 1) := by decide +kernel
theorem dX0_putByte_20 : decode cX0_putByte 20 = .ok (.dup, 1) := by decide +kernel
theorem dX0_putByte_21 : decode cX0_putByte 21 = .ok (.getfield 15, 3) := by decide +kernel
theorem dX0_putByte_24 : decode cX0_putByte 24 = .ok (.iconst 1, 1) := by decide +kernel
theorem dX0_putByte_25 : decode cX0_putByte 25 = .ok (.iadd, 1) := by decide +kernel
theorem dX0_putByte_26 : decode cX0_putByte 26 = .ok (.putfield 15, 3) := by decide +kernel
theorem dX0_putByte_29 : decode cX0_putByte 29 = .ok (.return_, 1) := by decide +kernel
theorem dX0_putTurn_0 : decode cX0_putTurn 0 = .ok (.iload_n 1, 1) := by decide +kernel
theorem dX0_putTurn_1 : decode cX0_putTurn 1 = .ok (.istore_n 2, 1) := by decide +kernel
theorem dX0_putTurn_2 : decode cX0_putTurn 2 = .ok (.iconst 0, 1) := by decide +kernel
theorem dX0_putTurn_3 : decode cX0_putTurn 3 = .ok (.istore_n 3, 1) := by decide +kernel
theorem dX0_putTurn_4 : decode cX0_putTurn 4 = .ok (.iload_n 3, 1) := by decide +kernel
theorem dX0_putTurn_5 : decode cX0_putTurn 5 = .ok (.bipush 6, 2) := by decide +kernel
theorem dX0_putTurn_7 : decode cX0_putTurn 7 = .ok (.if_icmp .ge 53, 3) := by decide +kernel
theorem dX0_putTurn_10 : decode cX0_putTurn 10 = .ok (.iload_n 2, 1) := by decide +kernel
theorem dX0_putTurn_11 : decode cX0_putTurn 11 = .ok (.iload_n 3, 1) := by decide +kernel
theorem dX0_putTurn_12 : decode cX0_putTurn 12 = .ok (.invokestatic 38, 3) := by decide +kernel
theorem dX0_putTurn_15 : decode cX0_putTurn 15 = .ok (.istore 4, 2) := by decide +kernel
theorem dX0_putTurn_17 : decode cX0_putTurn 17 = .ok (.iload 4, 2) := by decide +kernel
theorem dX0_putTurn_19 : decode cX0_putTurn 19 = .ok (.iload_n 3, 1) := by decide +kernel
theorem dX0_putTurn_20 : decode cX0_putTurn 20 = .ok (.if_icmp .eq 34, 3) := by decide +kernel
theorem dX0_putTurn_23 : decode cX0_putTurn 23 = .ok (.aload_n 0, 1) := by decide +kernel
theorem dX0_putTurn_24 : decode cX0_putTurn 24 = .ok (.bipush 33, 2) := by decide +kernel
theorem dX0_putTurn_26 : decode cX0_putTurn 26 = .ok (.invokevirtual 43, 3) := by decide +kernel
theorem dX0_putTurn_29 : decode cX0_putTurn 29 = .ok (.aload_n 0, 1) := by decide +kernel
theorem dX0_putTurn_30 : decode cX0_putTurn 30 = .ok (.bipush 97, 2) := by decide +kernel
theorem dX0_putTurn_32 : decode cX0_putTurn 32 = .ok (.iload_n 3, 1) := by decide +kernel
theorem dX0_putTurn_33 : decode cX0_putTurn 33 = .ok (.iadd, 1) := by decide +kernel
theorem dX0_putTurn_34 : decode cX0_putTurn 34 = .ok (.invokevirtual 43, 3) := by decide +kernel
theorem dX0_putTurn_37 : decode cX0_putTurn 37 = .ok (.aload_n 0, 1) := by decide +kernel
theorem dX0_putTurn_38 : decode cX0_putTurn 38 = .ok (.bipush 97, 2) := by decide +kernel
theorem dX0_putTurn_40 : decode cX0_putTurn 40 = .ok (.iload 4, 2) := by decide +kernel
theorem dX0_putTurn_42 : decode cX0_putTurn 42 = .ok (.iadd, 1) := by decide +kernel
theorem dX0_putTurn_43 : decode cX0_putTurn 43 = .ok (.invokevirtual 43, 3) := by decide +kernel
theorem dX0_putTurn_46 : decode cX0_putTurn 46 = .ok (.iload_n 2, 1) := by decide +kernel
theorem dX0_putTurn_47 : decode cX0_putTurn 47 = .ok (.iload_n 3, 1) := by decide +kernel
theorem dX0_putTurn_48 : decode cX0_putTurn 48 = .ok (.iload 4, 2) := by decide +kernel
theorem dX0_putTurn_50 : decode cX0_putTurn 50 = .ok (.invokestatic 47, 3) := by decide +kernel
theorem dX0_putTurn_53 : decode cX0_putTurn 53 = .ok (.istore_n 2, 1) := by decide +kernel
theorem dX0_putTurn_54 : decode cX0_putTurn 54 = .ok (.iinc 3 1, 3) := by decide +kernel
theorem dX0_putTurn_57 : decode cX0_putTurn 57 = .ok (.goto (-53), 3) := by decide +kernel
theorem dX0_putTurn_60 : decode cX0_putTurn 60 = .ok (.return_, 1) := by decide +kernel
theorem dX0_putTerm_0 : decode cX0_putTerm 0 = .ok (.aload_n 0, 1) := by decide +kernel
theorem dX0_putTerm_1 : decode cX0_putTerm 1 = .ok (.iconst 0, 1) := by decide +kernel
theorem dX0_putTerm_2 : decode cX0_putTerm 2 = .ok (.putfield 25, 3) := by decide +kernel
theorem dX0_putTerm_5 : decode cX0_putTerm 5 = .ok (.aload_n 0, 1) := by decide +kernel
theorem dX0_putTerm_6 : decode cX0_putTerm 6 = .ok (.iload_n 3, 1) := by decide +kernel
theorem dX0_putTerm_7 : decode cX0_putTerm 7 = .ok (.invokevirtual 51, 3) := by decide +kernel
theorem dX0_putTerm_10 : decode cX0_putTerm 10 = .ok (.iconst 0, 1) := by decide +kernel
theorem dX0_putTerm_11 : decode cX0_putTerm 11 = .ok (.istore 4, 2) := by decide +kernel
theorem dX0_putTerm_13 : decode cX0_putTerm 13 = .ok (.iload 4, 2) := by decide +kernel
theorem dX0_putTerm_15 : decode cX0_putTerm 15 = .ok (.bipush 60, 2) := by decide +kernel
theorem dX0_putTerm_17 : decode cX0_putTerm 17 = .ok (.if_icmp .ge 45, 3) := by decide +kernel
theorem dX0_putTerm_20 : decode cX0_putTerm 20 = .ok (.aload_n 0, 1) := by decide +kernel
theorem dX0_putTerm_21 : decode cX0_putTerm 21 = .ok (.getfield 25, 3) := by decide +kernel
theorem dX0_putTerm_24 : decode cX0_putTerm 24 = .ok (.ifCond .le 38, 3) := by decide +kernel
theorem dX0_putTerm_27 : decode cX0_putTerm 27 = .ok (.aload_n 0, 1) := by decide +kernel
theorem dX0_putTerm_28 : decode cX0_putTerm 28 = .ok (.dup, 1) := by decide +kernel
theorem dX0_putTerm_29 : decode cX0_putTerm 29 = .ok (.getfield 25, 3) := by decide +kernel
theorem dX0_putTerm_32 : decode cX0_putTerm 32 = .ok (.iconst 1, 1) := by decide +kernel
theorem dX0_putTerm_33 : decode cX0_putTerm 33 = .ok (.isub, 1) := by decide +kernel
theorem dX0_putTerm_34 : decode cX0_putTerm 34 = .ok (.putfield 25, 3) := by decide +kernel
theorem dX0_putTerm_37 : decode cX0_putTerm 37 = .ok (.aload_n 0, 1) := by decide +kernel
theorem dX0_putTerm_38 : decode cX0_putTerm 38 = .ok (.aload_n 1, 1) := by decide +kernel
theorem dX0_putTerm_39 : decode cX0_putTerm 39 = .ok (.aload_n 1, 1) := by decide +kernel
theorem dX0_putTerm_40 : decode cX0_putTerm 40 = .ok (.aload_n 0, 1) := by decide +kernel
theorem dX0_putTerm_41 : decode cX0_putTerm 41 = .ok (.getfield 22, 3) := by decide +kernel
theorem dX0_putTerm_44 : decode cX0_putTerm 44 = .ok (.aload_n 0, 1) := by decide +kernel
theorem dX0_putTerm_45 : decode cX0_putTerm 45 = .ok (.getfield 25, 3) := by decide +kernel
theorem dX0_putTerm_48 : decode cX0_putTerm 48 = .ok (.iaload, 1) := by decide +kernel
theorem dX0_putTerm_49 : decode cX0_putTerm 49 = .ok (.aload_n 2, 1) := by decide +kernel
theorem dX0_putTerm_50 : decode cX0_putTerm 50 = .ok (.invokevirtual 54, 3) := by decide +kernel
theorem dX0_putTerm_53 : decode cX0_putTerm 53 = .ok (.invokevirtual 60, 3) := by decide +kernel
theorem dX0_putTerm_56 : decode cX0_putTerm 56 = .ok (.iinc 4 1, 3) := by decide +kernel
theorem dX0_putTerm_59 : decode cX0_putTerm 59 = .ok (.goto (-46), 3) := by decide +kernel
theorem dX0_putTerm_62 : decode cX0_putTerm 62 = .ok (.return_, 1) := by decide +kernel
theorem dX0_putTop_0 : decode cX0_putTop 0 = .ok (.iload_n 2, 1) := by decide +kernel
theorem dX0_putTop_1 : decode cX0_putTop 1 = .ok (.invokestatic 64, 3) := by decide +kernel
theorem dX0_putTop_4 : decode cX0_putTop 4 = .ok (.istore_n 3, 1) := by decide +kernel
theorem dX0_putTop_5 : decode cX0_putTop 5 = .ok (.iload_n 2, 1) := by decide +kernel
theorem dX0_putTop_6 : decode cX0_putTop 6 = .ok (.invokestatic 70, 3) := by decide +kernel
theorem dX0_putTop_9 : decode cX0_putTop 9 = .ok (.istore 4, 2) := by decide +kernel
theorem dX0_putTop_11 : decode cX0_putTop 11 = .ok (.aload_n 1, 1) := by decide +kernel
theorem dX0_putTop_12 : decode cX0_putTop 12 = .ok (.iload_n 3, 1) := by decide +kernel
theorem dX0_putTop_13 : decode cX0_putTop 13 = .ok (.invokevirtual 73, 3) := by decide +kernel
theorem dX0_putTop_16 : decode cX0_putTop 16 = .ok (.tableswitch 163 1 6 #[40, 60, 163, 142, 78, 105], 40) := by decide +kernel
theorem dX0_putTop_56 : decode cX0_putTop 56 = .ok (.aload_n 0, 1) := by decide +kernel
theorem dX0_putTop_57 : decode cX0_putTop 57 = .ok (.bipush 97, 2) := by decide +kernel
theorem dX0_putTop_59 : decode cX0_putTop 59 = .ok (.iload 4, 2) := by decide +kernel
theorem dX0_putTop_61 : decode cX0_putTop 61 = .ok (.aload_n 1, 1) := by decide +kernel
theorem dX0_putTop_62 : decode cX0_putTop 62 = .ok (.iload_n 3, 1) := by decide +kernel
theorem dX0_putTop_63 : decode cX0_putTop 63 = .ok (.invokevirtual 76, 3) := by decide +kernel
theorem dX0_putTop_66 : decode cX0_putTop 66 = .ok (.invokestatic 38, 3) := by decide +kernel
theorem dX0_putTop_69 : decode cX0_putTop 69 = .ok (.iadd, 1) := by decide +kernel
theorem dX0_putTop_70 : decode cX0_putTop 70 = .ok (.invokevirtual 43, 3) := by decide +kernel
theorem dX0_putTop_73 : decode cX0_putTop 73 = .ok (.goto 115, 3) := by decide +kernel
theorem dX0_putTop_76 : decode cX0_putTop 76 = .ok (.aload_n 0, 1) := by decide +kernel
theorem dX0_putTop_77 : decode cX0_putTop 77 = .ok (.iload 4, 2) := by decide +kernel
theorem dX0_putTop_79 : decode cX0_putTop 79 = .ok (.invokevirtual 79, 3) := by decide +kernel
theorem dX0_putTop_82 : decode cX0_putTop 82 = .ok (.aload_n 0, 1) := by decide +kernel
theorem dX0_putTop_83 : decode cX0_putTop 83 = .ok (.aload_n 1, 1) := by decide +kernel
theorem dX0_putTop_84 : decode cX0_putTop 84 = .ok (.iload_n 3, 1) := by decide +kernel
theorem dX0_putTop_85 : decode cX0_putTop 85 = .ok (.invokevirtual 82, 3) := by decide +kernel
theorem dX0_putTop_88 : decode cX0_putTop 88 = .ok (.invokevirtual 43, 3) := by decide +kernel
theorem dX0_putTop_91 : decode cX0_putTop 91 = .ok (.goto 97, 3) := by decide +kernel
theorem dX0_putTop_94 : decode cX0_putTop 94 = .ok (.aload_n 0, 1) := by decide +kernel
theorem dX0_putTop_95 : decode cX0_putTop 95 = .ok (.bipush 44, 2) := by decide +kernel
theorem dX0_putTop_97 : decode cX0_putTop 97 = .ok (.invokevirtual 43, 3) := by decide +kernel
theorem dX0_putTop_100 : decode cX0_putTop 100 = .ok (.aload_n 0, 1) := by decide +kernel
theorem dX0_putTop_101 : decode cX0_putTop 101 = .ok (.aload_n 1, 1) := by decide +kernel
theorem dX0_putTop_102 : decode cX0_putTop 102 = .ok (.iload_n 2, 1) := by decide +kernel
theorem dX0_putTop_103 : decode cX0_putTop 103 = .ok (.invokevirtual 85, 3) := by decide +kernel
theorem dX0_putTop_106 : decode cX0_putTop 106 = .ok (.invokevirtual 51, 3) := by decide +kernel
theorem dX0_putTop_109 : decode cX0_putTop 109 = .ok (.aload_n 0, 1) := by decide +kernel
theorem dX0_putTop_110 : decode cX0_putTop 110 = .ok (.iload_n 2, 1) := by decide +kernel
theorem dX0_putTop_111 : decode cX0_putTop 111 = .ok (.iconst 1, 1) := by decide +kernel
theorem dX0_putTop_112 : decode cX0_putTop 112 = .ok (.invokestatic 88, 3) := by decide +kernel
theorem dX0_putTop_115 : decode cX0_putTop 115 = .ok (.invokevirtual 51, 3) := by decide +kernel
theorem dX0_putTop_118 : decode cX0_putTop 118 = .ok (.goto 70, 3) := by decide +kernel
theorem dX0_putTop_121 : decode cX0_putTop 121 = .ok (.aload_n 0, 1) := by decide +kernel
theorem dX0_putTop_122 : decode cX0_putTop 122 = .ok (.bipush 46, 2) := by decide +kernel
theorem dX0_putTop_124 : decode cX0_putTop 124 = .ok (.invokevirtual 43, 3) := by decide +kernel
theorem dX0_putTop_127 : decode cX0_putTop 127 = .ok (.aload_n 0, 1) := by decide +kernel
theorem dX0_putTop_128 : decode cX0_putTop 128 = .ok (.bipush 97, 2) := by decide +kernel
theorem dX0_putTop_130 : decode cX0_putTop 130 = .ok (.iload 4, 2) := by decide +kernel
theorem dX0_putTop_132 : decode cX0_putTop 132 = .ok (.aload_n 1, 1) := by decide +kernel
theorem dX0_putTop_133 : decode cX0_putTop 133 = .ok (.iload_n 3, 1) := by decide +kernel
theorem dX0_putTop_134 : decode cX0_putTop 134 = .ok (.iconst 1, 1) := by decide +kernel
theorem dX0_putTop_135 : decode cX0_putTop 135 = .ok (.iadd, 1) := by decide +kernel
theorem dX0_putTop_136 : decode cX0_putTop 136 = .ok (.invokevirtual 76, 3) := by decide +kernel
theorem dX0_putTop_139 : decode cX0_putTop 139 = .ok (.invokestatic 38, 3) := by decide +kernel
theorem dX0_putTop_142 : decode cX0_putTop 142 = .ok (.iadd, 1) := by decide +kernel
theorem dX0_putTop_143 : decode cX0_putTop 143 = .ok (.invokevirtual 43, 3) := by decide +kernel
theorem dX0_putTop_146 : decode cX0_putTop 146 = .ok (.aload_n 0, 1) := by decide +kernel
theorem dX0_putTop_147 : decode cX0_putTop 147 = .ok (.iload_n 2, 1) := by decide +kernel
theorem dX0_putTop_148 : decode cX0_putTop 148 = .ok (.iconst 2, 1) := by decide +kernel
theorem dX0_putTop_149 : decode cX0_putTop 149 = .ok (.invokestatic 88, 3) := by decide +kernel
theorem dX0_putTop_152 : decode cX0_putTop 152 = .ok (.invokevirtual 51, 3) := by decide +kernel
theorem dX0_putTop_155 : decode cX0_putTop 155 = .ok (.goto 33, 3) := by decide +kernel
theorem dX0_putTop_158 : decode cX0_putTop 158 = .ok (.aload_n 0, 1) := by decide +kernel
theorem dX0_putTop_159 : decode cX0_putTop 159 = .ok (.aload_n 1, 1) := by decide +kernel
theorem dX0_putTop_160 : decode cX0_putTop 160 = .ok (.iload_n 3, 1) := by decide +kernel
theorem dX0_putTop_161 : decode cX0_putTop 161 = .ok (.invokevirtual 82, 3) := by decide +kernel
theorem dX0_putTop_164 : decode cX0_putTop 164 = .ok (.invokevirtual 43, 3) := by decide +kernel
theorem dX0_putTop_167 : decode cX0_putTop 167 = .ok (.aload_n 0, 1) := by decide +kernel
theorem dX0_putTop_168 : decode cX0_putTop 168 = .ok (.iload_n 2, 1) := by decide +kernel
theorem dX0_putTop_169 : decode cX0_putTop 169 = .ok (.iconst 1, 1) := by decide +kernel
theorem dX0_putTop_170 : decode cX0_putTop 170 = .ok (.invokestatic 88, 3) := by decide +kernel
theorem dX0_putTop_173 : decode cX0_putTop 173 = .ok (.invokevirtual 51, 3) := by decide +kernel
theorem dX0_putTop_176 : decode cX0_putTop 176 = .ok (.goto 12, 3) := by decide +kernel
theorem dX0_putTop_179 : decode cX0_putTop 179 = .ok (.aload_n 0, 1) := by decide +kernel
theorem dX0_putTop_180 : decode cX0_putTop 180 = .ok (.aload_n 1, 1) := by decide +kernel
theorem dX0_putTop_181 : decode cX0_putTop 181 = .ok (.iload_n 3, 1) := by decide +kernel
theorem dX0_putTop_182 : decode cX0_putTop 182 = .ok (.invokevirtual 82, 3) := by decide +kernel
theorem dX0_putTop_185 : decode cX0_putTop 185 = .ok (.invokevirtual 43, 3) := by decide +kernel
theorem dX0_putTop_188 : decode cX0_putTop 188 = .ok (.return_, 1) := by decide +kernel
theorem dX0_await_0 : decode cX0_await 0 = .ok (.aload_n 0, 1) := by decide +kernel
theorem dX0_await_1 : decode cX0_await 1 = .ok (.getfield 25, 3) := by decide +kernel
theorem dX0_await_4 : decode cX0_await 4 = .ok (.aload_n 0, 1) := by decide +kernel
theorem dX0_await_5 : decode cX0_await 5 = .ok (.getfield 22, 3) := by decide +kernel
theorem dX0_await_8 : decode cX0_await 8 = .ok (.arraylength, 1) := by decide +kernel
theorem dX0_await_9 : decode cX0_await 9 = .ok (.if_icmp .ge 23, 3) := by decide +kernel
theorem dX0_await_12 : decode cX0_await 12 = .ok (.aload_n 0, 1) := by decide +kernel
theorem dX0_await_13 : decode cX0_await 13 = .ok (.getfield 22, 3) := by decide +kernel
theorem dX0_await_16 : decode cX0_await 16 = .ok (.aload_n 0, 1) := by decide +kernel
theorem dX0_await_17 : decode cX0_await 17 = .ok (.getfield 25, 3) := by decide +kernel
theorem dX0_await_20 : decode cX0_await 20 = .ok (.iload_n 1, 1) := by decide +kernel
theorem dX0_await_21 : decode cX0_await 21 = .ok (.iastore, 1) := by decide +kernel
theorem dX0_await_22 : decode cX0_await 22 = .ok (.aload_n 0, 1) := by decide +kernel
theorem dX0_await_23 : decode cX0_await 23 = .ok (.dup, 1) := by decide +kernel
theorem dX0_await_24 : decode cX0_await 24 = .ok (.getfield 25, 3) := by decide +kernel
theorem dX0_await_27 : decode cX0_await 27 = .ok (.iconst 1, 1) := by decide +kernel
theorem dX0_await_28 : decode cX0_await 28 = .ok (.iadd, 1) := by decide +kernel
theorem dX0_await_29 : decode cX0_await 29 = .ok (.putfield 25, 3) := by decide +kernel
theorem dX0_await_32 : decode cX0_await 32 = .ok (.return_, 1) := by decide +kernel
theorem dX1_init_0 : decode cX1_init 0 = .ok (.aload_n 0, 1) := by decide +kernel
theorem dX1_init_1 : decode cX1_init 1 = .ok (.invokespecial 3, 3) := by decide +kernel
theorem dX1_init_4 : decode cX1_init 4 = .ok (.aload_n 0, 1) := by decide +kernel
theorem dX1_init_5 : decode cX1_init 5 = .ok (.iconst 4, 1) := by decide +kernel
theorem dX1_init_6 : decode cX1_init 6 = .ok (.newarray .int, 2) := by decide +kernel
theorem dX1_init_8 : decode cX1_init 8 = .ok (.putfield 9, 3) := by decide +kernel
theorem dX1_init_11 : decode cX1_init 11 = .ok (.aload_n 0, 1) := by decide +kernel
theorem dX1_init_12 : decode cX1_init 12 = .ok (.iconst 4, 1) := by decide +kernel
theorem dX1_init_13 : decode cX1_init 13 = .ok (.newarray .int, 2) := by decide +kernel
theorem dX1_init_15 : decode cX1_init 15 = .ok (.putfield 15, 3) := by decide +kernel
theorem dX1_init_18 : decode cX1_init 18 = .ok (.aload_n 0, 1) := by decide +kernel
theorem dX1_init_19 : decode cX1_init 19 = .ok (.sipush 240, 3) := by decide +kernel
theorem dX1_init_22 : decode cX1_init 22 = .ok (.newarray .int, 2) := by decide +kernel
theorem dX1_init_24 : decode cX1_init 24 = .ok (.putfield 18, 3) := by decide +kernel
theorem dX1_init_27 : decode cX1_init 27 = .ok (.aload_n 0, 1) := by decide +kernel
theorem dX1_init_28 : decode cX1_init 28 = .ok (.iconst 0, 1) := by decide +kernel
theorem dX1_init_29 : decode cX1_init 29 = .ok (.putfield 21, 3) := by decide +kernel
theorem dX1_init_32 : decode cX1_init 32 = .ok (.aload_n 0, 1) := by decide +kernel
theorem dX1_init_33 : decode cX1_init 33 = .ok (.getfield 9, 3) := by decide +kernel
theorem dX1_init_36 : decode cX1_init 36 = .ok (.iconst (-1), 1) := by decide +kernel
theorem dX1_init_37 : decode cX1_init 37 = .ok (.invokestatic 25, 3) := by decide +kernel
theorem dX1_init_40 : decode cX1_init 40 = .ok (.return_, 1) := by decide +kernel
theorem dX1_find_0 : decode cX1_find 0 = .ok (.aload_n 0, 1) := by decide +kernel
theorem dX1_find_1 : decode cX1_find 1 = .ok (.iload_n 1, 1) := by decide +kernel
theorem dX1_find_2 : decode cX1_find 2 = .ok (.putfield 21, 3) := by decide +kernel
theorem dX1_find_5 : decode cX1_find 5 = .ok (.bipush (-10), 2) := by decide +kernel
theorem dX1_find_7 : decode cX1_find 7 = .ok (.iload_n 1, 1) := by decide +kernel
theorem dX1_find_8 : decode cX1_find 8 = .ok (.isub, 1) := by decide +kernel
theorem dX1_find_9 : decode cX1_find 9 = .ok (.ireturn, 1) := by decide +kernel
theorem dX1_isLost_0 : decode cX1_isLost 0 = .ok (.aload_n 0, 1) := by decide +kernel
theorem dX1_isLost_1 : decode cX1_isLost 1 = .ok (.getfield 9, 3) := by decide +kernel
theorem dX1_isLost_4 : decode cX1_isLost 4 = .ok (.iload_n 1, 1) := by decide +kernel
theorem dX1_isLost_5 : decode cX1_isLost 5 = .ok (.iaload, 1) := by decide +kernel
theorem dX1_isLost_6 : decode cX1_isLost 6 = .ok (.iconst (-1), 1) := by decide +kernel
theorem dX1_isLost_7 : decode cX1_isLost 7 = .ok (.if_icmp .ne 7, 3) := by decide +kernel
theorem dX1_isLost_10 : decode cX1_isLost 10 = .ok (.iconst 1, 1) := by decide +kernel
theorem dX1_isLost_11 : decode cX1_isLost 11 = .ok (.goto 4, 3) := by decide +kernel
theorem dX1_isLost_14 : decode cX1_isLost 14 = .ok (.iconst 0, 1) := by decide +kernel
theorem dX1_isLost_15 : decode cX1_isLost 15 = .ok (.ireturn, 1) := by decide +kernel
theorem dX1_formOf_0 : decode cX1_formOf 0 = .ok (.aload_n 0, 1) := by decide +kernel
theorem dX1_formOf_1 : decode cX1_formOf 1 = .ok (.getfield 9, 3) := by decide +kernel
theorem dX1_formOf_4 : decode cX1_formOf 4 = .ok (.iload_n 1, 1) := by decide +kernel
theorem dX1_formOf_5 : decode cX1_formOf 5 = .ok (.iaload, 1) := by decide +kernel
theorem dX1_formOf_6 : decode cX1_formOf 6 = .ok (.ireturn, 1) := by decide +kernel
theorem dX1_sizeOf_0 : decode cX1_sizeOf 0 = .ok (.aload_n 0, 1) := by decide +kernel
theorem dX1_sizeOf_1 : decode cX1_sizeOf 1 = .ok (.getfield 15, 3) := by decide +kernel
theorem dX1_sizeOf_4 : decode cX1_sizeOf 4 = .ok (.iload_n 1, 1) := by decide +kernel
theorem dX1_sizeOf_5 : decode cX1_sizeOf 5 = .ok (.iaload, 1) := by decide +kernel
theorem dX1_sizeOf_6 : decode cX1_sizeOf 6 = .ok (.ireturn, 1) := by decide +kernel
theorem dX1_make_0 : decode cX1_make 0 = .ok (.aload_n 0, 1) := by decide +kernel
theorem dX1_make_1 : decode cX1_make 1 = .ok (.getfield 9, 3) := by decide +kernel
theorem dX1_make_4 : decode cX1_make 4 = .ok (.iload_n 1, 1) := by decide +kernel
theorem dX1_make_5 : decode cX1_make 5 = .ok (.iload_n 2, 1) := by decide +kernel
theorem dX1_make_6 : decode cX1_make 6 = .ok (.iastore, 1) := by decide +kernel
theorem dX1_make_7 : decode cX1_make 7 = .ok (.aload_n 0, 1) := by decide +kernel
theorem dX1_make_8 : decode cX1_make 8 = .ok (.getfield 15, 3) := by decide +kernel
theorem dX1_make_11 : decode cX1_make 11 = .ok (.iload_n 1, 1) := by decide +kernel
theorem dX1_make_12 : decode cX1_make 12 = .ok (.iload_n 3, 1) := by decide +kernel
theorem dX1_make_13 : decode cX1_make 13 = .ok (.iastore, 1) := by decide +kernel
theorem dX1_make_14 : decode cX1_make 14 = .ok (.aload_n 0, 1) := by decide +kernel
theorem dX1_make_15 : decode cX1_make 15 = .ok (.getfield 18, 3) := by decide +kernel
theorem dX1_make_18 : decode cX1_make 18 = .ok (.iload_n 1, 1) := by decide +kernel
theorem dX1_make_19 : decode cX1_make 19 = .ok (.bipush 60, 2) := by decide +kernel
theorem dX1_make_21 : decode cX1_make 21 = .ok (.imul, 1) := by decide +kernel
theorem dX1_make_22 : decode cX1_make 22 = .ok (.iload_n 1, 1) := by decide +kernel
theorem dX1_make_23 : decode cX1_make 23 = .ok (.bipush 60, 2) := by decide +kernel
theorem dX1_make_25 : decode cX1_make 25 = .ok (.imul, 1) := by decide +kernel
theorem dX1_make_26 : decode cX1_make 26 = .ok (.iload_n 3, 1) := by decide +kernel
theorem dX1_make_27 : decode cX1_make 27 = .ok (.iadd, 1) := by decide +kernel
theorem dX1_make_28 : decode cX1_make 28 = .ok (.iconst 0, 1) := by decide +kernel
theorem dX1_make_29 : decode cX1_make 29 = .ok (.invokestatic 31, 3) := by decide +kernel
theorem dX1_make_32 : decode cX1_make 32 = .ok (.return_, 1) := by decide +kernel
theorem dX1_wrongWith_0 : decode cX1_wrongWith 0 = .ok (.aload_n 0, 1) := by decide +kernel
theorem dX1_wrongWith_1 : decode cX1_wrongWith 1 = .ok (.iload_n 1, 1) := by decide +kernel
theorem dX1_wrongWith_2 : decode cX1_wrongWith 2 = .ok (.invokevirtual 34, 3) := by decide +kernel
theorem dX1_wrongWith_5 : decode cX1_wrongWith 5 = .ok (.ifCond .eq 5, 3) := by decide +kernel
theorem dX1_wrongWith_8 : decode cX1_wrongWith 8 = .ok (.iconst 1, 1) := by decide +kernel
theorem dX1_wrongWith_9 : decode cX1_wrongWith 9 = .ok (.ireturn, 1) := by decide +kernel
theorem dX1_wrongWith_10 : decode cX1_wrongWith 10 = .ok (.aload_n 0, 1) := by decide +kernel
theorem dX1_wrongWith_11 : decode cX1_wrongWith 11 = .ok (.getfield 9, 3) := by decide +kernel
theorem dX1_wrongWith_14 : decode cX1_wrongWith 14 = .ok (.iload_n 1, 1) := by decide +kernel
theorem dX1_wrongWith_15 : decode cX1_wrongWith 15 = .ok (.iaload, 1) := by decide +kernel
theorem dX1_wrongWith_16 : decode cX1_wrongWith 16 = .ok (.iload_n 2, 1) := by decide +kernel
theorem dX1_wrongWith_17 : decode cX1_wrongWith 17 = .ok (.if_icmp .eq 5, 3) := by decide +kernel
theorem dX1_wrongWith_20 : decode cX1_wrongWith 20 = .ok (.iconst 3, 1) := by decide +kernel
theorem dX1_wrongWith_21 : decode cX1_wrongWith 21 = .ok (.ireturn, 1) := by decide +kernel
theorem dX1_wrongWith_22 : decode cX1_wrongWith 22 = .ok (.iload_n 3, 1) := by decide +kernel
theorem dX1_wrongWith_23 : decode cX1_wrongWith 23 = .ok (.aload_n 0, 1) := by decide +kernel
theorem dX1_wrongWith_24 : decode cX1_wrongWith 24 = .ok (.getfield 15, 3) := by decide +kernel
theorem dX1_wrongWith_27 : decode cX1_wrongWith 27 = .ok (.iload_n 1, 1) := by decide +kernel
theorem dX1_wrongWith_28 : decode cX1_wrongWith 28 = .ok (.iaload, 1) := by decide +kernel
theorem dX1_wrongWith_29 : decode cX1_wrongWith 29 = .ok (.invokestatic 38, 3) := by decide +kernel
theorem dX1_wrongWith_32 : decode cX1_wrongWith 32 = .ok (.ifCond .eq 7, 3) := by decide +kernel
theorem dX1_wrongWith_35 : decode cX1_wrongWith 35 = .ok (.iconst 2, 1) := by decide +kernel
theorem dX1_wrongWith_36 : decode cX1_wrongWith 36 = .ok (.goto 4, 3) := by decide +kernel
theorem dX1_wrongWith_39 : decode cX1_wrongWith 39 = .ok (.iconst 0, 1) := by decide +kernel
theorem dX1_wrongWith_40 : decode cX1_wrongWith 40 = .ok (.ireturn, 1) := by decide +kernel
theorem dX1_hasItems_0 : decode cX1_hasItems 0 = .ok (.iload_n 3, 1) := by decide +kernel
theorem dX1_hasItems_1 : decode cX1_hasItems 1 = .ok (.ifCond .lt 23, 3) := by decide +kernel
theorem dX1_hasItems_4 : decode cX1_hasItems 4 = .ok (.iload_n 2, 1) := by decide +kernel
theorem dX1_hasItems_5 : decode cX1_hasItems 5 = .ok (.ifCond .lt 19, 3) := by decide +kernel
theorem dX1_hasItems_8 : decode cX1_hasItems 8 = .ok (.iload_n 2, 1) := by decide +kernel
theorem dX1_hasItems_9 : decode cX1_hasItems 9 = .ok (.aload_n 0, 1) := by decide +kernel
theorem dX1_hasItems_10 : decode cX1_hasItems 10 = .ok (.getfield 15, 3) := by decide +kernel
theorem dX1_hasItems_13 : decode cX1_hasItems 13 = .ok (.iload_n 1, 1) := by decide +kernel
theorem dX1_hasItems_14 : decode cX1_hasItems 14 = .ok (.iaload, 1) := by decide +kernel
theorem dX1_hasItems_15 : decode cX1_hasItems 15 = .ok (.iload_n 3, 1) := by decide +kernel
theorem dX1_hasItems_16 : decode cX1_hasItems 16 = .ok (.isub, 1) := by decide +kernel
theorem dX1_hasItems_17 : decode cX1_hasItems 17 = .ok (.if_icmp .gt 7, 3) := by decide +kernel
theorem dX1_hasItems_20 : decode cX1_hasItems 20 = .ok (.iconst 1, 1) := by decide +kernel
theorem dX1_hasItems_21 : decode cX1_hasItems 21 = .ok (.goto 4, 3) := by decide +kernel
theorem dX1_hasItems_24 : decode cX1_hasItems 24 = .ok (.iconst 0, 1) := by decide +kernel
theorem dX1_hasItems_25 : decode cX1_hasItems 25 = .ok (.ireturn, 1) := by decide +kernel
theorem dX1_item_0 : decode cX1_item 0 = .ok (.iload_n 2, 1) := by decide +kernel
theorem dX1_item_1 : decode cX1_item 1 = .ok (.aload_n 0, 1) := by decide +kernel
theorem dX1_item_2 : decode cX1_item 2 = .ok (.getfield 15, 3) := by decide +kernel
theorem dX1_item_5 : decode cX1_item 5 = .ok (.iload_n 1, 1) := by decide +kernel
theorem dX1_item_6 : decode cX1_item 6 = .ok (.iaload, 1) := by decide +kernel
theorem dX1_item_7 : decode cX1_item 7 = .ok (.invokestatic 38, 3) := by decide +kernel
theorem dX1_item_10 : decode cX1_item 10 = .ok (.ifCond .eq 7, 3) := by decide +kernel
theorem dX1_item_13 : decode cX1_item 13 = .ok (.iconst 0, 1) := by decide +kernel
theorem dX1_item_14 : decode cX1_item 14 = .ok (.goto 14, 3) := by decide +kernel
theorem dX1_item_17 : decode cX1_item 17 = .ok (.aload_n 0, 1) := by decide +kernel
theorem dX1_item_18 : decode cX1_item 18 = .ok (.getfield 18, 3) := by decide +kernel
theorem dX1_item_21 : decode cX1_item 21 = .ok (.iload_n 1, 1) := by decide +kernel
theorem dX1_item_22 : decode cX1_item 22 = .ok (.bipush 60, 2) := by decide +kernel
theorem dX1_item_24 : decode cX1_item 24 = .ok (.imul, 1) := by decide +kernel
theorem dX1_item_25 : decode cX1_item 25 = .ok (.iload_n 2, 1) := by decide +kernel
theorem dX1_item_26 : decode cX1_item 26 = .ok (.iadd, 1) := by decide +kernel
theorem dX1_item_27 : decode cX1_item 27 = .ok (.iaload, 1) := by decide +kernel
theorem dX1_item_28 : decode cX1_item 28 = .ok (.ireturn, 1) := by decide +kernel
theorem dX1_put_0 : decode cX1_put 0 = .ok (.iload_n 2, 1) := by decide +kernel
theorem dX1_put_1 : decode cX1_put 1 = .ok (.aload_n 0, 1) := by decide +kernel
theorem dX1_put_2 : decode cX1_put 2 = .ok (.getfield 15, 3) := by decide +kernel
theorem dX1_put_5 : decode cX1_put 5 = .ok (.iload_n 1, 1) := by decide +kernel
theorem dX1_put_6 : decode cX1_put 6 = .ok (.iaload, 1) := by decide +kernel
theorem dX1_put_7 : decode cX1_put 7 = .ok (.invokestatic 38, 3) := by decide +kernel
theorem dX1_put_10 : decode cX1_put 10 = .ok (.ifCond .ne 44, 3) := by decide +kernel
theorem dX1_put_13 : decode cX1_put 13 = .ok (.aload_n 0, 1) := by decide +kernel
theorem dX1_put_14 : decode cX1_put 14 = .ok (.getfield 18, 3) := by decide +kernel
theorem dX1_put_17 : decode cX1_put 17 = .ok (.iload_n 1, 1) := by decide +kernel
theorem dX1_put_18 : decode cX1_put 18 = .ok (.bipush 60, 2) := by decide +kernel
theorem dX1_put_20 : decode cX1_put 20 = .ok (.imul, 1) := by decide +kernel
theorem dX1_put_21 : decode cX1_put 21 = .ok (.iload_n 2, 1) := by decide +kernel
theorem dX1_put_22 : decode cX1_put 22 = .ok (.iadd, 1) := by decide +kernel
theorem dX1_put_23 : decode cX1_put 23 = .ok (.aload_n 0, 1) := by decide +kernel
theorem dX1_put_24 : decode cX1_put 24 = .ok (.getfield 9, 3) := by decide +kernel
theorem dX1_put_27 : decode cX1_put 27 = .ok (.iload_n 1, 1) := by decide +kernel
theorem dX1_put_28 : decode cX1_put 28 = .ok (.iaload, 1) := by decide +kernel
theorem dX1_put_29 : decode cX1_put 29 = .ok (.ifCond .ne 8, 3) := by decide +kernel
theorem dX1_put_32 : decode cX1_put 32 = .ok (.iload_n 3, 1) := by decide +kernel
theorem dX1_put_33 : decode cX1_put 33 = .ok (.i2b, 1) := by decide +kernel
theorem dX1_put_34 : decode cX1_put 34 = .ok (.goto 19, 3) := by decide +kernel
theorem dX1_put_37 : decode cX1_put 37 = .ok (.aload_n 0, 1) := by decide +kernel
theorem dX1_put_38 : decode cX1_put 38 = .ok (.getfield 9, 3) := by decide +kernel
theorem dX1_put_41 : decode cX1_put 41 = .ok (.iload_n 1, 1) := by decide +kernel
theorem dX1_put_42 : decode cX1_put 42 = .ok (.iaload, 1) := by decide +kernel
theorem dX1_put_43 : decode cX1_put 43 = .ok (.iconst 1, 1) := by decide +kernel
theorem dX1_put_44 : decode cX1_put 44 = .ok (.if_icmp .ne 8, 3) := by decide +kernel
theorem dX1_put_47 : decode cX1_put 47 = .ok (.iload_n 3, 1) := by decide +kernel
theorem dX1_put_48 : decode cX1_put 48 = .ok (.i2s, 1) := by decide +kernel
theorem dX1_put_49 : decode cX1_put 49 = .ok (.goto 4, 3) := by decide +kernel
theorem dX1_put_52 : decode cX1_put 52 = .ok (.iload_n 3, 1) := by decide +kernel
theorem dX1_put_53 : decode cX1_put 53 = .ok (.iastore, 1) := by decide +kernel
theorem dX1_put_54 : decode cX1_put 54 = .ok (.return_, 1) := by decide +kernel
theorem dX1_move_0 : decode cX1_move 0 = .ok (.aload_n 0, 1) := by decide +kernel
theorem dX1_move_1 : decode cX1_move 1 = .ok (.getfield 18, 3) := by decide +kernel
theorem dX1_move_4 : decode cX1_move 4 = .ok (.iload_n 1, 1) := by decide +kernel
theorem dX1_move_5 : decode cX1_move 5 = .ok (.bipush 60, 2) := by decide +kernel
theorem dX1_move_7 : decode cX1_move 7 = .ok (.imul, 1) := by decide +kernel
theorem dX1_move_8 : decode cX1_move 8 = .ok (.iload_n 2, 1) := by decide +kernel
theorem dX1_move_9 : decode cX1_move 9 = .ok (.iadd, 1) := by decide +kernel
theorem dX1_move_10 : decode cX1_move 10 = .ok (.aload_n 0, 1) := by decide +kernel
theorem dX1_move_11 : decode cX1_move 11 = .ok (.getfield 18, 3) := by decide +kernel
theorem dX1_move_14 : decode cX1_move 14 = .ok (.iload_n 3, 1) := by decide +kernel
theorem dX1_move_15 : decode cX1_move 15 = .ok (.bipush 60, 2) := by decide +kernel
theorem dX1_move_17 : decode cX1_move 17 = .ok (.imul, 1) := by decide +kernel
theorem dX1_move_18 : decode cX1_move 18 = .ok (.iload 4, 2) := by decide +kernel
theorem dX1_move_20 : decode cX1_move 20 = .ok (.iadd, 1) := by decide +kernel
theorem dX1_move_21 : decode cX1_move 21 = .ok (.iload 5, 2) := by decide +kernel
theorem dX1_move_23 : decode cX1_move 23 = .ok (.invokestatic 42, 3) := by decide +kernel
theorem dX1_move_26 : decode cX1_move 26 = .ok (.return_, 1) := by decide +kernel
theorem dX2_init_0 : decode cX2_init 0 = .ok (.aload_n 0, 1) := by decide +kernel
theorem dX2_init_1 : decode cX2_init 1 = .ok (.invokespecial 3, 3) := by decide +kernel
theorem dX2_init_4 : decode cX2_init 4 = .ok (.aload_n 0, 1) := by decide +kernel
theorem dX2_init_5 : decode cX2_init 5 = .ok (.bipush 6, 2) := by decide +kernel
theorem dX2_init_7 : decode cX2_init 7 = .ok (.newarray .int, 2) := by decide +kernel
theorem dX2_init_9 : decode cX2_init 9 = .ok (.putfield 9, 3) := by decide +kernel
theorem dX2_init_12 : decode cX2_init 12 = .ok (.aload_n 0, 1) := by decide +kernel
theorem dX2_init_13 : decode cX2_init 13 = .ok (.iconst 0, 1) := by decide +kernel
theorem dX2_init_14 : decode cX2_init 14 = .ok (.putfield 15, 3) := by decide +kernel
theorem dX2_init_17 : decode cX2_init 17 = .ok (.aload_n 0, 1) := by decide +kernel
theorem dX2_init_18 : decode cX2_init 18 = .ok (.sipush 602, 3) := by decide +kernel
theorem dX2_init_21 : decode cX2_init 21 = .ok (.newarray .int, 2) := by decide +kernel
theorem dX2_init_23 : decode cX2_init 23 = .ok (.putfield 19, 3) := by decide +kernel
theorem dX2_init_26 : decode cX2_init 26 = .ok (.aload_n 0, 1) := by decide +kernel
theorem dX2_init_27 : decode cX2_init 27 = .ok (.sipush 602, 3) := by decide +kernel
theorem dX2_init_30 : decode cX2_init 30 = .ok (.newarray .int, 2) := by decide +kernel
theorem dX2_init_32 : decode cX2_init 32 = .ok (.putfield 22, 3) := by decide +kernel
theorem dX2_init_35 : decode cX2_init 35 = .ok (.aload_n 0, 1) := by decide +kernel
theorem dX2_init_36 : decode cX2_init 36 = .ok (.iconst 0, 1) := by decide +kernel
theorem dX2_init_37 : decode cX2_init 37 = .ok (.putfield 25, 3) := by decide +kernel
theorem dX2_init_40 : decode cX2_init 40 = .ok (.aload_n 0, 1) := by decide +kernel
theorem dX2_init_41 : decode cX2_init 41 = .ok (.sipush 240, 3) := by decide +kernel
theorem dX2_init_44 : decode cX2_init 44 = .ok (.newarray .int, 2) := by decide +kernel
theorem dX2_init_46 : decode cX2_init 46 = .ok (.putfield 28, 3) := by decide +kernel
theorem dX2_init_49 : decode cX2_init 49 = .ok (.aload_n 0, 1) := by decide +kernel
theorem dX2_init_50 : decode cX2_init 50 = .ok (.bipush 6, 2) := by decide +kernel
theorem dX2_init_52 : decode cX2_init 52 = .ok (.newarray .int, 2) := by decide +kernel
theorem dX2_init_54 : decode cX2_init 54 = .ok (.putfield 31, 3) := by decide +kernel
theorem dX2_init_57 : decode cX2_init 57 = .ok (.aload_n 0, 1) := by decide +kernel
theorem dX2_init_58 : decode cX2_init 58 = .ok (.iconst 0, 1) := by decide +kernel
theorem dX2_init_59 : decode cX2_init 59 = .ok (.putfield 34, 3) := by decide +kernel
theorem dX2_init_62 : decode cX2_init 62 = .ok (.aload_n 0, 1) := by decide +kernel
theorem dX2_init_63 : decode cX2_init 63 = .ok (.iconst (-1), 1) := by decide +kernel
theorem dX2_init_64 : decode cX2_init 64 = .ok (.putfield 37, 3) := by decide +kernel
theorem dX2_init_67 : decode cX2_init 67 = .ok (.aload_n 0, 1) := by decide +kernel
theorem dX2_init_68 : decode cX2_init 68 = .ok (.iconst 0, 1) := by decide +kernel
theorem dX2_init_69 : decode cX2_init 69 = .ok (.putfield 40, 3) := by decide +kernel
theorem dX2_init_72 : decode cX2_init 72 = .ok (.aload_n 0, 1) := by decide +kernel
theorem dX2_init_73 : decode cX2_init 73 = .ok (.iconst 0, 1) := by decide +kernel
theorem dX2_init_74 : decode cX2_init 74 = .ok (.putfield 43, 3) := by decide +kernel
theorem dX2_init_77 : decode cX2_init 77 = .ok (.aload_n 0, 1) := by decide +kernel
theorem dX2_init_78 : decode cX2_init 78 = .ok (.aload_n 1, 1) := by decide +kernel
theorem dX2_init_79 : decode cX2_init 79 = .ok (.putfield 47, 3) := by decide +kernel
theorem dX2_init_82 : decode cX2_init 82 = .ok (.return_, 1) := by decide +kernel
theorem dX2_run_0 : decode cX2_run 0 = .ok (.aload_n 0, 1) := by decide +kernel
theorem dX2_run_1 : decode cX2_run 1 = .ok (.iload_n 3, 1) := by decide +kernel
theorem dX2_run_2 : decode cX2_run 2 = .ok (.invokevirtual 51, 3) := by decide +kernel
theorem dX2_run_5 : decode cX2_run 5 = .ok (.iconst 3, 1) := by decide +kernel
theorem dX2_run_6 : decode cX2_run 6 = .ok (.istore 4, 2) := by decide +kernel
theorem dX2_run_8 : decode cX2_run 8 = .ok (.iload 4, 2) := by decide +kernel
theorem dX2_run_10 : decode cX2_run 10 = .ok (.ifCond .lt 157, 3) := by decide +kernel
theorem dX2_run_13 : decode cX2_run 13 = .ok (.aload_n 0, 1) := by decide +kernel
theorem dX2_run_14 : decode cX2_run 14 = .ok (.getfield 34, 3) := by decide +kernel
theorem dX2_run_17 : decode cX2_run 17 = .ok (.ifCond .ne 150, 3) := by decide +kernel
theorem dX2_run_20 : decode cX2_run 20 = .ok (.iload_n 1, 1) := by decide +kernel
theorem dX2_run_21 : decode cX2_run 21 = .ok (.iconst 4, 1) := by decide +kernel
theorem dX2_run_22 : decode cX2_run 22 = .ok (.iload 4, 2) := by decide +kernel
theorem dX2_run_24 : decode cX2_run 24 = .ok (.imul, 1) := by decide +kernel
theorem dX2_run_25 : decode cX2_run 25 = .ok (.ishr, 1) := by decide +kernel
theorem dX2_run_26 : decode cX2_run 26 = .ok (.iconst 3, 1) := by decide +kernel
theorem dX2_run_27 : decode cX2_run 27 = .ok (.iand, 1) := by decide +kernel
theorem dX2_run_28 : decode cX2_run 28 = .ok (.istore 5, 2) := by decide +kernel
theorem dX2_run_30 : decode cX2_run 30 = .ok (.iload_n 2, 1) := by decide +kernel
theorem dX2_run_31 : decode cX2_run 31 = .ok (.iload 5, 2) := by decide +kernel
theorem dX2_run_33 : decode cX2_run 33 = .ok (.ishr, 1) := by decide +kernel
theorem dX2_run_34 : decode cX2_run 34 = .ok (.iconst 1, 1) := by decide +kernel
theorem dX2_run_35 : decode cX2_run 35 = .ok (.iand, 1) := by decide +kernel
theorem dX2_run_36 : decode cX2_run 36 = .ok (.ifCond .eq 125, 3) := by decide +kernel
theorem dX2_run_39 : decode cX2_run 39 = .ok (.aload_n 0, 1) := by decide +kernel
theorem dX2_run_40 : decode cX2_run 40 = .ok (.getfield 47, 3) := by decide +kernel
theorem dX2_run_43 : decode cX2_run 43 = .ok (.iload 5, 2) := by decide +kernel
theorem dX2_run_45 : decode cX2_run 45 = .ok (.invokevirtual 55, 3) := by decide +kernel
theorem dX2_run_48 : decode cX2_run 48 = .ok (.ifCond .ne 6, 3) := by decide +kernel
theorem dX2_run_51 : decode cX2_run 51 = .ok (.goto 110, 3) := by decide +kernel
theorem dX2_run_54 : decode cX2_run 54 = .ok (.iconst 2, 1) := by decide +kernel
theorem dX2_run_55 : decode cX2_run 55 = .ok (.iload 5, 2) := by decide +kernel
theorem dX2_run_57 : decode cX2_run 57 = .ok (.imul, 1) := by decide +kernel
theorem dX2_run_58 : decode cX2_run 58 = .ok (.bipush 30, 2) := by decide +kernel
theorem dX2_run_60 : decode cX2_run 60 = .ok (.imul, 1) := by decide +kernel
theorem dX2_run_61 : decode cX2_run 61 = .ok (.istore 6, 2) := by decide +kernel
theorem dX2_run_63 : decode cX2_run 63 = .ok (.aload_n 0, 1) := by decide +kernel
theorem dX2_run_64 : decode cX2_run 64 = .ok (.iload 6, 2) := by decide +kernel
theorem dX2_run_66 : decode cX2_run 66 = .ok (.ldc 63, 2) := by decide +kernel
theorem dX2_run_68 : decode cX2_run 68 = .ok (.invokestatic 64, 3) := by decide +kernel
theorem dX2_run_71 : decode cX2_run 71 = .ok (.iload 6, 2) := by decide +kernel
theorem dX2_run_73 : decode cX2_run 73 = .ok (.bipush 30, 2) := by decide +kernel
theorem dX2_run_75 : decode cX2_run 75 = .ok (.iadd, 1) := by decide +kernel
theorem dX2_run_76 : decode cX2_run 76 = .ok (.ldc 63, 2) := by decide +kernel
theorem dX2_run_78 : decode cX2_run 78 = .ok (.invokestatic 64, 3) := by decide +kernel
theorem dX2_run_81 : decode cX2_run 81 = .ok (.invokevirtual 70, 3) := by decide +kernel
theorem dX2_run_84 : decode cX2_run 84 = .ok (.aload_n 0, 1) := by decide +kernel
theorem dX2_run_85 : decode cX2_run 85 = .ok (.getfield 25, 3) := by decide +kernel
theorem dX2_run_88 : decode cX2_run 88 = .ok (.ifCond .le 37, 3) := by decide +kernel
theorem dX2_run_91 : decode cX2_run 91 = .ok (.aload_n 0, 1) := by decide +kernel
theorem dX2_run_92 : decode cX2_run 92 = .ok (.getfield 34, 3) := by decide +kernel
theorem dX2_run_95 : decode cX2_run 95 = .ok (.ifCond .ne 30, 3) := by decide +kernel
theorem dX2_run_98 : decode cX2_run 98 = .ok (.aload_n 0, 1) := by decide +kernel
theorem dX2_run_99 : decode cX2_run 99 = .ok (.getfield 40, 3) := by decide +kernel
theorem dX2_run_102 : decode cX2_run 102 = .ok (.sipush 600, 3) := by decide +kernel
theorem dX2_run_105 : decode cX2_run 105 = .ok (.if_icmp .ge 20, 3) := by decide +kernel
theorem dX2_run_108 : decode cX2_run 108 = .ok (.aload_n 0, 1) := by decide +kernel
theorem dX2_run_109 : decode cX2_run 109 = .ok (.dup, 1) := by decide +kernel
theorem dX2_run_110 : decode cX2_run 110 = .ok (.getfield 40, 3) := by decide +kernel
theorem dX2_run_113 : decode cX2_run 113 = .ok (.iconst 1, 1) := by decide +kernel
theorem dX2_run_114 : decode cX2_run 114 = .ok (.iadd, 1) := by decide +kernel
theorem dX2_run_115 : decode cX2_run 115 = .ok (.putfield 40, 3) := by decide +kernel
theorem dX2_run_118 : decode cX2_run 118 = .ok (.aload_n 0, 1) := by decide +kernel
theorem dX2_run_119 : decode cX2_run 119 = .ok (.invokevirtual 74, 3) := by decide +kernel
theorem dX2_run_122 : decode cX2_run 122 = .ok (.goto (-38), 3) := by decide +kernel
theorem dX2_run_125 : decode cX2_run 125 = .ok (.aload_n 0, 1) := by decide +kernel
theorem dX2_run_126 : decode cX2_run 126 = .ok (.getfield 25, 3) := by decide +kernel
theorem dX2_run_129 : decode cX2_run 129 = .ok (.ifCond .le 15, 3) := by decide +kernel
theorem dX2_run_132 : decode cX2_run 132 = .ok (.aload_n 0, 1) := by decide +kernel
theorem dX2_run_133 : decode cX2_run 133 = .ok (.getfield 34, 3) := by decide +kernel
theorem dX2_run_136 : decode cX2_run 136 = .ok (.ifCond .ne 8, 3) := by decide +kernel
theorem dX2_run_139 : decode cX2_run 139 = .ok (.aload_n 0, 1) := by decide +kernel
theorem dX2_run_140 : decode cX2_run 140 = .ok (.iconst 4, 1) := by decide +kernel
theorem dX2_run_141 : decode cX2_run 141 = .ok (.putfield 34, 3) := by decide +kernel
theorem dX2_run_144 : decode cX2_run 144 = .ok (.aload_n 0, 1) := by decide +kernel
theorem dX2_run_145 : decode cX2_run 145 = .ok (.aload_n 0, 1) := by decide +kernel
theorem dX2_run_146 : decode cX2_run 146 = .ok (.getfield 34, 3) := by decide +kernel
theorem dX2_run_149 : decode cX2_run 149 = .ok (.ifCond .ne 7, 3) := by decide +kernel
theorem dX2_run_152 : decode cX2_run 152 = .ok (.iconst (-1), 1) := by decide +kernel
theorem dX2_run_153 : decode cX2_run 153 = .ok (.goto 5, 3) := by decide +kernel
theorem dX2_run_156 : decode cX2_run 156 = .ok (.iload 5, 2) := by decide +kernel
theorem dX2_run_158 : decode cX2_run 158 = .ok (.putfield 37, 3) := by decide +kernel
theorem dX2_run_161 : decode cX2_run 161 = .ok (.iinc 4 (-1), 3) := by decide +kernel
theorem dX2_run_164 : decode cX2_run 164 = .ok (.goto (-156), 3) := by decide +kernel
theorem dX2_run_167 : decode cX2_run 167 = .ok (.aload_n 0, 1) := by decide +kernel
theorem dX2_run_168 : decode cX2_run 168 = .ok (.getfield 34, 3) := by decide +kernel
theorem dX2_run_171 : decode cX2_run 171 = .ok (.ifCond .ne 7, 3) := by decide +kernel
theorem dX2_run_174 : decode cX2_run 174 = .ok (.aload_n 0, 1) := by decide +kernel
theorem dX2_run_175 : decode cX2_run 175 = .ok (.invokevirtual 77, 3) := by decide +kernel
theorem dX2_run_178 : decode cX2_run 178 = .ok (.return_, 1) := by decide +kernel
theorem dX2_needsNoMoreThanTold_0 : decode cX2_needsNoMoreThanTold 0 = .ok (.iconst 0, 1) := by decide +kernel
theorem dX2_needsNoMoreThanTold_1 : decode cX2_needsNoMoreThanTold 1 = .ok (.istore_n 1, 1) := by decide +kernel
theorem dX2_needsNoMoreThanTold_2 : decode cX2_needsNoMoreThanTold 2 = .ok (.iconst 0, 1) := by decide +kernel
theorem dX2_needsNoMoreThanTold_3 : decode cX2_needsNoMoreThanTold 3 = .ok (.istore_n 2, 1) := by decide +kernel
theorem dX2_needsNoMoreThanTold_4 : decode cX2_needsNoMoreThanTold 4 = .ok (.iload_n 2, 1) := by decide +kernel
theorem dX2_needsNoMoreThanTold_5 : decode cX2_needsNoMoreThanTold 5 = .ok (.bipush 6, 2) := by decide +kernel
theorem dX2_needsNoMoreThanTold_7 : decode cX2_needsNoMoreThanTold 7 = .ok (.if_icmp .ge 29, 3) := by decide +kernel
theorem dX2_needsNoMoreThanTold_10 : decode cX2_needsNoMoreThanTold 10 = .ok (.iload_n 1, 1) := by decide +kernel
theorem dX2_needsNoMoreThanTold_11 : decode cX2_needsNoMoreThanTold 11 = .ok (.aload_n 0, 1) := by decide +kernel
theorem dX2_needsNoMoreThanTold_12 : decode cX2_needsNoMoreThanTold 12 = .ok (.getfield 31, 3) := by decide +kernel
theorem dX2_needsNoMoreThanTold_15 : decode cX2_needsNoMoreThanTold 15 = .ok (.iload_n 2, 1) := by decide +kernel
theorem dX2_needsNoMoreThanTold_16 : decode cX2_needsNoMoreThanTold 16 = .ok (.iaload, 1) := by decide +kernel
theorem dX2_needsNoMoreThanTold_17 : decode cX2_needsNoMoreThanTold 17 = .ok (.aload_n 0, 1) := by decide +kernel
theorem dX2_needsNoMoreThanTold_18 : decode cX2_needsNoMoreThanTold 18 = .ok (.getfield 47, 3) := by decide +kernel
theorem dX2_needsNoMoreThanTold_21 : decode cX2_needsNoMoreThanTold 21 = .ok (.iload_n 2, 1) := by decide +kernel
theorem dX2_needsNoMoreThanTold_22 : decode cX2_needsNoMoreThanTold 22 = .ok (.invokevirtual 80, 3) := by decide +kernel
theorem dX2_needsNoMoreThanTold_25 : decode cX2_needsNoMoreThanTold 25 = .ok (.iconst (-1), 1) := by decide +kernel
theorem dX2_needsNoMoreThanTold_26 : decode cX2_needsNoMoreThanTold 26 = .ok (.ixor, 1) := by decide +kernel
theorem dX2_needsNoMoreThanTold_27 : decode cX2_needsNoMoreThanTold 27 = .ok (.iand, 1) := by decide +kernel
theorem dX2_needsNoMoreThanTold_28 : decode cX2_needsNoMoreThanTold 28 = .ok (.ior, 1) := by decide +kernel
theorem dX2_needsNoMoreThanTold_29 : decode cX2_needsNoMoreThanTold 29 = .ok (.istore_n 1, 1) := by decide +kernel
theorem dX2_needsNoMoreThanTold_30 : decode cX2_needsNoMoreThanTold 30 = .ok (.iinc 2 1, 3) := by decide +kernel
theorem dX2_needsNoMoreThanTold_33 : decode cX2_needsNoMoreThanTold 33 = .ok (.goto (-29), 3) := by decide +kernel
theorem dX2_needsNoMoreThanTold_36 : decode cX2_needsNoMoreThanTold 36 = .ok (.aload_n 0, 1) := by decide +kernel
theorem dX2_needsNoMoreThanTold_37 : decode cX2_needsNoMoreThanTold 37 = .ok (.getfield 34, 3) := by decide +kernel
theorem dX2_needsNoMoreThanTold_40 : decode cX2_needsNoMoreThanTold 40 = .ok (.ifCond .ne 11, 3) := by decide +kernel
theorem dX2_needsNoMoreThanTold_43 : decode cX2_needsNoMoreThanTold 43 = .ok (.iload_n 1, 1) := by decide +kernel
theorem dX2_needsNoMoreThanTold_44 : decode cX2_needsNoMoreThanTold 44 = .ok (.ifCond .ne 7, 3) := by decide +kernel
theorem dX2_needsNoMoreThanTold_47 : decode cX2_needsNoMoreThanTold 47 = .ok (.iconst 1, 1) := by decide +kernel
theorem dX2_needsNoMoreThanTold_48 : decode cX2_needsNoMoreThanTold 48 = .ok (.goto 4, 3) := by decide +kernel
theorem dX2_needsNoMoreThanTold_51 : decode cX2_needsNoMoreThanTold 51 = .ok (.iconst 0, 1) := by decide +kernel
theorem dX2_needsNoMoreThanTold_52 : decode cX2_needsNoMoreThanTold 52 = .ok (.ireturn, 1) := by decide +kernel
theorem dX2_finding_0 : decode cX2_finding 0 = .ok (.iload_n 1, 1) := by decide +kernel
theorem dX2_finding_1 : decode cX2_finding 1 = .ok (.tableswitch 42 0 2 #[27, 32, 37], 27) := by decide +kernel
theorem dX2_finding_28 : decode cX2_finding 28 = .ok (.aload_n 0, 1) := by decide +kernel
theorem dX2_finding_29 : decode cX2_finding 29 = .ok (.getfield 34, 3) := by decide +kernel
theorem dX2_finding_32 : decode cX2_finding 32 = .ok (.ireturn, 1) := by decide +kernel
theorem dX2_finding_33 : decode cX2_finding 33 = .ok (.aload_n 0, 1) := by decide +kernel
theorem dX2_finding_34 : decode cX2_finding 34 = .ok (.getfield 37, 3) := by decide +kernel
theorem dX2_finding_37 : decode cX2_finding 37 = .ok (.ireturn, 1) := by decide +kernel
theorem dX2_finding_38 : decode cX2_finding 38 = .ok (.aload_n 0, 1) := by decide +kernel
theorem dX2_finding_39 : decode cX2_finding 39 = .ok (.getfield 40, 3) := by decide +kernel
theorem dX2_finding_42 : decode cX2_finding 42 = .ok (.ireturn, 1) := by decide +kernel
theorem dX2_finding_43 : decode cX2_finding 43 = .ok (.aload_n 0, 1) := by decide +kernel
theorem dX2_finding_44 : decode cX2_finding 44 = .ok (.getfield 15, 3) := by decide +kernel
theorem dX2_finding_47 : decode cX2_finding 47 = .ok (.ireturn, 1) := by decide +kernel
theorem dX2_freshNames_0 : decode cX2_freshNames 0 = .ok (.aload_n 0, 1) := by decide +kernel
theorem dX2_freshNames_1 : decode cX2_freshNames 1 = .ok (.getfield 34, 3) := by decide +kernel
theorem dX2_freshNames_4 : decode cX2_freshNames 4 = .ok (.ifCond .ne 22, 3) := by decide +kernel
theorem dX2_freshNames_7 : decode cX2_freshNames 7 = .ok (.aload_n 0, 1) := by decide +kernel
theorem dX2_freshNames_8 : decode cX2_freshNames 8 = .ok (.getfield 9, 3) := by decide +kernel
theorem dX2_freshNames_11 : decode cX2_freshNames 11 = .ok (.iload_n 1, 1) := by decide +kernel
theorem dX2_freshNames_12 : decode cX2_freshNames 12 = .ok (.iaload, 1) := by decide +kernel
theorem dX2_freshNames_13 : decode cX2_freshNames 13 = .ok (.iconst (-1), 1) := by decide +kernel
theorem dX2_freshNames_14 : decode cX2_freshNames 14 = .ok (.if_icmp .ne 12, 3) := by decide +kernel
theorem dX2_freshNames_17 : decode cX2_freshNames 17 = .ok (.aload_n 0, 1) := by decide +kernel
theorem dX2_freshNames_18 : decode cX2_freshNames 18 = .ok (.getfield 31, 3) := by decide +kernel
theorem dX2_freshNames_21 : decode cX2_freshNames 21 = .ok (.iload_n 1, 1) := by decide +kernel
theorem dX2_freshNames_22 : decode cX2_freshNames 22 = .ok (.iaload, 1) := by decide +kernel
theorem dX2_freshNames_23 : decode cX2_freshNames 23 = .ok (.goto 4, 3) := by decide +kernel
theorem dX2_freshNames_26 : decode cX2_freshNames 26 = .ok (.iconst 0, 1) := by decide +kernel
theorem dX2_freshNames_27 : decode cX2_freshNames 27 = .ok (.ireturn, 1) := by decide +kernel
theorem dX2_openUnknowns_0 : decode cX2_openUnknowns 0 = .ok (.aload_n 0, 1) := by decide +kernel
theorem dX2_openUnknowns_1 : decode cX2_openUnknowns 1 = .ok (.getfield 34, 3) := by decide +kernel
theorem dX2_openUnknowns_4 : decode cX2_openUnknowns 4 = .ok (.ifCond .eq 5, 3) := by decide +kernel
theorem dX2_openUnknowns_7 : decode cX2_openUnknowns 7 = .ok (.iconst 0, 1) := by decide +kernel
theorem dX2_openUnknowns_8 : decode cX2_openUnknowns 8 = .ok (.ireturn, 1) := by decide +kernel
theorem dX2_openUnknowns_9 : decode cX2_openUnknowns 9 = .ok (.aload_n 0, 1) := by decide +kernel
theorem dX2_openUnknowns_10 : decode cX2_openUnknowns 10 = .ok (.iconst 1, 1) := by decide +kernel
theorem dX2_openUnknowns_11 : decode cX2_openUnknowns 11 = .ok (.iload_n 1, 1) := by decide +kernel
theorem dX2_openUnknowns_12 : decode cX2_openUnknowns 12 = .ok (.ishl, 1) := by decide +kernel
theorem dX2_openUnknowns_13 : decode cX2_openUnknowns 13 = .ok (.invokevirtual 84, 3) := by decide +kernel
theorem dX2_openUnknowns_16 : decode cX2_openUnknowns 16 = .ok (.istore_n 2, 1) := by decide +kernel
theorem dX2_openUnknowns_17 : decode cX2_openUnknowns 17 = .ok (.iconst 0, 1) := by decide +kernel
theorem dX2_openUnknowns_18 : decode cX2_openUnknowns 18 = .ok (.istore_n 3, 1) := by decide +kernel
theorem dX2_openUnknowns_19 : decode cX2_openUnknowns 19 = .ok (.iload_n 3, 1) := by decide +kernel
theorem dX2_openUnknowns_20 : decode cX2_openUnknowns 20 = .ok (.bipush 6, 2) := by decide +kernel
theorem dX2_openUnknowns_22 : decode cX2_openUnknowns 22 = .ok (.if_icmp .ge 27, 3) := by decide +kernel
theorem dX2_openUnknowns_25 : decode cX2_openUnknowns 25 = .ok (.aload_n 0, 1) := by decide +kernel
theorem dX2_openUnknowns_26 : decode cX2_openUnknowns 26 = .ok (.getfield 9, 3) := by decide +kernel
theorem dX2_openUnknowns_29 : decode cX2_openUnknowns 29 = .ok (.iload_n 3, 1) := by decide +kernel
theorem dX2_openUnknowns_30 : decode cX2_openUnknowns 30 = .ok (.iaload, 1) := by decide +kernel
theorem dX2_openUnknowns_31 : decode cX2_openUnknowns 31 = .ok (.iconst (-1), 1) := by decide +kernel
theorem dX2_openUnknowns_32 : decode cX2_openUnknowns 32 = .ok (.if_icmp .eq 11, 3) := by decide +kernel
theorem dX2_openUnknowns_35 : decode cX2_openUnknowns 35 = .ok (.iload_n 2, 1) := by decide +kernel
theorem dX2_openUnknowns_36 : decode cX2_openUnknowns 36 = .ok (.iconst 1, 1) := by decide +kernel
theorem dX2_openUnknowns_37 : decode cX2_openUnknowns 37 = .ok (.iload_n 3, 1) := by decide +kernel
theorem dX2_openUnknowns_38 : decode cX2_openUnknowns 38 = .ok (.ishl, 1) := by decide +kernel
theorem dX2_openUnknowns_39 : decode cX2_openUnknowns 39 = .ok (.iconst (-1), 1) := by decide +kernel
theorem dX2_openUnknowns_40 : decode cX2_openUnknowns 40 = .ok (.ixor, 1) := by decide +kernel
theorem dX2_openUnknowns_41 : decode cX2_openUnknowns 41 = .ok (.iand, 1) := by decide +kernel
theorem dX2_openUnknowns_42 : decode cX2_openUnknowns 42 = .ok (.istore_n 2, 1) := by decide +kernel
theorem dX2_openUnknowns_43 : decode cX2_openUnknowns 43 = .ok (.iinc 3 1, 3) := by decide +kernel
theorem dX2_openUnknowns_46 : decode cX2_openUnknowns 46 = .ok (.goto (-27), 3) := by decide +kernel
theorem dX2_openUnknowns_49 : decode cX2_openUnknowns 49 = .ok (.iload_n 2, 1) := by decide +kernel
theorem dX2_openUnknowns_50 : decode cX2_openUnknowns 50 = .ok (.ireturn, 1) := by decide +kernel
theorem dX2_clear_0 : decode cX2_clear 0 = .ok (.aload_n 0, 1) := by decide +kernel
theorem dX2_clear_1 : decode cX2_clear 1 = .ok (.iload_n 1, 1) := by decide +kernel
theorem dX2_clear_2 : decode cX2_clear 2 = .ok (.putfield 43, 3) := by decide +kernel
theorem dX2_clear_5 : decode cX2_clear 5 = .ok (.aload_n 0, 1) := by decide +kernel
theorem dX2_clear_6 : decode cX2_clear 6 = .ok (.getfield 9, 3) := by decide +kernel
theorem dX2_clear_9 : decode cX2_clear 9 = .ok (.iconst (-1), 1) := by decide +kernel
theorem dX2_clear_10 : decode cX2_clear 10 = .ok (.invokestatic 87, 3) := by decide +kernel
theorem dX2_clear_13 : decode cX2_clear 13 = .ok (.aload_n 0, 1) := by decide +kernel
theorem dX2_clear_14 : decode cX2_clear 14 = .ok (.getfield 28, 3) := by decide +kernel
theorem dX2_clear_17 : decode cX2_clear 17 = .ok (.iconst 0, 1) := by decide +kernel
theorem dX2_clear_18 : decode cX2_clear 18 = .ok (.invokestatic 87, 3) := by decide +kernel
theorem dX2_clear_21 : decode cX2_clear 21 = .ok (.aload_n 0, 1) := by decide +kernel
theorem dX2_clear_22 : decode cX2_clear 22 = .ok (.getfield 31, 3) := by decide +kernel
theorem dX2_clear_25 : decode cX2_clear 25 = .ok (.iconst 0, 1) := by decide +kernel
theorem dX2_clear_26 : decode cX2_clear 26 = .ok (.invokestatic 87, 3) := by decide +kernel
theorem dX2_clear_29 : decode cX2_clear 29 = .ok (.iconst 0, 1) := by decide +kernel
theorem dX2_clear_30 : decode cX2_clear 30 = .ok (.istore_n 2, 1) := by decide +kernel
theorem dX2_clear_31 : decode cX2_clear 31 = .ok (.iload_n 2, 1) := by decide +kernel
theorem dX2_clear_32 : decode cX2_clear 32 = .ok (.bipush 6, 2) := by decide +kernel
theorem dX2_clear_34 : decode cX2_clear 34 = .ok (.if_icmp .ge 27, 3) := by decide +kernel
theorem dX2_clear_37 : decode cX2_clear 37 = .ok (.iload_n 1, 1) := by decide +kernel
theorem dX2_clear_38 : decode cX2_clear 38 = .ok (.ifCond .ne 23, 3) := by decide +kernel
theorem dX2_clear_41 : decode cX2_clear 41 = .ok (.aload_n 0, 1) := by decide +kernel
theorem dX2_clear_42 : decode cX2_clear 42 = .ok (.getfield 31, 3) := by decide +kernel
theorem dX2_clear_45 : decode cX2_clear 45 = .ok (.iload_n 2, 1) := by decide +kernel
theorem dX2_clear_46 : decode cX2_clear 46 = .ok (.aload_n 0, 1) := by decide +kernel
theorem dX2_clear_47 : decode cX2_clear 47 = .ok (.getfield 47, 3) := by decide +kernel
theorem dX2_clear_50 : decode cX2_clear 50 = .ok (.iload_n 2, 1) := by decide +kernel
theorem dX2_clear_51 : decode cX2_clear 51 = .ok (.invokevirtual 80, 3) := by decide +kernel
theorem dX2_clear_54 : decode cX2_clear 54 = .ok (.iastore, 1) := by decide +kernel
theorem dX2_clear_55 : decode cX2_clear 55 = .ok (.iinc 2 1, 3) := by decide +kernel
theorem dX2_clear_58 : decode cX2_clear 58 = .ok (.goto (-27), 3) := by decide +kernel
theorem dX2_clear_61 : decode cX2_clear 61 = .ok (.aload_n 0, 1) := by decide +kernel
theorem dX2_clear_62 : decode cX2_clear 62 = .ok (.iconst 0, 1) := by decide +kernel
theorem dX2_clear_63 : decode cX2_clear 63 = .ok (.putfield 15, 3) := by decide +kernel
theorem dX2_clear_66 : decode cX2_clear 66 = .ok (.aload_n 0, 1) := by decide +kernel
theorem dX2_clear_67 : decode cX2_clear 67 = .ok (.iconst 0, 1) := by decide +kernel
theorem dX2_clear_68 : decode cX2_clear 68 = .ok (.putfield 25, 3) := by decide +kernel
theorem dX2_clear_71 : decode cX2_clear 71 = .ok (.aload_n 0, 1) := by decide +kernel
theorem dX2_clear_72 : decode cX2_clear 72 = .ok (.iconst 0, 1) := by decide +kernel
theorem dX2_clear_73 : decode cX2_clear 73 = .ok (.putfield 34, 3) := by decide +kernel
theorem dX2_clear_76 : decode cX2_clear 76 = .ok (.aload_n 0, 1) := by decide +kernel
theorem dX2_clear_77 : decode cX2_clear 77 = .ok (.iconst (-1), 1) := by decide +kernel
theorem dX2_clear_78 : decode cX2_clear 78 = .ok (.putfield 37, 3) := by decide +kernel
theorem dX2_clear_81 : decode cX2_clear 81 = .ok (.aload_n 0, 1) := by decide +kernel
theorem dX2_clear_82 : decode cX2_clear 82 = .ok (.iconst 0, 1) := by decide +kernel
theorem dX2_clear_83 : decode cX2_clear 83 = .ok (.putfield 40, 3) := by decide +kernel
theorem dX2_clear_86 : decode cX2_clear 86 = .ok (.return_, 1) := by decide +kernel
theorem dX2_pile_0 : decode cX2_pile 0 = .ok (.aload_n 0, 1) := by decide +kernel
theorem dX2_pile_1 : decode cX2_pile 1 = .ok (.getfield 25, 3) := by decide +kernel
theorem dX2_pile_4 : decode cX2_pile 4 = .ok (.aload_n 0, 1) := by decide +kernel
theorem dX2_pile_5 : decode cX2_pile 5 = .ok (.getfield 19, 3) := by decide +kernel
theorem dX2_pile_8 : decode cX2_pile 8 = .ok (.arraylength, 1) := by decide +kernel
theorem dX2_pile_9 : decode cX2_pile 9 = .ok (.if_icmp .ge 33, 3) := by decide +kernel
theorem dX2_pile_12 : decode cX2_pile 12 = .ok (.aload_n 0, 1) := by decide +kernel
theorem dX2_pile_13 : decode cX2_pile 13 = .ok (.getfield 19, 3) := by decide +kernel
theorem dX2_pile_16 : decode cX2_pile 16 = .ok (.aload_n 0, 1) := by decide +kernel
theorem dX2_pile_17 : decode cX2_pile 17 = .ok (.getfield 25, 3) := by decide +kernel
theorem dX2_pile_20 : decode cX2_pile 20 = .ok (.iload_n 1, 1) := by decide +kernel
theorem dX2_pile_21 : decode cX2_pile 21 = .ok (.iastore, 1) := by decide +kernel
theorem dX2_pile_22 : decode cX2_pile 22 = .ok (.aload_n 0, 1) := by decide +kernel
theorem dX2_pile_23 : decode cX2_pile 23 = .ok (.getfield 22, 3) := by decide +kernel
theorem dX2_pile_26 : decode cX2_pile 26 = .ok (.aload_n 0, 1) := by decide +kernel
theorem dX2_pile_27 : decode cX2_pile 27 = .ok (.getfield 25, 3) := by decide +kernel
theorem dX2_pile_30 : decode cX2_pile 30 = .ok (.iload_n 2, 1) := by decide +kernel
theorem dX2_pile_31 : decode cX2_pile 31 = .ok (.iastore, 1) := by decide +kernel
theorem dX2_pile_32 : decode cX2_pile 32 = .ok (.aload_n 0, 1) := by decide +kernel
theorem dX2_pile_33 : decode cX2_pile 33 = .ok (.dup, 1) := by decide +kernel
theorem dX2_pile_34 : decode cX2_pile 34 = .ok (.getfield 25, 3) := by decide +kernel
theorem dX2_pile_37 : decode cX2_pile 37 = .ok (.iconst 1, 1) := by decide +kernel
theorem dX2_pile_38 : decode cX2_pile 38 = .ok (.iadd, 1) := by decide +kernel
theorem dX2_pile_39 : decode cX2_pile 39 = .ok (.putfield 25, 3) := by decide +kernel
theorem dX2_pile_42 : decode cX2_pile 42 = .ok (.return_, 1) := by decide +kernel
theorem dX2_step_0 : decode cX2_step 0 = .ok (.aload_n 0, 1) := by decide +kernel
theorem dX2_step_1 : decode cX2_step 1 = .ok (.dup, 1) := by decide +kernel
theorem dX2_step_2 : decode cX2_step 2 = .ok (.getfield 25, 3) := by decide +kernel
theorem dX2_step_5 : decode cX2_step 5 = .ok (.iconst 1, 1) := by decide +kernel
theorem dX2_step_6 : decode cX2_step 6 = .ok (.isub, 1) := by decide +kernel
theorem dX2_step_7 : decode cX2_step 7 = .ok (.putfield 25, 3) := by decide +kernel
theorem dX2_step_10 : decode cX2_step 10 = .ok (.aload_n 0, 1) := by decide +kernel
theorem dX2_step_11 : decode cX2_step 11 = .ok (.getfield 47, 3) := by decide +kernel
theorem dX2_step_14 : decode cX2_step 14 = .ok (.aload_n 0, 1) := by decide +kernel
theorem dX2_step_15 : decode cX2_step 15 = .ok (.getfield 19, 3) := by decide +kernel
theorem dX2_step_18 : decode cX2_step 18 = .ok (.aload_n 0, 1) := by decide +kernel
theorem dX2_step_19 : decode cX2_step 19 = .ok (.getfield 25, 3) := by decide +kernel
theorem dX2_step_22 : decode cX2_step 22 = .ok (.iaload, 1) := by decide +kernel
theorem dX2_step_23 : decode cX2_step 23 = .ok (.aload_n 0, 1) := by decide +kernel
theorem dX2_step_24 : decode cX2_step 24 = .ok (.getfield 9, 3) := by decide +kernel
theorem dX2_step_27 : decode cX2_step 27 = .ok (.invokevirtual 93, 3) := by decide +kernel
theorem dX2_step_30 : decode cX2_step 30 = .ok (.istore_n 1, 1) := by decide +kernel
theorem dX2_step_31 : decode cX2_step 31 = .ok (.aload_n 0, 1) := by decide +kernel
theorem dX2_step_32 : decode cX2_step 32 = .ok (.getfield 47, 3) := by decide +kernel
theorem dX2_step_35 : decode cX2_step 35 = .ok (.aload_n 0, 1) := by decide +kernel
theorem dX2_step_36 : decode cX2_step 36 = .ok (.getfield 22, 3) := by decide +kernel
theorem dX2_step_39 : decode cX2_step 39 = .ok (.aload_n 0, 1) := by decide +kernel
theorem dX2_step_40 : decode cX2_step 40 = .ok (.getfield 25, 3) := by decide +kernel
theorem dX2_step_43 : decode cX2_step 43 = .ok (.iaload, 1) := by decide +kernel
theorem dX2_step_44 : decode cX2_step 44 = .ok (.aload_n 0, 1) := by decide +kernel
theorem dX2_step_45 : decode cX2_step 45 = .ok (.getfield 9, 3) := by decide +kernel
theorem dX2_step_48 : decode cX2_step 48 = .ok (.invokevirtual 93, 3) := by decide +kernel
theorem dX2_step_51 : decode cX2_step 51 = .ok (.istore_n 2, 1) := by decide +kernel
theorem dX2_step_52 : decode cX2_step 52 = .ok (.aload_n 0, 1) := by decide +kernel
theorem dX2_step_53 : decode cX2_step 53 = .ok (.getfield 47, 3) := by decide +kernel
theorem dX2_step_56 : decode cX2_step 56 = .ok (.iload_n 1, 1) := by decide +kernel
theorem dX2_step_57 : decode cX2_step 57 = .ok (.invokestatic 97, 3) := by decide +kernel
theorem dX2_step_60 : decode cX2_step 60 = .ok (.invokevirtual 100, 3) := by decide +kernel
theorem dX2_step_63 : decode cX2_step 63 = .ok (.istore_n 3, 1) := by decide +kernel
theorem dX2_step_64 : decode cX2_step 64 = .ok (.aload_n 0, 1) := by decide +kernel
theorem dX2_step_65 : decode cX2_step 65 = .ok (.getfield 47, 3) := by decide +kernel
theorem dX2_step_68 : decode cX2_step 68 = .ok (.iload_n 2, 1) := by decide +kernel
theorem dX2_step_69 : decode cX2_step 69 = .ok (.invokestatic 97, 3) := by decide +kernel
theorem dX2_step_72 : decode cX2_step 72 = .ok (.invokevirtual 100, 3) := by decide +kernel
theorem dX2_step_75 : decode cX2_step 75 = .ok (.istore 4, 2) := by decide +kernel
theorem dX2_step_77 : decode cX2_step 77 = .ok (.aload_n 0, 1) := by decide +kernel
theorem dX2_step_78 : decode cX2_step 78 = .ok (.getfield 47, 3) := by decide +kernel
theorem dX2_step_81 : decode cX2_step 81 = .ok (.iload_n 1, 1) := by decide +kernel
theorem dX2_step_82 : decode cX2_step 82 = .ok (.invokestatic 97, 3) := by decide +kernel
theorem dX2_step_85 : decode cX2_step 85 = .ok (.invokevirtual 103, 3) := by decide +kernel
theorem dX2_step_88 : decode cX2_step 88 = .ok (.istore 5, 2) := by decide +kernel
theorem dX2_step_90 : decode cX2_step 90 = .ok (.iload_n 3, 1) := by decide +kernel
theorem dX2_step_91 : decode cX2_step 91 = .ok (.iconst (-1), 1) := by decide +kernel
theorem dX2_step_92 : decode cX2_step 92 = .ok (.if_icmp .eq 32, 3) := by decide +kernel
theorem dX2_step_95 : decode cX2_step 95 = .ok (.iload_n 3, 1) := by decide +kernel
theorem dX2_step_96 : decode cX2_step 96 = .ok (.iload 4, 2) := by decide +kernel
theorem dX2_step_98 : decode cX2_step 98 = .ok (.if_icmp .ne 26, 3) := by decide +kernel
theorem dX2_step_101 : decode cX2_step 101 = .ok (.aload_n 0, 1) := by decide +kernel
theorem dX2_step_102 : decode cX2_step 102 = .ok (.getfield 31, 3) := by decide +kernel
theorem dX2_step_105 : decode cX2_step 105 = .ok (.iload_n 3, 1) := by decide +kernel
theorem dX2_step_106 : decode cX2_step 106 = .ok (.dup2, 1) := by decide +kernel
theorem dX2_step_107 : decode cX2_step 107 = .ok (.iaload, 1) := by decide +kernel
theorem dX2_step_108 : decode cX2_step 108 = .ok (.iload_n 1, 1) := by decide +kernel
theorem dX2_step_109 : decode cX2_step 109 = .ok (.invokestatic 106, 3) := by decide +kernel
theorem dX2_step_112 : decode cX2_step 112 = .ok (.iload_n 2, 1) := by decide +kernel
theorem dX2_step_113 : decode cX2_step 113 = .ok (.invokestatic 106, 3) := by decide +kernel
theorem dX2_step_116 : decode cX2_step 116 = .ok (.invokestatic 109, 3) := by decide +kernel
theorem dX2_step_119 : decode cX2_step 119 = .ok (.ior, 1) := by decide +kernel
theorem dX2_step_120 : decode cX2_step 120 = .ok (.iastore, 1) := by decide +kernel
theorem dX2_step_121 : decode cX2_step 121 = .ok (.goto 68, 3) := by decide +kernel
theorem dX2_step_124 : decode cX2_step 124 = .ok (.iload_n 3, 1) := by decide +kernel
theorem dX2_step_125 : decode cX2_step 125 = .ok (.iload 4, 2) := by decide +kernel
theorem dX2_step_127 : decode cX2_step 127 = .ok (.if_icmp .le 13, 3) := by decide +kernel
theorem dX2_step_130 : decode cX2_step 130 = .ok (.aload_n 0, 1) := by decide +kernel
theorem dX2_step_131 : decode cX2_step 131 = .ok (.iload_n 3, 1) := by decide +kernel
theorem dX2_step_132 : decode cX2_step 132 = .ok (.iload_n 1, 1) := by decide +kernel
theorem dX2_step_133 : decode cX2_step 133 = .ok (.iload_n 2, 1) := by decide +kernel
theorem dX2_step_134 : decode cX2_step 134 = .ok (.invokevirtual 112, 3) := by decide +kernel
theorem dX2_step_137 : decode cX2_step 137 = .ok (.goto 52, 3) := by decide +kernel
theorem dX2_step_140 : decode cX2_step 140 = .ok (.iload 4, 2) := by decide +kernel
theorem dX2_step_142 : decode cX2_step 142 = .ok (.iload_n 3, 1) := by decide +kernel
theorem dX2_step_143 : decode cX2_step 143 = .ok (.if_icmp .le 14, 3) := by decide +kernel
theorem dX2_step_146 : decode cX2_step 146 = .ok (.aload_n 0, 1) := by decide +kernel
theorem dX2_step_147 : decode cX2_step 147 = .ok (.iload 4, 2) := by decide +kernel
theorem dX2_step_149 : decode cX2_step 149 = .ok (.iload_n 2, 1) := by decide +kernel
theorem dX2_step_150 : decode cX2_step 150 = .ok (.iload_n 1, 1) := by decide +kernel
theorem dX2_step_151 : decode cX2_step 151 = .ok (.invokevirtual 112, 3) := by decide +kernel
theorem dX2_step_154 : decode cX2_step 154 = .ok (.goto 35, 3) := by decide +kernel
theorem dX2_step_157 : decode cX2_step 157 = .ok (.iload 5, 2) := by decide +kernel
theorem dX2_step_159 : decode cX2_step 159 = .ok (.aload_n 0, 1) := by decide +kernel
theorem dX2_step_160 : decode cX2_step 160 = .ok (.getfield 47, 3) := by decide +kernel
theorem dX2_step_163 : decode cX2_step 163 = .ok (.iload_n 2, 1) := by decide +kernel
theorem dX2_step_164 : decode cX2_step 164 = .ok (.invokestatic 97, 3) := by decide +kernel
theorem dX2_step_167 : decode cX2_step 167 = .ok (.invokevirtual 103, 3) := by decide +kernel
theorem dX2_step_170 : decode cX2_step 170 = .ok (.if_icmp .eq 11, 3) := by decide +kernel
theorem dX2_step_173 : decode cX2_step 173 = .ok (.aload_n 0, 1) := by decide +kernel
theorem dX2_step_174 : decode cX2_step 174 = .ok (.iconst 1, 1) := by decide +kernel
theorem dX2_step_175 : decode cX2_step 175 = .ok (.putfield 34, 3) := by decide +kernel
theorem dX2_step_178 : decode cX2_step 178 = .ok (.goto 11, 3) := by decide +kernel
theorem dX2_step_181 : decode cX2_step 181 = .ok (.aload_n 0, 1) := by decide +kernel
theorem dX2_step_182 : decode cX2_step 182 = .ok (.iload_n 1, 1) := by decide +kernel
theorem dX2_step_183 : decode cX2_step 183 = .ok (.iload_n 2, 1) := by decide +kernel
theorem dX2_step_184 : decode cX2_step 184 = .ok (.iload 5, 2) := by decide +kernel
theorem dX2_step_186 : decode cX2_step 186 = .ok (.invokevirtual 116, 3) := by decide +kernel
theorem dX2_step_189 : decode cX2_step 189 = .ok (.return_, 1) := by decide +kernel
theorem dX2_give_0 : decode cX2_give 0 = .ok (.aload_n 0, 1) := by decide +kernel
theorem dX2_give_1 : decode cX2_give 1 = .ok (.getfield 43, 3) := by decide +kernel
theorem dX2_give_4 : decode cX2_give 4 = .ok (.ifCond .eq 11, 3) := by decide +kernel
theorem dX2_give_7 : decode cX2_give 7 = .ok (.aload_n 0, 1) := by decide +kernel
theorem dX2_give_8 : decode cX2_give 8 = .ok (.iconst 1, 1) := by decide +kernel
theorem dX2_give_9 : decode cX2_give 9 = .ok (.putfield 34, 3) := by decide +kernel
theorem dX2_give_12 : decode cX2_give 12 = .ok (.goto 70, 3) := by decide +kernel
theorem dX2_give_15 : decode cX2_give 15 = .ok (.aload_n 0, 1) := by decide +kernel
theorem dX2_give_16 : decode cX2_give 16 = .ok (.aload_n 0, 1) := by decide +kernel
theorem dX2_give_17 : decode cX2_give 17 = .ok (.getfield 47, 3) := by decide +kernel
theorem dX2_give_20 : decode cX2_give 20 = .ok (.iload_n 3, 1) := by decide +kernel
theorem dX2_give_21 : decode cX2_give 21 = .ok (.invokestatic 97, 3) := by decide +kernel
theorem dX2_give_24 : decode cX2_give 24 = .ok (.invokevirtual 119, 3) := by decide +kernel
theorem dX2_give_27 : decode cX2_give 27 = .ok (.invokevirtual 84, 3) := by decide +kernel
theorem dX2_give_30 : decode cX2_give 30 = .ok (.iload_n 1, 1) := by decide +kernel
theorem dX2_give_31 : decode cX2_give 31 = .ok (.ishr, 1) := by decide +kernel
theorem dX2_give_32 : decode cX2_give 32 = .ok (.iconst 1, 1) := by decide +kernel
theorem dX2_give_33 : decode cX2_give 33 = .ok (.iand, 1) := by decide +kernel
theorem dX2_give_34 : decode cX2_give 34 = .ok (.ifCond .eq 11, 3) := by decide +kernel
theorem dX2_give_37 : decode cX2_give 37 = .ok (.aload_n 0, 1) := by decide +kernel
theorem dX2_give_38 : decode cX2_give 38 = .ok (.iconst 2, 1) := by decide +kernel
theorem dX2_give_39 : decode cX2_give 39 = .ok (.putfield 34, 3) := by decide +kernel
theorem dX2_give_42 : decode cX2_give 42 = .ok (.goto 40, 3) := by decide +kernel
theorem dX2_give_45 : decode cX2_give 45 = .ok (.aload_n 0, 1) := by decide +kernel
theorem dX2_give_46 : decode cX2_give 46 = .ok (.getfield 9, 3) := by decide +kernel
theorem dX2_give_49 : decode cX2_give 49 = .ok (.iload_n 1, 1) := by decide +kernel
theorem dX2_give_50 : decode cX2_give 50 = .ok (.iload_n 3, 1) := by decide +kernel
theorem dX2_give_51 : decode cX2_give 51 = .ok (.invokestatic 97, 3) := by decide +kernel
theorem dX2_give_54 : decode cX2_give 54 = .ok (.iload_n 2, 1) := by decide +kernel
theorem dX2_give_55 : decode cX2_give 55 = .ok (.invokestatic 106, 3) := by decide +kernel
theorem dX2_give_58 : decode cX2_give 58 = .ok (.invokestatic 122, 3) := by decide +kernel
theorem dX2_give_61 : decode cX2_give 61 = .ok (.iload_n 3, 1) := by decide +kernel
theorem dX2_give_62 : decode cX2_give 62 = .ok (.invokestatic 106, 3) := by decide +kernel
theorem dX2_give_65 : decode cX2_give 65 = .ok (.invokestatic 125, 3) := by decide +kernel
theorem dX2_give_68 : decode cX2_give 68 = .ok (.invokestatic 64, 3) := by decide +kernel
theorem dX2_give_71 : decode cX2_give 71 = .ok (.iastore, 1) := by decide +kernel
theorem dX2_give_72 : decode cX2_give 72 = .ok (.aload_n 0, 1) := by decide +kernel
theorem dX2_give_73 : decode cX2_give 73 = .ok (.dup, 1) := by decide +kernel
theorem dX2_give_74 : decode cX2_give 74 = .ok (.getfield 15, 3) := by decide +kernel
theorem dX2_give_77 : decode cX2_give 77 = .ok (.iconst 1, 1) := by decide +kernel
theorem dX2_give_78 : decode cX2_give 78 = .ok (.iadd, 1) := by decide +kernel
theorem dX2_give_79 : decode cX2_give 79 = .ok (.putfield 15, 3) := by decide +kernel
theorem dX2_give_82 : decode cX2_give 82 = .ok (.return_, 1) := by decide +kernel
theorem dX2_split_0 : decode cX2_split 0 = .ok (.iload_n 1, 1) := by decide +kernel
theorem dX2_split_1 : decode cX2_split 1 = .ok (.invokestatic 97, 3) := by decide +kernel
theorem dX2_split_4 : decode cX2_split 4 = .ok (.istore 4, 2) := by decide +kernel
theorem dX2_split_6 : decode cX2_split 6 = .ok (.iload_n 2, 1) := by decide +kernel
theorem dX2_split_7 : decode cX2_split 7 = .ok (.invokestatic 97, 3) := by decide +kernel
theorem dX2_split_10 : decode cX2_split 10 = .ok (.istore 5, 2) := by decide +kernel
theorem dX2_split_12 : decode cX2_split 12 = .ok (.iload_n 3, 1) := by decide +kernel
theorem dX2_split_13 : decode cX2_split 13 = .ok (.tableswitch 265 1 6 #[39, 265, 265, 86, 132, 169], 39) := by decide +kernel
theorem dX2_split_52 : decode cX2_split 52 = .ok (.iload_n 1, 1) := by decide +kernel
theorem dX2_split_53 : decode cX2_split 53 = .ok (.invokestatic 106, 3) := by decide +kernel
theorem dX2_split_56 : decode cX2_split 56 = .ok (.aload_n 0, 1) := by decide +kernel
theorem dX2_split_57 : decode cX2_split 57 = .ok (.getfield 47, 3) := by decide +kernel
theorem dX2_split_60 : decode cX2_split 60 = .ok (.iload 4, 2) := by decide +kernel
theorem dX2_split_62 : decode cX2_split 62 = .ok (.invokevirtual 128, 3) := by decide +kernel
theorem dX2_split_65 : decode cX2_split 65 = .ok (.invokestatic 131, 3) := by decide +kernel
theorem dX2_split_68 : decode cX2_split 68 = .ok (.istore 6, 2) := by decide +kernel
theorem dX2_split_70 : decode cX2_split 70 = .ok (.iload 6, 2) := by decide +kernel
theorem dX2_split_72 : decode cX2_split 72 = .ok (.iload_n 2, 1) := by decide +kernel
theorem dX2_split_73 : decode cX2_split 73 = .ok (.invokestatic 106, 3) := by decide +kernel
theorem dX2_split_76 : decode cX2_split 76 = .ok (.aload_n 0, 1) := by decide +kernel
theorem dX2_split_77 : decode cX2_split 77 = .ok (.getfield 47, 3) := by decide +kernel
theorem dX2_split_80 : decode cX2_split 80 = .ok (.iload 5, 2) := by decide +kernel
theorem dX2_split_82 : decode cX2_split 82 = .ok (.invokevirtual 128, 3) := by decide +kernel
theorem dX2_split_85 : decode cX2_split 85 = .ok (.invokestatic 131, 3) := by decide +kernel
theorem dX2_split_88 : decode cX2_split 88 = .ok (.if_icmp .eq 190, 3) := by decide +kernel
theorem dX2_split_91 : decode cX2_split 91 = .ok (.aload_n 0, 1) := by decide +kernel
theorem dX2_split_92 : decode cX2_split 92 = .ok (.iconst 1, 1) := by decide +kernel
theorem dX2_split_93 : decode cX2_split 93 = .ok (.putfield 34, 3) := by decide +kernel
theorem dX2_split_96 : decode cX2_split 96 = .ok (.goto 182, 3) := by decide +kernel
theorem dX2_split_99 : decode cX2_split 99 = .ok (.aload_n 0, 1) := by decide +kernel
theorem dX2_split_100 : decode cX2_split 100 = .ok (.getfield 47, 3) := by decide +kernel
theorem dX2_split_103 : decode cX2_split 103 = .ok (.iload 4, 2) := by decide +kernel
theorem dX2_split_105 : decode cX2_split 105 = .ok (.invokevirtual 134, 3) := by decide +kernel
theorem dX2_split_108 : decode cX2_split 108 = .ok (.aload_n 0, 1) := by decide +kernel
theorem dX2_split_109 : decode cX2_split 109 = .ok (.getfield 47, 3) := by decide +kernel
theorem dX2_split_112 : decode cX2_split 112 = .ok (.iload 5, 2) := by decide +kernel
theorem dX2_split_114 : decode cX2_split 114 = .ok (.invokevirtual 134, 3) := by decide +kernel
theorem dX2_split_117 : decode cX2_split 117 = .ok (.if_icmp .ne 20, 3) := by decide +kernel
theorem dX2_split_120 : decode cX2_split 120 = .ok (.aload_n 0, 1) := by decide +kernel
theorem dX2_split_121 : decode cX2_split 121 = .ok (.iload_n 1, 1) := by decide +kernel
theorem dX2_split_122 : decode cX2_split 122 = .ok (.iconst 1, 1) := by decide +kernel
theorem dX2_split_123 : decode cX2_split 123 = .ok (.invokestatic 137, 3) := by decide +kernel
theorem dX2_split_126 : decode cX2_split 126 = .ok (.iload_n 2, 1) := by decide +kernel
theorem dX2_split_127 : decode cX2_split 127 = .ok (.iconst 1, 1) := by decide +kernel
theorem dX2_split_128 : decode cX2_split 128 = .ok (.invokestatic 137, 3) := by decide +kernel
theorem dX2_split_131 : decode cX2_split 131 = .ok (.invokevirtual 70, 3) := by decide +kernel
theorem dX2_split_134 : decode cX2_split 134 = .ok (.goto 144, 3) := by decide +kernel
theorem dX2_split_137 : decode cX2_split 137 = .ok (.aload_n 0, 1) := by decide +kernel
theorem dX2_split_138 : decode cX2_split 138 = .ok (.iconst 1, 1) := by decide +kernel
theorem dX2_split_139 : decode cX2_split 139 = .ok (.putfield 34, 3) := by decide +kernel
theorem dX2_split_142 : decode cX2_split 142 = .ok (.goto 136, 3) := by decide +kernel
theorem dX2_split_145 : decode cX2_split 145 = .ok (.aload_n 0, 1) := by decide +kernel
theorem dX2_split_146 : decode cX2_split 146 = .ok (.aload_n 0, 1) := by decide +kernel
theorem dX2_split_147 : decode cX2_split 147 = .ok (.getfield 47, 3) := by decide +kernel
theorem dX2_split_150 : decode cX2_split 150 = .ok (.iload_n 1, 1) := by decide +kernel
theorem dX2_split_151 : decode cX2_split 151 = .ok (.invokevirtual 140, 3) := by decide +kernel
theorem dX2_split_154 : decode cX2_split 154 = .ok (.aload_n 0, 1) := by decide +kernel
theorem dX2_split_155 : decode cX2_split 155 = .ok (.getfield 47, 3) := by decide +kernel
theorem dX2_split_158 : decode cX2_split 158 = .ok (.iload_n 2, 1) := by decide +kernel
theorem dX2_split_159 : decode cX2_split 159 = .ok (.invokevirtual 140, 3) := by decide +kernel
theorem dX2_split_162 : decode cX2_split 162 = .ok (.invokevirtual 70, 3) := by decide +kernel
theorem dX2_split_165 : decode cX2_split 165 = .ok (.aload_n 0, 1) := by decide +kernel
theorem dX2_split_166 : decode cX2_split 166 = .ok (.iload_n 1, 1) := by decide +kernel
theorem dX2_split_167 : decode cX2_split 167 = .ok (.iconst 1, 1) := by decide +kernel
theorem dX2_split_168 : decode cX2_split 168 = .ok (.invokestatic 137, 3) := by decide +kernel
theorem dX2_split_171 : decode cX2_split 171 = .ok (.iload_n 2, 1) := by decide +kernel
theorem dX2_split_172 : decode cX2_split 172 = .ok (.iconst 1, 1) := by decide +kernel
theorem dX2_split_173 : decode cX2_split 173 = .ok (.invokestatic 137, 3) := by decide +kernel
theorem dX2_split_176 : decode cX2_split 176 = .ok (.invokevirtual 70, 3) := by decide +kernel
theorem dX2_split_179 : decode cX2_split 179 = .ok (.goto 99, 3) := by decide +kernel
theorem dX2_split_182 : decode cX2_split 182 = .ok (.iload_n 1, 1) := by decide +kernel
theorem dX2_split_183 : decode cX2_split 183 = .ok (.invokestatic 106, 3) := by decide +kernel
theorem dX2_split_186 : decode cX2_split 186 = .ok (.aload_n 0, 1) := by decide +kernel
theorem dX2_split_187 : decode cX2_split 187 = .ok (.getfield 47, 3) := by decide +kernel
theorem dX2_split_190 : decode cX2_split 190 = .ok (.iload 4, 2) := by decide +kernel
theorem dX2_split_192 : decode cX2_split 192 = .ok (.iconst 1, 1) := by decide +kernel
theorem dX2_split_193 : decode cX2_split 193 = .ok (.iadd, 1) := by decide +kernel
theorem dX2_split_194 : decode cX2_split 194 = .ok (.invokevirtual 128, 3) := by decide +kernel
theorem dX2_split_197 : decode cX2_split 197 = .ok (.invokestatic 131, 3) := by decide +kernel
theorem dX2_split_200 : decode cX2_split 200 = .ok (.istore 7, 2) := by decide +kernel
theorem dX2_split_202 : decode cX2_split 202 = .ok (.iload_n 2, 1) := by decide +kernel
theorem dX2_split_203 : decode cX2_split 203 = .ok (.invokestatic 106, 3) := by decide +kernel
theorem dX2_split_206 : decode cX2_split 206 = .ok (.aload_n 0, 1) := by decide +kernel
theorem dX2_split_207 : decode cX2_split 207 = .ok (.getfield 47, 3) := by decide +kernel
theorem dX2_split_210 : decode cX2_split 210 = .ok (.iload 5, 2) := by decide +kernel
theorem dX2_split_212 : decode cX2_split 212 = .ok (.iconst 1, 1) := by decide +kernel
theorem dX2_split_213 : decode cX2_split 213 = .ok (.iadd, 1) := by decide +kernel
theorem dX2_split_214 : decode cX2_split 214 = .ok (.invokevirtual 128, 3) := by decide +kernel
theorem dX2_split_217 : decode cX2_split 217 = .ok (.invokestatic 131, 3) := by decide +kernel
theorem dX2_split_220 : decode cX2_split 220 = .ok (.istore 8, 2) := by decide +kernel
theorem dX2_split_222 : decode cX2_split 222 = .ok (.iload 7, 2) := by decide +kernel
theorem dX2_split_224 : decode cX2_split 224 = .ok (.iload 8, 2) := by decide +kernel
theorem dX2_split_226 : decode cX2_split 226 = .ok (.if_icmp .eq 22, 3) := by decide +kernel
theorem dX2_split_229 : decode cX2_split 229 = .ok (.aload_n 0, 1) := by decide +kernel
theorem dX2_split_230 : decode cX2_split 230 = .ok (.iload 5, 2) := by decide +kernel
theorem dX2_split_232 : decode cX2_split 232 = .ok (.iconst 2, 1) := by decide +kernel
theorem dX2_split_233 : decode cX2_split 233 = .ok (.iadd, 1) := by decide +kernel
theorem dX2_split_234 : decode cX2_split 234 = .ok (.iconst 1, 1) := by decide +kernel
theorem dX2_split_235 : decode cX2_split 235 = .ok (.iload_n 2, 1) := by decide +kernel
theorem dX2_split_236 : decode cX2_split 236 = .ok (.invokestatic 106, 3) := by decide +kernel
theorem dX2_split_239 : decode cX2_split 239 = .ok (.iload 7, 2) := by decide +kernel
theorem dX2_split_241 : decode cX2_split 241 = .ok (.invokestatic 143, 3) := by decide +kernel
theorem dX2_split_244 : decode cX2_split 244 = .ok (.ishl, 1) := by decide +kernel
theorem dX2_split_245 : decode cX2_split 245 = .ok (.invokevirtual 146, 3) := by decide +kernel
theorem dX2_split_248 : decode cX2_split 248 = .ok (.aload_n 0, 1) := by decide +kernel
theorem dX2_split_249 : decode cX2_split 249 = .ok (.iload_n 1, 1) := by decide +kernel
theorem dX2_split_250 : decode cX2_split 250 = .ok (.iconst 2, 1) := by decide +kernel
theorem dX2_split_251 : decode cX2_split 251 = .ok (.invokestatic 137, 3) := by decide +kernel
theorem dX2_split_254 : decode cX2_split 254 = .ok (.iload 5, 2) := by decide +kernel
theorem dX2_split_256 : decode cX2_split 256 = .ok (.iconst 2, 1) := by decide +kernel
theorem dX2_split_257 : decode cX2_split 257 = .ok (.iadd, 1) := by decide +kernel
theorem dX2_split_258 : decode cX2_split 258 = .ok (.iload_n 2, 1) := by decide +kernel
theorem dX2_split_259 : decode cX2_split 259 = .ok (.invokestatic 106, 3) := by decide +kernel
theorem dX2_split_262 : decode cX2_split 262 = .ok (.iload 7, 2) := by decide +kernel
theorem dX2_split_264 : decode cX2_split 264 = .ok (.iload 8, 2) := by decide +kernel
theorem dX2_split_266 : decode cX2_split 266 = .ok (.invokestatic 149, 3) := by decide +kernel
theorem dX2_split_269 : decode cX2_split 269 = .ok (.invokestatic 64, 3) := by decide +kernel
theorem dX2_split_272 : decode cX2_split 272 = .ok (.invokevirtual 70, 3) := by decide +kernel
theorem dX2_split_275 : decode cX2_split 275 = .ok (.goto 3, 3) := by decide +kernel
theorem dX2_split_278 : decode cX2_split 278 = .ok (.return_, 1) := by decide +kernel
theorem dX2_withValuesIn_0 : decode cX2_withValuesIn 0 = .ok (.iload_n 1, 1) := by decide +kernel
theorem dX2_withValuesIn_1 : decode cX2_withValuesIn 1 = .ok (.istore_n 2, 1) := by decide +kernel
theorem dX2_withValuesIn_2 : decode cX2_withValuesIn 2 = .ok (.iconst 0, 1) := by decide +kernel
theorem dX2_withValuesIn_3 : decode cX2_withValuesIn 3 = .ok (.istore_n 3, 1) := by decide +kernel
theorem dX2_withValuesIn_4 : decode cX2_withValuesIn 4 = .ok (.iconst 0, 1) := by decide +kernel
theorem dX2_withValuesIn_5 : decode cX2_withValuesIn 5 = .ok (.istore 4, 2) := by decide +kernel
theorem dX2_withValuesIn_7 : decode cX2_withValuesIn 7 = .ok (.iload 4, 2) := by decide +kernel
theorem dX2_withValuesIn_9 : decode cX2_withValuesIn 9 = .ok (.bipush 6, 2) := by decide +kernel
theorem dX2_withValuesIn_11 : decode cX2_withValuesIn 11 = .ok (.if_icmp .ge 80, 3) := by decide +kernel
theorem dX2_withValuesIn_14 : decode cX2_withValuesIn 14 = .ok (.iload_n 3, 1) := by decide +kernel
theorem dX2_withValuesIn_15 : decode cX2_withValuesIn 15 = .ok (.iload_n 2, 1) := by decide +kernel
theorem dX2_withValuesIn_16 : decode cX2_withValuesIn 16 = .ok (.if_icmp .eq 75, 3) := by decide +kernel
theorem dX2_withValuesIn_19 : decode cX2_withValuesIn 19 = .ok (.iload_n 2, 1) := by decide +kernel
theorem dX2_withValuesIn_20 : decode cX2_withValuesIn 20 = .ok (.iload_n 3, 1) := by decide +kernel
theorem dX2_withValuesIn_21 : decode cX2_withValuesIn 21 = .ok (.iconst (-1), 1) := by decide +kernel
theorem dX2_withValuesIn_22 : decode cX2_withValuesIn 22 = .ok (.ixor, 1) := by decide +kernel
theorem dX2_withValuesIn_23 : decode cX2_withValuesIn 23 = .ok (.iand, 1) := by decide +kernel
theorem dX2_withValuesIn_24 : decode cX2_withValuesIn 24 = .ok (.istore 5, 2) := by decide +kernel
theorem dX2_withValuesIn_26 : decode cX2_withValuesIn 26 = .ok (.iload_n 2, 1) := by decide +kernel
theorem dX2_withValuesIn_27 : decode cX2_withValuesIn 27 = .ok (.istore_n 3, 1) := by decide +kernel
theorem dX2_withValuesIn_28 : decode cX2_withValuesIn 28 = .ok (.iconst 0, 1) := by decide +kernel
theorem dX2_withValuesIn_29 : decode cX2_withValuesIn 29 = .ok (.istore 6, 2) := by decide +kernel
theorem dX2_withValuesIn_31 : decode cX2_withValuesIn 31 = .ok (.iload 6, 2) := by decide +kernel
theorem dX2_withValuesIn_33 : decode cX2_withValuesIn 33 = .ok (.bipush 6, 2) := by decide +kernel
theorem dX2_withValuesIn_35 : decode cX2_withValuesIn 35 = .ok (.if_icmp .ge 50, 3) := by decide +kernel
theorem dX2_withValuesIn_38 : decode cX2_withValuesIn 38 = .ok (.iload 5, 2) := by decide +kernel
theorem dX2_withValuesIn_40 : decode cX2_withValuesIn 40 = .ok (.iload 6, 2) := by decide +kernel
theorem dX2_withValuesIn_42 : decode cX2_withValuesIn 42 = .ok (.ishr, 1) := by decide +kernel
theorem dX2_withValuesIn_43 : decode cX2_withValuesIn 43 = .ok (.iconst 1, 1) := by decide +kernel
theorem dX2_withValuesIn_44 : decode cX2_withValuesIn 44 = .ok (.iand, 1) := by decide +kernel
theorem dX2_withValuesIn_45 : decode cX2_withValuesIn 45 = .ok (.ifCond .eq 34, 3) := by decide +kernel
theorem dX2_withValuesIn_48 : decode cX2_withValuesIn 48 = .ok (.aload_n 0, 1) := by decide +kernel
theorem dX2_withValuesIn_49 : decode cX2_withValuesIn 49 = .ok (.getfield 9, 3) := by decide +kernel
theorem dX2_withValuesIn_52 : decode cX2_withValuesIn 52 = .ok (.iload 6, 2) := by decide +kernel
theorem dX2_withValuesIn_54 : decode cX2_withValuesIn 54 = .ok (.iaload, 1) := by decide +kernel
theorem dX2_withValuesIn_55 : decode cX2_withValuesIn 55 = .ok (.iconst (-1), 1) := by decide +kernel
theorem dX2_withValuesIn_56 : decode cX2_withValuesIn 56 = .ok (.if_icmp .eq 23, 3) := by decide +kernel
theorem dX2_withValuesIn_59 : decode cX2_withValuesIn 59 = .ok (.iload_n 2, 1) := by decide +kernel
theorem dX2_withValuesIn_60 : decode cX2_withValuesIn 60 = .ok (.aload_n 0, 1) := by decide +kernel
theorem dX2_withValuesIn_61 : decode cX2_withValuesIn 61 = .ok (.getfield 47, 3) := by decide +kernel
theorem dX2_withValuesIn_64 : decode cX2_withValuesIn 64 = .ok (.aload_n 0, 1) := by decide +kernel
theorem dX2_withValuesIn_65 : decode cX2_withValuesIn 65 = .ok (.getfield 9, 3) := by decide +kernel
theorem dX2_withValuesIn_68 : decode cX2_withValuesIn 68 = .ok (.iload 6, 2) := by decide +kernel
theorem dX2_withValuesIn_70 : decode cX2_withValuesIn 70 = .ok (.iaload, 1) := by decide +kernel
theorem dX2_withValuesIn_71 : decode cX2_withValuesIn 71 = .ok (.invokestatic 97, 3) := by decide +kernel
theorem dX2_withValuesIn_74 : decode cX2_withValuesIn 74 = .ok (.invokevirtual 119, 3) := by decide +kernel
theorem dX2_withValuesIn_77 : decode cX2_withValuesIn 77 = .ok (.ior, 1) := by decide +kernel
theorem dX2_withValuesIn_78 : decode cX2_withValuesIn 78 = .ok (.istore_n 2, 1) := by decide +kernel
theorem dX2_withValuesIn_79 : decode cX2_withValuesIn 79 = .ok (.iinc 6 1, 3) := by decide +kernel
theorem dX2_withValuesIn_82 : decode cX2_withValuesIn 82 = .ok (.goto (-51), 3) := by decide +kernel
theorem dX2_withValuesIn_85 : decode cX2_withValuesIn 85 = .ok (.iinc 4 1, 3) := by decide +kernel
theorem dX2_withValuesIn_88 : decode cX2_withValuesIn 88 = .ok (.goto (-81), 3) := by decide +kernel
theorem dX2_withValuesIn_91 : decode cX2_withValuesIn 91 = .ok (.iload_n 2, 1) := by decide +kernel
theorem dX2_withValuesIn_92 : decode cX2_withValuesIn 92 = .ok (.ireturn, 1) := by decide +kernel
theorem dX2_must_0 : decode cX2_must 0 = .ok (.iload_n 1, 1) := by decide +kernel
theorem dX2_must_1 : decode cX2_must 1 = .ok (.sipush 240, 3) := by decide +kernel
theorem dX2_must_4 : decode cX2_must 4 = .ok (.invokestatic 153, 3) := by decide +kernel
theorem dX2_must_7 : decode cX2_must 7 = .ok (.ifCond .ne 13, 3) := by decide +kernel
theorem dX2_must_10 : decode cX2_must 10 = .ok (.aload_n 0, 1) := by decide +kernel
theorem dX2_must_11 : decode cX2_must 11 = .ok (.getfield 28, 3) := by decide +kernel
theorem dX2_must_14 : decode cX2_must 14 = .ok (.iload_n 1, 1) := by decide +kernel
theorem dX2_must_15 : decode cX2_must 15 = .ok (.dup2, 1) := by decide +kernel
theorem dX2_must_16 : decode cX2_must 16 = .ok (.iaload, 1) := by decide +kernel
theorem dX2_must_17 : decode cX2_must 17 = .ok (.iload_n 2, 1) := by decide +kernel
theorem dX2_must_18 : decode cX2_must 18 = .ok (.ior, 1) := by decide +kernel
theorem dX2_must_19 : decode cX2_must 19 = .ok (.iastore, 1) := by decide +kernel
theorem dX2_must_20 : decode cX2_must 20 = .ok (.return_, 1) := by decide +kernel
theorem dX2_mustIn_0 : decode cX2_mustIn 0 = .ok (.iload_n 1, 1) := by decide +kernel
theorem dX2_mustIn_1 : decode cX2_mustIn 1 = .ok (.iconst (-1), 1) := by decide +kernel
theorem dX2_mustIn_2 : decode cX2_mustIn 2 = .ok (.if_icmp .eq 16, 3) := by decide +kernel
theorem dX2_mustIn_5 : decode cX2_mustIn 5 = .ok (.iload_n 2, 1) := by decide +kernel
theorem dX2_mustIn_6 : decode cX2_mustIn 6 = .ok (.aload_n 0, 1) := by decide +kernel
theorem dX2_mustIn_7 : decode cX2_mustIn 7 = .ok (.getfield 31, 3) := by decide +kernel
theorem dX2_mustIn_10 : decode cX2_mustIn 10 = .ok (.iload_n 1, 1) := by decide +kernel
theorem dX2_mustIn_11 : decode cX2_mustIn 11 = .ok (.iaload, 1) := by decide +kernel
theorem dX2_mustIn_12 : decode cX2_mustIn 12 = .ok (.iconst (-1), 1) := by decide +kernel
theorem dX2_mustIn_13 : decode cX2_mustIn 13 = .ok (.ixor, 1) := by decide +kernel
theorem dX2_mustIn_14 : decode cX2_mustIn 14 = .ok (.iand, 1) := by decide +kernel
theorem dX2_mustIn_15 : decode cX2_mustIn 15 = .ok (.ifCond .ne 5, 3) := by decide +kernel
theorem dX2_mustIn_18 : decode cX2_mustIn 18 = .ok (.iconst 0, 1) := by decide +kernel
theorem dX2_mustIn_19 : decode cX2_mustIn 19 = .ok (.ireturn, 1) := by decide +kernel
theorem dX2_mustIn_20 : decode cX2_mustIn 20 = .ok (.aload_n 0, 1) := by decide +kernel
theorem dX2_mustIn_21 : decode cX2_mustIn 21 = .ok (.getfield 31, 3) := by decide +kernel
theorem dX2_mustIn_24 : decode cX2_mustIn 24 = .ok (.iload_n 1, 1) := by decide +kernel
theorem dX2_mustIn_25 : decode cX2_mustIn 25 = .ok (.dup2, 1) := by decide +kernel
theorem dX2_mustIn_26 : decode cX2_mustIn 26 = .ok (.iaload, 1) := by decide +kernel
theorem dX2_mustIn_27 : decode cX2_mustIn 27 = .ok (.iload_n 2, 1) := by decide +kernel
theorem dX2_mustIn_28 : decode cX2_mustIn 28 = .ok (.ior, 1) := by decide +kernel
theorem dX2_mustIn_29 : decode cX2_mustIn 29 = .ok (.iastore, 1) := by decide +kernel
theorem dX2_mustIn_30 : decode cX2_mustIn 30 = .ok (.iconst 1, 1) := by decide +kernel
theorem dX2_mustIn_31 : decode cX2_mustIn 31 = .ok (.ireturn, 1) := by decide +kernel
theorem dX2_spreadFresh_0 : decode cX2_spreadFresh 0 = .ok (.iconst 1, 1) := by decide +kernel
theorem dX2_spreadFresh_1 : decode cX2_spreadFresh 1 = .ok (.istore_n 1, 1) := by decide +kernel
theorem dX2_spreadFresh_2 : decode cX2_spreadFresh 2 = .ok (.iconst 0, 1) := by decide +kernel
theorem dX2_spreadFresh_3 : decode cX2_spreadFresh 3 = .ok (.istore_n 2, 1) := by decide +kernel
theorem dX2_spreadFresh_4 : decode cX2_spreadFresh 4 = .ok (.iload_n 2, 1) := by decide +kernel
theorem dX2_spreadFresh_5 : decode cX2_spreadFresh 5 = .ok (.bipush 36, 2) := by decide +kernel
theorem dX2_spreadFresh_7 : decode cX2_spreadFresh 7 = .ok (.if_icmp .gt 110, 3) := by decide +kernel
theorem dX2_spreadFresh_10 : decode cX2_spreadFresh 10 = .ok (.iload_n 1, 1) := by decide +kernel
theorem dX2_spreadFresh_11 : decode cX2_spreadFresh 11 = .ok (.ifCond .eq 106, 3) := by decide +kernel
theorem dX2_spreadFresh_14 : decode cX2_spreadFresh 14 = .ok (.iconst 0, 1) := by decide +kernel
theorem dX2_spreadFresh_15 : decode cX2_spreadFresh 15 = .ok (.istore_n 3, 1) := by decide +kernel
theorem dX2_spreadFresh_16 : decode cX2_spreadFresh 16 = .ok (.iload_n 3, 1) := by decide +kernel
theorem dX2_spreadFresh_17 : decode cX2_spreadFresh 17 = .ok (.bipush 6, 2) := by decide +kernel
theorem dX2_spreadFresh_19 : decode cX2_spreadFresh 19 = .ok (.if_icmp .ge 50, 3) := by decide +kernel
theorem dX2_spreadFresh_22 : decode cX2_spreadFresh 22 = .ok (.aload_n 0, 1) := by decide +kernel
theorem dX2_spreadFresh_23 : decode cX2_spreadFresh 23 = .ok (.getfield 9, 3) := by decide +kernel
theorem dX2_spreadFresh_26 : decode cX2_spreadFresh 26 = .ok (.iload_n 3, 1) := by decide +kernel
theorem dX2_spreadFresh_27 : decode cX2_spreadFresh 27 = .ok (.iaload, 1) := by decide +kernel
theorem dX2_spreadFresh_28 : decode cX2_spreadFresh 28 = .ok (.iconst (-1), 1) := by decide +kernel
theorem dX2_spreadFresh_29 : decode cX2_spreadFresh 29 = .ok (.if_icmp .eq 34, 3) := by decide +kernel
theorem dX2_spreadFresh_32 : decode cX2_spreadFresh 32 = .ok (.aload_n 0, 1) := by decide +kernel
theorem dX2_spreadFresh_33 : decode cX2_spreadFresh 33 = .ok (.aload_n 0, 1) := by decide +kernel
theorem dX2_spreadFresh_34 : decode cX2_spreadFresh 34 = .ok (.getfield 9, 3) := by decide +kernel
theorem dX2_spreadFresh_37 : decode cX2_spreadFresh 37 = .ok (.iload_n 3, 1) := by decide +kernel
theorem dX2_spreadFresh_38 : decode cX2_spreadFresh 38 = .ok (.iaload, 1) := by decide +kernel
theorem dX2_spreadFresh_39 : decode cX2_spreadFresh 39 = .ok (.invokestatic 97, 3) := by decide +kernel
theorem dX2_spreadFresh_42 : decode cX2_spreadFresh 42 = .ok (.aload_n 0, 1) := by decide +kernel
theorem dX2_spreadFresh_43 : decode cX2_spreadFresh 43 = .ok (.getfield 9, 3) := by decide +kernel
theorem dX2_spreadFresh_46 : decode cX2_spreadFresh 46 = .ok (.iload_n 3, 1) := by decide +kernel
theorem dX2_spreadFresh_47 : decode cX2_spreadFresh 47 = .ok (.iaload, 1) := by decide +kernel
theorem dX2_spreadFresh_48 : decode cX2_spreadFresh 48 = .ok (.invokestatic 106, 3) := by decide +kernel
theorem dX2_spreadFresh_51 : decode cX2_spreadFresh 51 = .ok (.aload_n 0, 1) := by decide +kernel
theorem dX2_spreadFresh_52 : decode cX2_spreadFresh 52 = .ok (.getfield 31, 3) := by decide +kernel
theorem dX2_spreadFresh_55 : decode cX2_spreadFresh 55 = .ok (.iload_n 3, 1) := by decide +kernel
theorem dX2_spreadFresh_56 : decode cX2_spreadFresh 56 = .ok (.iaload, 1) := by decide +kernel
theorem dX2_spreadFresh_57 : decode cX2_spreadFresh 57 = .ok (.invokestatic 157, 3) := by decide +kernel
theorem dX2_spreadFresh_60 : decode cX2_spreadFresh 60 = .ok (.invokevirtual 146, 3) := by decide +kernel
theorem dX2_spreadFresh_63 : decode cX2_spreadFresh 63 = .ok (.iinc 3 1, 3) := by decide +kernel
theorem dX2_spreadFresh_66 : decode cX2_spreadFresh 66 = .ok (.goto (-50), 3) := by decide +kernel
theorem dX2_spreadFresh_69 : decode cX2_spreadFresh 69 = .ok (.iconst 0, 1) := by decide +kernel
theorem dX2_spreadFresh_70 : decode cX2_spreadFresh 70 = .ok (.istore_n 1, 1) := by decide +kernel
theorem dX2_spreadFresh_71 : decode cX2_spreadFresh 71 = .ok (.iconst 0, 1) := by decide +kernel
theorem dX2_spreadFresh_72 : decode cX2_spreadFresh 72 = .ok (.istore_n 3, 1) := by decide +kernel
theorem dX2_spreadFresh_73 : decode cX2_spreadFresh 73 = .ok (.iload_n 3, 1) := by decide +kernel
theorem dX2_spreadFresh_74 : decode cX2_spreadFresh 74 = .ok (.sipush 240, 3) := by decide +kernel
theorem dX2_spreadFresh_77 : decode cX2_spreadFresh 77 = .ok (.if_icmp .ge 34, 3) := by decide +kernel
theorem dX2_spreadFresh_80 : decode cX2_spreadFresh 80 = .ok (.aload_n 0, 1) := by decide +kernel
theorem dX2_spreadFresh_81 : decode cX2_spreadFresh 81 = .ok (.getfield 28, 3) := by decide +kernel
theorem dX2_spreadFresh_84 : decode cX2_spreadFresh 84 = .ok (.iload_n 3, 1) := by decide +kernel
theorem dX2_spreadFresh_85 : decode cX2_spreadFresh 85 = .ok (.iaload, 1) := by decide +kernel
theorem dX2_spreadFresh_86 : decode cX2_spreadFresh 86 = .ok (.ifCond .eq 19, 3) := by decide +kernel
theorem dX2_spreadFresh_89 : decode cX2_spreadFresh 89 = .ok (.aload_n 0, 1) := by decide +kernel
theorem dX2_spreadFresh_90 : decode cX2_spreadFresh 90 = .ok (.iload_n 3, 1) := by decide +kernel
theorem dX2_spreadFresh_91 : decode cX2_spreadFresh 91 = .ok (.aload_n 0, 1) := by decide +kernel
theorem dX2_spreadFresh_92 : decode cX2_spreadFresh 92 = .ok (.getfield 28, 3) := by decide +kernel
theorem dX2_spreadFresh_95 : decode cX2_spreadFresh 95 = .ok (.iload_n 3, 1) := by decide +kernel
theorem dX2_spreadFresh_96 : decode cX2_spreadFresh 96 = .ok (.iaload, 1) := by decide +kernel
theorem dX2_spreadFresh_97 : decode cX2_spreadFresh 97 = .ok (.invokevirtual 160, 3) := by decide +kernel
theorem dX2_spreadFresh_100 : decode cX2_spreadFresh 100 = .ok (.ifCond .eq 5, 3) := by decide +kernel
theorem dX2_spreadFresh_103 : decode cX2_spreadFresh 103 = .ok (.iconst 1, 1) := by decide +kernel
theorem dX2_spreadFresh_104 : decode cX2_spreadFresh 104 = .ok (.istore_n 1, 1) := by decide +kernel
theorem dX2_spreadFresh_105 : decode cX2_spreadFresh 105 = .ok (.iinc 3 1, 3) := by decide +kernel
theorem dX2_spreadFresh_108 : decode cX2_spreadFresh 108 = .ok (.goto (-35), 3) := by decide +kernel
theorem dX2_spreadFresh_111 : decode cX2_spreadFresh 111 = .ok (.iinc 2 1, 3) := by decide +kernel
theorem dX2_spreadFresh_114 : decode cX2_spreadFresh 114 = .ok (.goto (-110), 3) := by decide +kernel
theorem dX2_spreadFresh_117 : decode cX2_spreadFresh 117 = .ok (.return_, 1) := by decide +kernel
theorem dX2_passDown_0 : decode cX2_passDown 0 = .ok (.aload_n 0, 1) := by decide +kernel
theorem dX2_passDown_1 : decode cX2_passDown 1 = .ok (.getfield 47, 3) := by decide +kernel
theorem dX2_passDown_4 : decode cX2_passDown 4 = .ok (.iload_n 1, 1) := by decide +kernel
theorem dX2_passDown_5 : decode cX2_passDown 5 = .ok (.invokevirtual 103, 3) := by decide +kernel
theorem dX2_passDown_8 : decode cX2_passDown 8 = .ok (.tableswitch 182 1 7 #[44, 66, 182, 107, 80, 117, 142], 44) := by decide +kernel
theorem dX2_passDown_52 : decode cX2_passDown 52 = .ok (.iload_n 2, 1) := by decide +kernel
theorem dX2_passDown_53 : decode cX2_passDown 53 = .ok (.aload_n 0, 1) := by decide +kernel
theorem dX2_passDown_54 : decode cX2_passDown 54 = .ok (.getfield 47, 3) := by decide +kernel
theorem dX2_passDown_57 : decode cX2_passDown 57 = .ok (.iload_n 1, 1) := by decide +kernel
theorem dX2_passDown_58 : decode cX2_passDown 58 = .ok (.invokevirtual 128, 3) := by decide +kernel
theorem dX2_passDown_61 : decode cX2_passDown 61 = .ok (.ishr, 1) := by decide +kernel
theorem dX2_passDown_62 : decode cX2_passDown 62 = .ok (.iconst 1, 1) := by decide +kernel
theorem dX2_passDown_63 : decode cX2_passDown 63 = .ok (.iand, 1) := by decide +kernel
theorem dX2_passDown_64 : decode cX2_passDown 64 = .ok (.ifCond .eq 8, 3) := by decide +kernel
theorem dX2_passDown_67 : decode cX2_passDown 67 = .ok (.aload_n 0, 1) := by decide +kernel
theorem dX2_passDown_68 : decode cX2_passDown 68 = .ok (.iconst 3, 1) := by decide +kernel
theorem dX2_passDown_69 : decode cX2_passDown 69 = .ok (.putfield 34, 3) := by decide +kernel
theorem dX2_passDown_72 : decode cX2_passDown 72 = .ok (.iconst 0, 1) := by decide +kernel
theorem dX2_passDown_73 : decode cX2_passDown 73 = .ok (.ireturn, 1) := by decide +kernel
theorem dX2_passDown_74 : decode cX2_passDown 74 = .ok (.aload_n 0, 1) := by decide +kernel
theorem dX2_passDown_75 : decode cX2_passDown 75 = .ok (.aload_n 0, 1) := by decide +kernel
theorem dX2_passDown_76 : decode cX2_passDown 76 = .ok (.getfield 47, 3) := by decide +kernel
theorem dX2_passDown_79 : decode cX2_passDown 79 = .ok (.iload_n 1, 1) := by decide +kernel
theorem dX2_passDown_80 : decode cX2_passDown 80 = .ok (.invokevirtual 100, 3) := by decide +kernel
theorem dX2_passDown_83 : decode cX2_passDown 83 = .ok (.iload_n 2, 1) := by decide +kernel
theorem dX2_passDown_84 : decode cX2_passDown 84 = .ok (.invokevirtual 163, 3) := by decide +kernel
theorem dX2_passDown_87 : decode cX2_passDown 87 = .ok (.ireturn, 1) := by decide +kernel
theorem dX2_passDown_88 : decode cX2_passDown 88 = .ok (.aload_n 0, 1) := by decide +kernel
theorem dX2_passDown_89 : decode cX2_passDown 89 = .ok (.iload_n 1, 1) := by decide +kernel
theorem dX2_passDown_90 : decode cX2_passDown 90 = .ok (.iconst 1, 1) := by decide +kernel
theorem dX2_passDown_91 : decode cX2_passDown 91 = .ok (.iadd, 1) := by decide +kernel
theorem dX2_passDown_92 : decode cX2_passDown 92 = .ok (.aload_n 0, 1) := by decide +kernel
theorem dX2_passDown_93 : decode cX2_passDown 93 = .ok (.getfield 47, 3) := by decide +kernel
theorem dX2_passDown_96 : decode cX2_passDown 96 = .ok (.iload_n 1, 1) := by decide +kernel
theorem dX2_passDown_97 : decode cX2_passDown 97 = .ok (.invokevirtual 166, 3) := by decide +kernel
theorem dX2_passDown_100 : decode cX2_passDown 100 = .ok (.iadd, 1) := by decide +kernel
theorem dX2_passDown_101 : decode cX2_passDown 101 = .ok (.iload_n 2, 1) := by decide +kernel
theorem dX2_passDown_102 : decode cX2_passDown 102 = .ok (.invokevirtual 146, 3) := by decide +kernel
theorem dX2_passDown_105 : decode cX2_passDown 105 = .ok (.aload_n 0, 1) := by decide +kernel
theorem dX2_passDown_106 : decode cX2_passDown 106 = .ok (.iload_n 1, 1) := by decide +kernel
theorem dX2_passDown_107 : decode cX2_passDown 107 = .ok (.iconst 1, 1) := by decide +kernel
theorem dX2_passDown_108 : decode cX2_passDown 108 = .ok (.iadd, 1) := by decide +kernel
theorem dX2_passDown_109 : decode cX2_passDown 109 = .ok (.iload_n 2, 1) := by decide +kernel
theorem dX2_passDown_110 : decode cX2_passDown 110 = .ok (.invokevirtual 146, 3) := by decide +kernel
theorem dX2_passDown_113 : decode cX2_passDown 113 = .ok (.iconst 0, 1) := by decide +kernel
theorem dX2_passDown_114 : decode cX2_passDown 114 = .ok (.ireturn, 1) := by decide +kernel
theorem dX2_passDown_115 : decode cX2_passDown 115 = .ok (.aload_n 0, 1) := by decide +kernel
theorem dX2_passDown_116 : decode cX2_passDown 116 = .ok (.iload_n 1, 1) := by decide +kernel
theorem dX2_passDown_117 : decode cX2_passDown 117 = .ok (.iconst 1, 1) := by decide +kernel
theorem dX2_passDown_118 : decode cX2_passDown 118 = .ok (.iadd, 1) := by decide +kernel
theorem dX2_passDown_119 : decode cX2_passDown 119 = .ok (.iload_n 2, 1) := by decide +kernel
theorem dX2_passDown_120 : decode cX2_passDown 120 = .ok (.invokevirtual 146, 3) := by decide +kernel
theorem dX2_passDown_123 : decode cX2_passDown 123 = .ok (.iconst 0, 1) := by decide +kernel
theorem dX2_passDown_124 : decode cX2_passDown 124 = .ok (.ireturn, 1) := by decide +kernel
theorem dX2_passDown_125 : decode cX2_passDown 125 = .ok (.aload_n 0, 1) := by decide +kernel
theorem dX2_passDown_126 : decode cX2_passDown 126 = .ok (.iload_n 1, 1) := by decide +kernel
theorem dX2_passDown_127 : decode cX2_passDown 127 = .ok (.iconst 2, 1) := by decide +kernel
theorem dX2_passDown_128 : decode cX2_passDown 128 = .ok (.iadd, 1) := by decide +kernel
theorem dX2_passDown_129 : decode cX2_passDown 129 = .ok (.iload_n 2, 1) := by decide +kernel
theorem dX2_passDown_130 : decode cX2_passDown 130 = .ok (.iconst 1, 1) := by decide +kernel
theorem dX2_passDown_131 : decode cX2_passDown 131 = .ok (.aload_n 0, 1) := by decide +kernel
theorem dX2_passDown_132 : decode cX2_passDown 132 = .ok (.getfield 47, 3) := by decide +kernel
theorem dX2_passDown_135 : decode cX2_passDown 135 = .ok (.iload_n 1, 1) := by decide +kernel
theorem dX2_passDown_136 : decode cX2_passDown 136 = .ok (.iconst 1, 1) := by decide +kernel
theorem dX2_passDown_137 : decode cX2_passDown 137 = .ok (.iadd, 1) := by decide +kernel
theorem dX2_passDown_138 : decode cX2_passDown 138 = .ok (.invokevirtual 128, 3) := by decide +kernel
theorem dX2_passDown_141 : decode cX2_passDown 141 = .ok (.ishl, 1) := by decide +kernel
theorem dX2_passDown_142 : decode cX2_passDown 142 = .ok (.iconst (-1), 1) := by decide +kernel
theorem dX2_passDown_143 : decode cX2_passDown 143 = .ok (.ixor, 1) := by decide +kernel
theorem dX2_passDown_144 : decode cX2_passDown 144 = .ok (.iand, 1) := by decide +kernel
theorem dX2_passDown_145 : decode cX2_passDown 145 = .ok (.invokevirtual 146, 3) := by decide +kernel
theorem dX2_passDown_148 : decode cX2_passDown 148 = .ok (.iconst 0, 1) := by decide +kernel
theorem dX2_passDown_149 : decode cX2_passDown 149 = .ok (.ireturn, 1) := by decide +kernel
theorem dX2_passDown_150 : decode cX2_passDown 150 = .ok (.ldc 63, 2) := by decide +kernel
theorem dX2_passDown_152 : decode cX2_passDown 152 = .ok (.aload_n 0, 1) := by decide +kernel
theorem dX2_passDown_153 : decode cX2_passDown 153 = .ok (.getfield 47, 3) := by decide +kernel
theorem dX2_passDown_156 : decode cX2_passDown 156 = .ok (.iload_n 1, 1) := by decide +kernel
theorem dX2_passDown_157 : decode cX2_passDown 157 = .ok (.iconst 1, 1) := by decide +kernel
theorem dX2_passDown_158 : decode cX2_passDown 158 = .ok (.iadd, 1) := by decide +kernel
theorem dX2_passDown_159 : decode cX2_passDown 159 = .ok (.invokevirtual 128, 3) := by decide +kernel
theorem dX2_passDown_162 : decode cX2_passDown 162 = .ok (.aload_n 0, 1) := by decide +kernel
theorem dX2_passDown_163 : decode cX2_passDown 163 = .ok (.getfield 47, 3) := by decide +kernel
theorem dX2_passDown_166 : decode cX2_passDown 166 = .ok (.iload_n 1, 1) := by decide +kernel
theorem dX2_passDown_167 : decode cX2_passDown 167 = .ok (.iconst 2, 1) := by decide +kernel
theorem dX2_passDown_168 : decode cX2_passDown 168 = .ok (.iadd, 1) := by decide +kernel
theorem dX2_passDown_169 : decode cX2_passDown 169 = .ok (.invokevirtual 128, 3) := by decide +kernel
theorem dX2_passDown_172 : decode cX2_passDown 172 = .ok (.invokestatic 169, 3) := by decide +kernel
theorem dX2_passDown_175 : decode cX2_passDown 175 = .ok (.istore_n 3, 1) := by decide +kernel
theorem dX2_passDown_176 : decode cX2_passDown 176 = .ok (.aload_n 0, 1) := by decide +kernel
theorem dX2_passDown_177 : decode cX2_passDown 177 = .ok (.iload_n 1, 1) := by decide +kernel
theorem dX2_passDown_178 : decode cX2_passDown 178 = .ok (.iconst 3, 1) := by decide +kernel
theorem dX2_passDown_179 : decode cX2_passDown 179 = .ok (.iadd, 1) := by decide +kernel
theorem dX2_passDown_180 : decode cX2_passDown 180 = .ok (.iload_n 3, 1) := by decide +kernel
theorem dX2_passDown_181 : decode cX2_passDown 181 = .ok (.iload_n 2, 1) := by decide +kernel
theorem dX2_passDown_182 : decode cX2_passDown 182 = .ok (.invokestatic 157, 3) := by decide +kernel
theorem dX2_passDown_185 : decode cX2_passDown 185 = .ok (.invokevirtual 146, 3) := by decide +kernel
theorem dX2_passDown_188 : decode cX2_passDown 188 = .ok (.iconst 0, 1) := by decide +kernel
theorem dX2_passDown_189 : decode cX2_passDown 189 = .ok (.ireturn, 1) := by decide +kernel
theorem dX2_passDown_190 : decode cX2_passDown 190 = .ok (.iconst 0, 1) := by decide +kernel
theorem dX2_passDown_191 : decode cX2_passDown 191 = .ok (.ireturn, 1) := by decide +kernel
theorem dX3_make_0 : decode cX3_make 0 = .ok (.iload_n 0, 1) := by decide +kernel
theorem dX3_make_1 : decode cX3_make 1 = .ok (.bipush 18, 2) := by decide +kernel
theorem dX3_make_3 : decode cX3_make 3 = .ok (.ishl, 1) := by decide +kernel
theorem dX3_make_4 : decode cX3_make 4 = .ok (.iload_n 1, 1) := by decide +kernel
theorem dX3_make_5 : decode cX3_make 5 = .ok (.ior, 1) := by decide +kernel
theorem dX3_make_6 : decode cX3_make 6 = .ok (.ireturn, 1) := by decide +kernel
theorem dX3_node_0 : decode cX3_node 0 = .ok (.iload_n 0, 1) := by decide +kernel
theorem dX3_node_1 : decode cX3_node 1 = .ok (.bipush 18, 2) := by decide +kernel
theorem dX3_node_3 : decode cX3_node 3 = .ok (.ishr, 1) := by decide +kernel
theorem dX3_node_4 : decode cX3_node 4 = .ok (.ireturn, 1) := by decide +kernel
theorem dX3_by_0 : decode cX3_by 0 = .ok (.iload_n 0, 1) := by decide +kernel
theorem dX3_by_1 : decode cX3_by 1 = .ok (.ldc 7, 2) := by decide +kernel
theorem dX3_by_3 : decode cX3_by 3 = .ok (.iand, 1) := by decide +kernel
theorem dX3_by_4 : decode cX3_by 4 = .ok (.ireturn, 1) := by decide +kernel
theorem dX3_further_0 : decode cX3_further 0 = .ok (.iload_n 0, 1) := by decide +kernel
theorem dX3_further_1 : decode cX3_further 1 = .ok (.iload_n 1, 1) := by decide +kernel
theorem dX3_further_2 : decode cX3_further 2 = .ok (.bipush 18, 2) := by decide +kernel
theorem dX3_further_4 : decode cX3_further 4 = .ok (.ishl, 1) := by decide +kernel
theorem dX3_further_5 : decode cX3_further 5 = .ok (.iadd, 1) := by decide +kernel
theorem dX3_further_6 : decode cX3_further 6 = .ok (.ireturn, 1) := by decide +kernel
theorem dX4_init_0 : decode cX4_init 0 = .ok (.aload_n 0, 1) := by decide +kernel
theorem dX4_init_1 : decode cX4_init 1 = .ok (.invokespecial 3, 3) := by decide +kernel
theorem dX4_init_4 : decode cX4_init 4 = .ok (.aload_n 0, 1) := by decide +kernel
theorem dX4_init_5 : decode cX4_init 5 = .ok (.sipush 300, 3) := by decide +kernel
theorem dX4_init_8 : decode cX4_init 8 = .ok (.newarray .int, 2) := by decide +kernel
theorem dX4_init_10 : decode cX4_init 10 = .ok (.putfield 9, 3) := by decide +kernel
theorem dX4_init_13 : decode cX4_init 13 = .ok (.aload_n 0, 1) := by decide +kernel
theorem dX4_init_14 : decode cX4_init 14 = .ok (.sipush 300, 3) := by decide +kernel
theorem dX4_init_17 : decode cX4_init 17 = .ok (.newarray .int, 2) := by decide +kernel
theorem dX4_init_19 : decode cX4_init 19 = .ok (.putfield 15, 3) := by decide +kernel
theorem dX4_init_22 : decode cX4_init 22 = .ok (.aload_n 0, 1) := by decide +kernel
theorem dX4_init_23 : decode cX4_init 23 = .ok (.bipush 10, 2) := by decide +kernel
theorem dX4_init_25 : decode cX4_init 25 = .ok (.newarray .int, 2) := by decide +kernel
theorem dX4_init_27 : decode cX4_init 27 = .ok (.putfield 18, 3) := by decide +kernel
theorem dX4_init_30 : decode cX4_init 30 = .ok (.aload_n 0, 1) := by decide +kernel
theorem dX4_init_31 : decode cX4_init 31 = .ok (.bipush 10, 2) := by decide +kernel
theorem dX4_init_33 : decode cX4_init 33 = .ok (.newarray .int, 2) := by decide +kernel
theorem dX4_init_35 : decode cX4_init 35 = .ok (.putfield 21, 3) := by decide +kernel
theorem dX4_init_38 : decode cX4_init 38 = .ok (.aload_n 0, 1) := by decide +kernel
theorem dX4_init_39 : decode cX4_init 39 = .ok (.sipush 240, 3) := by decide +kernel
theorem dX4_init_42 : decode cX4_init 42 = .ok (.newarray .int, 2) := by decide +kernel
theorem dX4_init_44 : decode cX4_init 44 = .ok (.putfield 24, 3) := by decide +kernel
theorem dX4_init_47 : decode cX4_init 47 = .ok (.aload_n 0, 1) := by decide +kernel
theorem dX4_init_48 : decode cX4_init 48 = .ok (.sipush 240, 3) := by decide +kernel
theorem dX4_init_51 : decode cX4_init 51 = .ok (.newarray .int, 2) := by decide +kernel
theorem dX4_init_53 : decode cX4_init 53 = .ok (.putfield 27, 3) := by decide +kernel
theorem dX4_init_56 : decode cX4_init 56 = .ok (.aload_n 0, 1) := by decide +kernel
theorem dX4_init_57 : decode cX4_init 57 = .ok (.sipush 240, 3) := by decide +kernel
theorem dX4_init_60 : decode cX4_init 60 = .ok (.newarray .int, 2) := by decide +kernel
theorem dX4_init_62 : decode cX4_init 62 = .ok (.putfield 30, 3) := by decide +kernel
theorem dX4_init_65 : decode cX4_init 65 = .ok (.aload_n 0, 1) := by decide +kernel
theorem dX4_init_66 : decode cX4_init 66 = .ok (.sipush 240, 3) := by decide +kernel
theorem dX4_init_69 : decode cX4_init 69 = .ok (.newarray .int, 2) := by decide +kernel
theorem dX4_init_71 : decode cX4_init 71 = .ok (.putfield 33, 3) := by decide +kernel
theorem dX4_init_74 : decode cX4_init 74 = .ok (.aload_n 0, 1) := by decide +kernel
theorem dX4_init_75 : decode cX4_init 75 = .ok (.sipush 240, 3) := by decide +kernel
theorem dX4_init_78 : decode cX4_init 78 = .ok (.newarray .int, 2) := by decide +kernel
theorem dX4_init_80 : decode cX4_init 80 = .ok (.putfield 36, 3) := by decide +kernel
theorem dX4_init_83 : decode cX4_init 83 = .ok (.aload_n 0, 1) := by decide +kernel
theorem dX4_init_84 : decode cX4_init 84 = .ok (.bipush 6, 2) := by decide +kernel
theorem dX4_init_86 : decode cX4_init 86 = .ok (.newarray .int, 2) := by decide +kernel
theorem dX4_init_88 : decode cX4_init 88 = .ok (.putfield 39, 3) := by decide +kernel
theorem dX4_init_91 : decode cX4_init 91 = .ok (.aload_n 0, 1) := by decide +kernel
theorem dX4_init_92 : decode cX4_init 92 = .ok (.ldc 44, 2) := by decide +kernel
theorem dX4_init_94 : decode cX4_init 94 = .ok (.putfield 45, 3) := by decide +kernel
theorem dX4_init_97 : decode cX4_init 97 = .ok (.aload_n 0, 1) := by decide +kernel
theorem dX4_init_98 : decode cX4_init 98 = .ok (.getfield 21, 3) := by decide +kernel
theorem dX4_init_101 : decode cX4_init 101 = .ok (.iconst (-1), 1) := by decide +kernel
theorem dX4_init_102 : decode cX4_init 102 = .ok (.invokestatic 49, 3) := by decide +kernel
theorem dX4_init_105 : decode cX4_init 105 = .ok (.return_, 1) := by decide +kernel
theorem dX4_append_0 : decode cX4_append 0 = .ok (.aload_n 0, 1) := by decide +kernel
theorem dX4_append_1 : decode cX4_append 1 = .ok (.getfield 18, 3) := by decide +kernel
theorem dX4_append_4 : decode cX4_append 4 = .ok (.iload_n 1, 1) := by decide +kernel
theorem dX4_append_5 : decode cX4_append 5 = .ok (.iaload, 1) := by decide +kernel
theorem dX4_append_6 : decode cX4_append 6 = .ok (.istore_n 3, 1) := by decide +kernel
theorem dX4_append_7 : decode cX4_append 7 = .ok (.iload_n 3, 1) := by decide +kernel
theorem dX4_append_8 : decode cX4_append 8 = .ok (.iload_n 1, 1) := by decide +kernel
theorem dX4_append_9 : decode cX4_append 9 = .ok (.bipush 8, 2) := by decide +kernel
theorem dX4_append_11 : decode cX4_append 11 = .ok (.if_icmp .ge 8, 3) := by decide +kernel
theorem dX4_append_14 : decode cX4_append 14 = .ok (.bipush 30, 2) := by decide +kernel
theorem dX4_append_16 : decode cX4_append 16 = .ok (.goto 5, 3) := by decide +kernel
theorem dX4_append_19 : decode cX4_append 19 = .ok (.bipush 24, 2) := by decide +kernel
theorem dX4_append_21 : decode cX4_append 21 = .ok (.if_icmp .lt 5, 3) := by decide +kernel
theorem dX4_append_24 : decode cX4_append 24 = .ok (.iconst 0, 1) := by decide +kernel
theorem dX4_append_25 : decode cX4_append 25 = .ok (.ireturn, 1) := by decide +kernel
theorem dX4_append_26 : decode cX4_append 26 = .ok (.aload_n 0, 1) := by decide +kernel
theorem dX4_append_27 : decode cX4_append 27 = .ok (.getfield 9, 3) := by decide +kernel
theorem dX4_append_30 : decode cX4_append 30 = .ok (.iload_n 1, 1) := by decide +kernel
theorem dX4_append_31 : decode cX4_append 31 = .ok (.bipush 30, 2) := by decide +kernel
theorem dX4_append_33 : decode cX4_append 33 = .ok (.imul, 1) := by decide +kernel
theorem dX4_append_34 : decode cX4_append 34 = .ok (.iload_n 3, 1) := by decide +kernel
theorem dX4_append_35 : decode cX4_append 35 = .ok (.iadd, 1) := by decide +kernel
theorem dX4_append_36 : decode cX4_append 36 = .ok (.iload_n 2, 1) := by decide +kernel
theorem dX4_append_37 : decode cX4_append 37 = .ok (.iastore, 1) := by decide +kernel
theorem dX4_append_38 : decode cX4_append 38 = .ok (.aload_n 0, 1) := by decide +kernel
theorem dX4_append_39 : decode cX4_append 39 = .ok (.getfield 15, 3) := by decide +kernel
theorem dX4_append_42 : decode cX4_append 42 = .ok (.iload_n 1, 1) := by decide +kernel
theorem dX4_append_43 : decode cX4_append 43 = .ok (.bipush 30, 2) := by decide +kernel
theorem dX4_append_45 : decode cX4_append 45 = .ok (.imul, 1) := by decide +kernel
theorem dX4_append_46 : decode cX4_append 46 = .ok (.iload_n 3, 1) := by decide +kernel
theorem dX4_append_47 : decode cX4_append 47 = .ok (.iadd, 1) := by decide +kernel
theorem dX4_append_48 : decode cX4_append 48 = .ok (.iload_n 2, 1) := by decide +kernel
theorem dX4_append_49 : decode cX4_append 49 = .ok (.invokestatic 55, 3) := by decide +kernel
theorem dX4_append_52 : decode cX4_append 52 = .ok (.iastore, 1) := by decide +kernel
theorem dX4_append_53 : decode cX4_append 53 = .ok (.aload_n 0, 1) := by decide +kernel
theorem dX4_append_54 : decode cX4_append 54 = .ok (.getfield 18, 3) := by decide +kernel
theorem dX4_append_57 : decode cX4_append 57 = .ok (.iload_n 1, 1) := by decide +kernel
theorem dX4_append_58 : decode cX4_append 58 = .ok (.iload_n 3, 1) := by decide +kernel
theorem dX4_append_59 : decode cX4_append 59 = .ok (.iconst 1, 1) := by decide +kernel
theorem dX4_append_60 : decode cX4_append 60 = .ok (.iadd, 1) := by decide +kernel
theorem dX4_append_61 : decode cX4_append 61 = .ok (.iastore, 1) := by decide +kernel
theorem dX4_append_62 : decode cX4_append 62 = .ok (.iconst 1, 1) := by decide +kernel
theorem dX4_append_63 : decode cX4_append 63 = .ok (.ireturn, 1) := by decide +kernel
theorem dX4_shorten_0 : decode cX4_shorten 0 = .ok (.aload_n 0, 1) := by decide +kernel
theorem dX4_shorten_1 : decode cX4_shorten 1 = .ok (.getfield 18, 3) := by decide +kernel
theorem dX4_shorten_4 : decode cX4_shorten 4 = .ok (.iload_n 1, 1) := by decide +kernel
theorem dX4_shorten_5 : decode cX4_shorten 5 = .ok (.iload_n 2, 1) := by decide +kernel
theorem dX4_shorten_6 : decode cX4_shorten 6 = .ok (.iastore, 1) := by decide +kernel
theorem dX4_shorten_7 : decode cX4_shorten 7 = .ok (.return_, 1) := by decide +kernel
theorem dX4_lengthOf_0 : decode cX4_lengthOf 0 = .ok (.aload_n 0, 1) := by decide +kernel
theorem dX4_lengthOf_1 : decode cX4_lengthOf 1 = .ok (.getfield 18, 3) := by decide +kernel
theorem dX4_lengthOf_4 : decode cX4_lengthOf 4 = .ok (.iload_n 1, 1) := by decide +kernel
theorem dX4_lengthOf_5 : decode cX4_lengthOf 5 = .ok (.iaload, 1) := by decide +kernel
theorem dX4_lengthOf_6 : decode cX4_lengthOf 6 = .ok (.ireturn, 1) := by decide +kernel
theorem dX4_faultOf_0 : decode cX4_faultOf 0 = .ok (.aload_n 0, 1) := by decide +kernel
theorem dX4_faultOf_1 : decode cX4_faultOf 1 = .ok (.getfield 21, 3) := by decide +kernel
theorem dX4_faultOf_4 : decode cX4_faultOf 4 = .ok (.iload_n 1, 1) := by decide +kernel
theorem dX4_faultOf_5 : decode cX4_faultOf 5 = .ok (.iaload, 1) := by decide +kernel
theorem dX4_faultOf_6 : decode cX4_faultOf 6 = .ok (.ireturn, 1) := by decide +kernel
theorem dX4_isWell_0 : decode cX4_isWell 0 = .ok (.aload_n 0, 1) := by decide +kernel
theorem dX4_isWell_1 : decode cX4_isWell 1 = .ok (.getfield 18, 3) := by decide +kernel
theorem dX4_isWell_4 : decode cX4_isWell 4 = .ok (.iload_n 1, 1) := by decide +kernel
theorem dX4_isWell_5 : decode cX4_isWell 5 = .ok (.iaload, 1) := by decide +kernel
theorem dX4_isWell_6 : decode cX4_isWell 6 = .ok (.ifCond .le 17, 3) := by decide +kernel
theorem dX4_isWell_9 : decode cX4_isWell 9 = .ok (.aload_n 0, 1) := by decide +kernel
theorem dX4_isWell_10 : decode cX4_isWell 10 = .ok (.getfield 21, 3) := by decide +kernel
theorem dX4_isWell_13 : decode cX4_isWell 13 = .ok (.iload_n 1, 1) := by decide +kernel
theorem dX4_isWell_14 : decode cX4_isWell 14 = .ok (.iaload, 1) := by decide +kernel
theorem dX4_isWell_15 : decode cX4_isWell 15 = .ok (.iconst (-1), 1) := by decide +kernel
theorem dX4_isWell_16 : decode cX4_isWell 16 = .ok (.if_icmp .ne 7, 3) := by decide +kernel
theorem dX4_isWell_19 : decode cX4_isWell 19 = .ok (.iconst 1, 1) := by decide +kernel
theorem dX4_isWell_20 : decode cX4_isWell 20 = .ok (.goto 4, 3) := by decide +kernel
theorem dX4_isWell_23 : decode cX4_isWell 23 = .ok (.iconst 0, 1) := by decide +kernel
theorem dX4_isWell_24 : decode cX4_isWell 24 = .ok (.ireturn, 1) := by decide +kernel
theorem dX4_isThere_0 : decode cX4_isThere 0 = .ok (.aload_n 0, 1) := by decide +kernel
theorem dX4_isThere_1 : decode cX4_isThere 1 = .ok (.iconst 2, 1) := by decide +kernel
theorem dX4_isThere_2 : decode cX4_isThere 2 = .ok (.iload_n 1, 1) := by decide +kernel
theorem dX4_isThere_3 : decode cX4_isThere 3 = .ok (.imul, 1) := by decide +kernel
theorem dX4_isThere_4 : decode cX4_isThere 4 = .ok (.invokevirtual 59, 3) := by decide +kernel
theorem dX4_isThere_7 : decode cX4_isThere 7 = .ok (.ifCond .eq 19, 3) := by decide +kernel
theorem dX4_isThere_10 : decode cX4_isThere 10 = .ok (.aload_n 0, 1) := by decide +kernel
theorem dX4_isThere_11 : decode cX4_isThere 11 = .ok (.iconst 2, 1) := by decide +kernel
theorem dX4_isThere_12 : decode cX4_isThere 12 = .ok (.iload_n 1, 1) := by decide +kernel
theorem dX4_isThere_13 : decode cX4_isThere 13 = .ok (.imul, 1) := by decide +kernel
theorem dX4_isThere_14 : decode cX4_isThere 14 = .ok (.iconst 1, 1) := by decide +kernel
theorem dX4_isThere_15 : decode cX4_isThere 15 = .ok (.iadd, 1) := by decide +kernel
theorem dX4_isThere_16 : decode cX4_isThere 16 = .ok (.invokevirtual 59, 3) := by decide +kernel
theorem dX4_isThere_19 : decode cX4_isThere 19 = .ok (.ifCond .eq 7, 3) := by decide +kernel
theorem dX4_isThere_22 : decode cX4_isThere 22 = .ok (.iconst 1, 1) := by decide +kernel
theorem dX4_isThere_23 : decode cX4_isThere 23 = .ok (.goto 4, 3) := by decide +kernel
theorem dX4_isThere_26 : decode cX4_isThere 26 = .ok (.iconst 0, 1) := by decide +kernel
theorem dX4_isThere_27 : decode cX4_isThere 27 = .ok (.ireturn, 1) := by decide +kernel
theorem dX4_allBytes_0 : decode cX4_allBytes 0 = .ok (.iconst 0, 1) := by decide +kernel
theorem dX4_allBytes_1 : decode cX4_allBytes 1 = .ok (.istore_n 1, 1) := by decide +kernel
theorem dX4_allBytes_2 : decode cX4_allBytes 2 = .ok (.iconst 0, 1) := by decide +kernel
theorem dX4_allBytes_3 : decode cX4_allBytes 3 = .ok (.istore_n 2, 1) := by decide +kernel
theorem dX4_allBytes_4 : decode cX4_allBytes 4 = .ok (.iload_n 2, 1) := by decide +kernel
theorem dX4_allBytes_5 : decode cX4_allBytes 5 = .ok (.bipush 10, 2) := by decide +kernel
theorem dX4_allBytes_7 : decode cX4_allBytes 7 = .ok (.if_icmp .ge 18, 3) := by decide +kernel
theorem dX4_allBytes_10 : decode cX4_allBytes 10 = .ok (.iload_n 1, 1) := by decide +kernel
theorem dX4_allBytes_11 : decode cX4_allBytes 11 = .ok (.aload_n 0, 1) := by decide +kernel
theorem dX4_allBytes_12 : decode cX4_allBytes 12 = .ok (.getfield 18, 3) := by decide +kernel
theorem dX4_allBytes_15 : decode cX4_allBytes 15 = .ok (.iload_n 2, 1) := by decide +kernel
theorem dX4_allBytes_16 : decode cX4_allBytes 16 = .ok (.iaload, 1) := by decide +kernel
theorem dX4_allBytes_17 : decode cX4_allBytes 17 = .ok (.iadd, 1) := by decide +kernel
theorem dX4_allBytes_18 : decode cX4_allBytes 18 = .ok (.istore_n 1, 1) := by decide +kernel
theorem dX4_allBytes_19 : decode cX4_allBytes 19 = .ok (.iinc 2 1, 3) := by decide +kernel
theorem dX4_allBytes_22 : decode cX4_allBytes 22 = .ok (.goto (-18), 3) := by decide +kernel
theorem dX4_allBytes_25 : decode cX4_allBytes 25 = .ok (.iload_n 1, 1) := by decide +kernel
theorem dX4_allBytes_26 : decode cX4_allBytes 26 = .ok (.ireturn, 1) := by decide +kernel
theorem dX4_measureOf_0 : decode cX4_measureOf 0 = .ok (.iload_n 1, 1) := by decide +kernel
theorem dX4_measureOf_1 : decode cX4_measureOf 1 = .ok (.bipush 30, 2) := by decide +kernel
theorem dX4_measureOf_3 : decode cX4_measureOf 3 = .ok (.imul, 1) := by decide +kernel
theorem dX4_measureOf_4 : decode cX4_measureOf 4 = .ok (.istore_n 3, 1) := by decide +kernel
theorem dX4_measureOf_5 : decode cX4_measureOf 5 = .ok (.iload_n 2, 1) := by decide +kernel
theorem dX4_measureOf_6 : decode cX4_measureOf 6 = .ok (.tableswitch 47 0 2 #[26, 33, 40], 26) := by decide +kernel
theorem dX4_measureOf_32 : decode cX4_measureOf 32 = .ok (.aload_n 0, 1) := by decide +kernel
theorem dX4_measureOf_33 : decode cX4_measureOf 33 = .ok (.getfield 27, 3) := by decide +kernel
theorem dX4_measureOf_36 : decode cX4_measureOf 36 = .ok (.iload_n 3, 1) := by decide +kernel
theorem dX4_measureOf_37 : decode cX4_measureOf 37 = .ok (.iaload, 1) := by decide +kernel
theorem dX4_measureOf_38 : decode cX4_measureOf 38 = .ok (.ireturn, 1) := by decide +kernel
theorem dX4_measureOf_39 : decode cX4_measureOf 39 = .ok (.aload_n 0, 1) := by decide +kernel
theorem dX4_measureOf_40 : decode cX4_measureOf 40 = .ok (.getfield 30, 3) := by decide +kernel
theorem dX4_measureOf_43 : decode cX4_measureOf 43 = .ok (.iload_n 3, 1) := by decide +kernel
theorem dX4_measureOf_44 : decode cX4_measureOf 44 = .ok (.iaload, 1) := by decide +kernel
theorem dX4_measureOf_45 : decode cX4_measureOf 45 = .ok (.ireturn, 1) := by decide +kernel
theorem dX4_measureOf_46 : decode cX4_measureOf 46 = .ok (.aload_n 0, 1) := by decide +kernel
theorem dX4_measureOf_47 : decode cX4_measureOf 47 = .ok (.getfield 33, 3) := by decide +kernel
theorem dX4_measureOf_50 : decode cX4_measureOf 50 = .ok (.iload_n 3, 1) := by decide +kernel
theorem dX4_measureOf_51 : decode cX4_measureOf 51 = .ok (.iaload, 1) := by decide +kernel
theorem dX4_measureOf_52 : decode cX4_measureOf 52 = .ok (.ireturn, 1) := by decide +kernel
theorem dX4_measureOf_53 : decode cX4_measureOf 53 = .ok (.aload_n 0, 1) := by decide +kernel
theorem dX4_measureOf_54 : decode cX4_measureOf 54 = .ok (.getfield 36, 3) := by decide +kernel
theorem dX4_measureOf_57 : decode cX4_measureOf 57 = .ok (.iload_n 3, 1) := by decide +kernel
theorem dX4_measureOf_58 : decode cX4_measureOf 58 = .ok (.iaload, 1) := by decide +kernel
theorem dX4_measureOf_59 : decode cX4_measureOf 59 = .ok (.ireturn, 1) := by decide +kernel
theorem dX4_kindAt_0 : decode cX4_kindAt 0 = .ok (.iload_n 1, 1) := by decide +kernel
theorem dX4_kindAt_1 : decode cX4_kindAt 1 = .ok (.ifCond .lt 10, 3) := by decide +kernel
theorem dX4_kindAt_4 : decode cX4_kindAt 4 = .ok (.iload_n 1, 1) := by decide +kernel
theorem dX4_kindAt_5 : decode cX4_kindAt 5 = .ok (.sipush 240, 3) := by decide +kernel
theorem dX4_kindAt_8 : decode cX4_kindAt 8 = .ok (.if_icmp .lt 7, 3) := by decide +kernel
theorem dX4_kindAt_11 : decode cX4_kindAt 11 = .ok (.iconst 0, 1) := by decide +kernel
theorem dX4_kindAt_12 : decode cX4_kindAt 12 = .ok (.goto 9, 3) := by decide +kernel
theorem dX4_kindAt_15 : decode cX4_kindAt 15 = .ok (.aload_n 0, 1) := by decide +kernel
theorem dX4_kindAt_16 : decode cX4_kindAt 16 = .ok (.getfield 15, 3) := by decide +kernel
theorem dX4_kindAt_19 : decode cX4_kindAt 19 = .ok (.iload_n 1, 1) := by decide +kernel
theorem dX4_kindAt_20 : decode cX4_kindAt 20 = .ok (.iaload, 1) := by decide +kernel
theorem dX4_kindAt_21 : decode cX4_kindAt 21 = .ok (.ireturn, 1) := by decide +kernel
theorem dX4_byteAt_0 : decode cX4_byteAt 0 = .ok (.iload_n 1, 1) := by decide +kernel
theorem dX4_byteAt_1 : decode cX4_byteAt 1 = .ok (.ifCond .lt 10, 3) := by decide +kernel
theorem dX4_byteAt_4 : decode cX4_byteAt 4 = .ok (.iload_n 1, 1) := by decide +kernel
theorem dX4_byteAt_5 : decode cX4_byteAt 5 = .ok (.sipush 240, 3) := by decide +kernel
theorem dX4_byteAt_8 : decode cX4_byteAt 8 = .ok (.if_icmp .lt 7, 3) := by decide +kernel
theorem dX4_byteAt_11 : decode cX4_byteAt 11 = .ok (.iconst 0, 1) := by decide +kernel
theorem dX4_byteAt_12 : decode cX4_byteAt 12 = .ok (.goto 9, 3) := by decide +kernel
theorem dX4_byteAt_15 : decode cX4_byteAt 15 = .ok (.aload_n 0, 1) := by decide +kernel
theorem dX4_byteAt_16 : decode cX4_byteAt 16 = .ok (.getfield 9, 3) := by decide +kernel
theorem dX4_byteAt_19 : decode cX4_byteAt 19 = .ok (.iload_n 1, 1) := by decide +kernel
theorem dX4_byteAt_20 : decode cX4_byteAt 20 = .ok (.iaload, 1) := by decide +kernel
theorem dX4_byteAt_21 : decode cX4_byteAt 21 = .ok (.ireturn, 1) := by decide +kernel
theorem dX4_nameAt_0 : decode cX4_nameAt 0 = .ok (.iload_n 1, 1) := by decide +kernel
theorem dX4_nameAt_1 : decode cX4_nameAt 1 = .ok (.ifCond .lt 20, 3) := by decide +kernel
theorem dX4_nameAt_4 : decode cX4_nameAt 4 = .ok (.iload_n 1, 1) := by decide +kernel
theorem dX4_nameAt_5 : decode cX4_nameAt 5 = .ok (.sipush 240, 3) := by decide +kernel
theorem dX4_nameAt_8 : decode cX4_nameAt 8 = .ok (.if_icmp .ge 13, 3) := by decide +kernel
theorem dX4_nameAt_11 : decode cX4_nameAt 11 = .ok (.aload_n 0, 1) := by decide +kernel
theorem dX4_nameAt_12 : decode cX4_nameAt 12 = .ok (.getfield 15, 3) := by decide +kernel
theorem dX4_nameAt_15 : decode cX4_nameAt 15 = .ok (.iload_n 1, 1) := by decide +kernel
theorem dX4_nameAt_16 : decode cX4_nameAt 16 = .ok (.iaload, 1) := by decide +kernel
theorem dX4_nameAt_17 : decode cX4_nameAt 17 = .ok (.iconst 1, 1) := by decide +kernel
theorem dX4_nameAt_18 : decode cX4_nameAt 18 = .ok (.if_icmp .eq 7, 3) := by decide +kernel
theorem dX4_nameAt_21 : decode cX4_nameAt 21 = .ok (.iconst 0, 1) := by decide +kernel
theorem dX4_nameAt_22 : decode cX4_nameAt 22 = .ok (.goto 12, 3) := by decide +kernel
theorem dX4_nameAt_25 : decode cX4_nameAt 25 = .ok (.aload_n 0, 1) := by decide +kernel
theorem dX4_nameAt_26 : decode cX4_nameAt 26 = .ok (.getfield 9, 3) := by decide +kernel
theorem dX4_nameAt_29 : decode cX4_nameAt 29 = .ok (.iload_n 1, 1) := by decide +kernel
theorem dX4_nameAt_30 : decode cX4_nameAt 30 = .ok (.iaload, 1) := by decide +kernel
theorem dX4_nameAt_31 : decode cX4_nameAt 31 = .ok (.bipush 97, 2) := by decide +kernel
theorem dX4_nameAt_33 : decode cX4_nameAt 33 = .ok (.isub, 1) := by decide +kernel
theorem dX4_nameAt_34 : decode cX4_nameAt 34 = .ok (.ireturn, 1) := by decide +kernel
theorem dX4_unknownAt_0 : decode cX4_unknownAt 0 = .ok (.iload_n 1, 1) := by decide +kernel
theorem dX4_unknownAt_1 : decode cX4_unknownAt 1 = .ok (.ifCond .lt 20, 3) := by decide +kernel
theorem dX4_unknownAt_4 : decode cX4_unknownAt 4 = .ok (.iload_n 1, 1) := by decide +kernel
theorem dX4_unknownAt_5 : decode cX4_unknownAt 5 = .ok (.sipush 240, 3) := by decide +kernel
theorem dX4_unknownAt_8 : decode cX4_unknownAt 8 = .ok (.if_icmp .ge 13, 3) := by decide +kernel
theorem dX4_unknownAt_11 : decode cX4_unknownAt 11 = .ok (.aload_n 0, 1) := by decide +kernel
theorem dX4_unknownAt_12 : decode cX4_unknownAt 12 = .ok (.getfield 15, 3) := by decide +kernel
theorem dX4_unknownAt_15 : decode cX4_unknownAt 15 = .ok (.iload_n 1, 1) := by decide +kernel
theorem dX4_unknownAt_16 : decode cX4_unknownAt 16 = .ok (.iaload, 1) := by decide +kernel
theorem dX4_unknownAt_17 : decode cX4_unknownAt 17 = .ok (.iconst 2, 1) := by decide +kernel
theorem dX4_unknownAt_18 : decode cX4_unknownAt 18 = .ok (.if_icmp .eq 7, 3) := by decide +kernel
theorem dX4_unknownAt_21 : decode cX4_unknownAt 21 = .ok (.iconst (-1), 1) := by decide +kernel
theorem dX4_unknownAt_22 : decode cX4_unknownAt 22 = .ok (.goto 12, 3) := by decide +kernel
theorem dX4_unknownAt_25 : decode cX4_unknownAt 25 = .ok (.aload_n 0, 1) := by decide +kernel
theorem dX4_unknownAt_26 : decode cX4_unknownAt 26 = .ok (.getfield 9, 3) := by decide +kernel
theorem dX4_unknownAt_29 : decode cX4_unknownAt 29 = .ok (.iload_n 1, 1) := by decide +kernel
theorem dX4_unknownAt_30 : decode cX4_unknownAt 30 = .ok (.iaload, 1) := by decide +kernel
theorem dX4_unknownAt_31 : decode cX4_unknownAt 31 = .ok (.bipush 80, 2) := by decide +kernel
theorem dX4_unknownAt_33 : decode cX4_unknownAt 33 = .ok (.isub, 1) := by decide +kernel
theorem dX4_unknownAt_34 : decode cX4_unknownAt 34 = .ok (.ireturn, 1) := by decide +kernel
theorem dX4_unknownsFrom_0 : decode cX4_unknownsFrom 0 = .ok (.iload_n 1, 1) := by decide +kernel
theorem dX4_unknownsFrom_1 : decode cX4_unknownsFrom 1 = .ok (.ifCond .lt 10, 3) := by decide +kernel
theorem dX4_unknownsFrom_4 : decode cX4_unknownsFrom 4 = .ok (.iload_n 1, 1) := by decide +kernel
theorem dX4_unknownsFrom_5 : decode cX4_unknownsFrom 5 = .ok (.sipush 240, 3) := by decide +kernel
theorem dX4_unknownsFrom_8 : decode cX4_unknownsFrom 8 = .ok (.if_icmp .lt 7, 3) := by decide +kernel
theorem dX4_unknownsFrom_11 : decode cX4_unknownsFrom 11 = .ok (.iconst 0, 1) := by decide +kernel
theorem dX4_unknownsFrom_12 : decode cX4_unknownsFrom 12 = .ok (.goto 9, 3) := by decide +kernel
theorem dX4_unknownsFrom_15 : decode cX4_unknownsFrom 15 = .ok (.aload_n 0, 1) := by decide +kernel
theorem dX4_unknownsFrom_16 : decode cX4_unknownsFrom 16 = .ok (.getfield 36, 3) := by decide +kernel
theorem dX4_unknownsFrom_19 : decode cX4_unknownsFrom 19 = .ok (.iload_n 1, 1) := by decide +kernel
theorem dX4_unknownsFrom_20 : decode cX4_unknownsFrom 20 = .ok (.iaload, 1) := by decide +kernel
theorem dX4_unknownsFrom_21 : decode cX4_unknownsFrom 21 = .ok (.ireturn, 1) := by decide +kernel
theorem dX4_firstLength_0 : decode cX4_firstLength 0 = .ok (.iload_n 1, 1) := by decide +kernel
theorem dX4_firstLength_1 : decode cX4_firstLength 1 = .ok (.ifCond .lt 12, 3) := by decide +kernel
theorem dX4_firstLength_4 : decode cX4_firstLength 4 = .ok (.iload_n 1, 1) := by decide +kernel
theorem dX4_firstLength_5 : decode cX4_firstLength 5 = .ok (.iconst 1, 1) := by decide +kernel
theorem dX4_firstLength_6 : decode cX4_firstLength 6 = .ok (.iadd, 1) := by decide +kernel
theorem dX4_firstLength_7 : decode cX4_firstLength 7 = .ok (.sipush 240, 3) := by decide +kernel
theorem dX4_firstLength_10 : decode cX4_firstLength 10 = .ok (.if_icmp .lt 7, 3) := by decide +kernel
theorem dX4_firstLength_13 : decode cX4_firstLength 13 = .ok (.iconst 0, 1) := by decide +kernel
theorem dX4_firstLength_14 : decode cX4_firstLength 14 = .ok (.goto 15, 3) := by decide +kernel
theorem dX4_firstLength_17 : decode cX4_firstLength 17 = .ok (.aload_n 0, 1) := by decide +kernel
theorem dX4_firstLength_18 : decode cX4_firstLength 18 = .ok (.getfield 24, 3) := by decide +kernel
theorem dX4_firstLength_21 : decode cX4_firstLength 21 = .ok (.iload_n 1, 1) := by decide +kernel
theorem dX4_firstLength_22 : decode cX4_firstLength 22 = .ok (.iconst 1, 1) := by decide +kernel
theorem dX4_firstLength_23 : decode cX4_firstLength 23 = .ok (.iadd, 1) := by decide +kernel
theorem dX4_firstLength_24 : decode cX4_firstLength 24 = .ok (.iaload, 1) := by decide +kernel
theorem dX4_firstLength_25 : decode cX4_firstLength 25 = .ok (.iload_n 1, 1) := by decide +kernel
theorem dX4_firstLength_26 : decode cX4_firstLength 26 = .ok (.isub, 1) := by decide +kernel
theorem dX4_firstLength_27 : decode cX4_firstLength 27 = .ok (.iconst 1, 1) := by decide +kernel
theorem dX4_firstLength_28 : decode cX4_firstLength 28 = .ok (.isub, 1) := by decide +kernel
theorem dX4_firstLength_29 : decode cX4_firstLength 29 = .ok (.ireturn, 1) := by decide +kernel
theorem dX4_secondOf_0 : decode cX4_secondOf 0 = .ok (.iload_n 1, 1) := by decide +kernel
theorem dX4_secondOf_1 : decode cX4_secondOf 1 = .ok (.iconst 1, 1) := by decide +kernel
theorem dX4_secondOf_2 : decode cX4_secondOf 2 = .ok (.aload_n 0, 1) := by decide +kernel
theorem dX4_secondOf_3 : decode cX4_secondOf 3 = .ok (.iload_n 1, 1) := by decide +kernel
theorem dX4_secondOf_4 : decode cX4_secondOf 4 = .ok (.invokestatic 63, 3) := by decide +kernel
theorem dX4_secondOf_7 : decode cX4_secondOf 7 = .ok (.invokevirtual 68, 3) := by decide +kernel
theorem dX4_secondOf_10 : decode cX4_secondOf 10 = .ok (.iadd, 1) := by decide +kernel
theorem dX4_secondOf_11 : decode cX4_secondOf 11 = .ok (.invokestatic 71, 3) := by decide +kernel
theorem dX4_secondOf_14 : decode cX4_secondOf 14 = .ok (.ireturn, 1) := by decide +kernel
theorem dX4_toldFreshIn_0 : decode cX4_toldFreshIn 0 = .ok (.aload_n 0, 1) := by decide +kernel
theorem dX4_toldFreshIn_1 : decode cX4_toldFreshIn 1 = .ok (.getfield 39, 3) := by decide +kernel
theorem dX4_toldFreshIn_4 : decode cX4_toldFreshIn 4 = .ok (.iload_n 1, 1) := by decide +kernel
theorem dX4_toldFreshIn_5 : decode cX4_toldFreshIn 5 = .ok (.iaload, 1) := by decide +kernel
theorem dX4_toldFreshIn_6 : decode cX4_toldFreshIn 6 = .ok (.ireturn, 1) := by decide +kernel
theorem dX4_enter_0 : decode cX4_enter 0 = .ok (.iload_n 1, 1) := by decide +kernel
theorem dX4_enter_1 : decode cX4_enter 1 = .ok (.istore_n 3, 1) := by decide +kernel
theorem dX4_enter_2 : decode cX4_enter 2 = .ok (.iconst 0, 1) := by decide +kernel
theorem dX4_enter_3 : decode cX4_enter 3 = .ok (.istore 4, 2) := by decide +kernel
theorem dX4_enter_5 : decode cX4_enter 5 = .ok (.iload 4, 2) := by decide +kernel
theorem dX4_enter_7 : decode cX4_enter 7 = .ok (.sipush 240, 3) := by decide +kernel
theorem dX4_enter_10 : decode cX4_enter 10 = .ok (.if_icmp .gt 109, 3) := by decide +kernel
theorem dX4_enter_13 : decode cX4_enter 13 = .ok (.iload_n 3, 1) := by decide +kernel
theorem dX4_enter_14 : decode cX4_enter 14 = .ok (.invokestatic 63, 3) := by decide +kernel
theorem dX4_enter_17 : decode cX4_enter 17 = .ok (.istore 5, 2) := by decide +kernel
theorem dX4_enter_19 : decode cX4_enter 19 = .ok (.aload_n 0, 1) := by decide +kernel
theorem dX4_enter_20 : decode cX4_enter 20 = .ok (.iload 5, 2) := by decide +kernel
theorem dX4_enter_22 : decode cX4_enter 22 = .ok (.invokevirtual 75, 3) := by decide +kernel
theorem dX4_enter_25 : decode cX4_enter 25 = .ok (.istore 6, 2) := by decide +kernel
theorem dX4_enter_27 : decode cX4_enter 27 = .ok (.aload_n 0, 1) := by decide +kernel
theorem dX4_enter_28 : decode cX4_enter 28 = .ok (.iload 5, 2) := by decide +kernel
theorem dX4_enter_30 : decode cX4_enter 30 = .ok (.invokevirtual 78, 3) := by decide +kernel
theorem dX4_enter_33 : decode cX4_enter 33 = .ok (.bipush 7, 2) := by decide +kernel
theorem dX4_enter_35 : decode cX4_enter 35 = .ok (.if_icmp .ne 37, 3) := by decide +kernel
theorem dX4_enter_38 : decode cX4_enter 38 = .ok (.iload 5, 2) := by decide +kernel
theorem dX4_enter_40 : decode cX4_enter 40 = .ok (.iconst 3, 1) := by decide +kernel
theorem dX4_enter_41 : decode cX4_enter 41 = .ok (.iadd, 1) := by decide +kernel
theorem dX4_enter_42 : decode cX4_enter 42 = .ok (.iload_n 3, 1) := by decide +kernel
theorem dX4_enter_43 : decode cX4_enter 43 = .ok (.invokestatic 81, 3) := by decide +kernel
theorem dX4_enter_46 : decode cX4_enter 46 = .ok (.aload_n 0, 1) := by decide +kernel
theorem dX4_enter_47 : decode cX4_enter 47 = .ok (.iload 5, 2) := by decide +kernel
theorem dX4_enter_49 : decode cX4_enter 49 = .ok (.iconst 1, 1) := by decide +kernel
theorem dX4_enter_50 : decode cX4_enter 50 = .ok (.iadd, 1) := by decide +kernel
theorem dX4_enter_51 : decode cX4_enter 51 = .ok (.invokevirtual 84, 3) := by decide +kernel
theorem dX4_enter_54 : decode cX4_enter 54 = .ok (.aload_n 0, 1) := by decide +kernel
theorem dX4_enter_55 : decode cX4_enter 55 = .ok (.iload 5, 2) := by decide +kernel
theorem dX4_enter_57 : decode cX4_enter 57 = .ok (.iconst 2, 1) := by decide +kernel
theorem dX4_enter_58 : decode cX4_enter 58 = .ok (.iadd, 1) := by decide +kernel
theorem dX4_enter_59 : decode cX4_enter 59 = .ok (.invokevirtual 84, 3) := by decide +kernel
theorem dX4_enter_62 : decode cX4_enter 62 = .ok (.invokestatic 87, 3) := by decide +kernel
theorem dX4_enter_65 : decode cX4_enter 65 = .ok (.invokestatic 91, 3) := by decide +kernel
theorem dX4_enter_68 : decode cX4_enter 68 = .ok (.istore_n 3, 1) := by decide +kernel
theorem dX4_enter_69 : decode cX4_enter 69 = .ok (.goto 44, 3) := by decide +kernel
theorem dX4_enter_72 : decode cX4_enter 72 = .ok (.iload 6, 2) := by decide +kernel
theorem dX4_enter_74 : decode cX4_enter 74 = .ok (.iconst (-1), 1) := by decide +kernel
theorem dX4_enter_75 : decode cX4_enter 75 = .ok (.if_icmp .eq 44, 3) := by decide +kernel
theorem dX4_enter_78 : decode cX4_enter 78 = .ok (.aload_n 2, 1) := by decide +kernel
theorem dX4_enter_79 : decode cX4_enter 79 = .ok (.iload 6, 2) := by decide +kernel
theorem dX4_enter_81 : decode cX4_enter 81 = .ok (.iaload, 1) := by decide +kernel
theorem dX4_enter_82 : decode cX4_enter 82 = .ok (.iconst (-1), 1) := by decide +kernel
theorem dX4_enter_83 : decode cX4_enter 83 = .ok (.if_icmp .eq 36, 3) := by decide +kernel
theorem dX4_enter_86 : decode cX4_enter 86 = .ok (.aload_n 2, 1) := by decide +kernel
theorem dX4_enter_87 : decode cX4_enter 87 = .ok (.iload 6, 2) := by decide +kernel
theorem dX4_enter_89 : decode cX4_enter 89 = .ok (.iaload, 1) := by decide +kernel
theorem dX4_enter_90 : decode cX4_enter 90 = .ok (.istore 7, 2) := by decide +kernel
theorem dX4_enter_92 : decode cX4_enter 92 = .ok (.iload 7, 2) := by decide +kernel
theorem dX4_enter_94 : decode cX4_enter 94 = .ok (.invokestatic 63, 3) := by decide +kernel
theorem dX4_enter_97 : decode cX4_enter 97 = .ok (.iload_n 3, 1) := by decide +kernel
theorem dX4_enter_98 : decode cX4_enter 98 = .ok (.invokestatic 81, 3) := by decide +kernel
theorem dX4_enter_101 : decode cX4_enter 101 = .ok (.iload 7, 2) := by decide +kernel
theorem dX4_enter_103 : decode cX4_enter 103 = .ok (.invokestatic 81, 3) := by decide +kernel
theorem dX4_enter_106 : decode cX4_enter 106 = .ok (.invokestatic 94, 3) := by decide +kernel
theorem dX4_enter_109 : decode cX4_enter 109 = .ok (.invokestatic 91, 3) := by decide +kernel
theorem dX4_enter_112 : decode cX4_enter 112 = .ok (.istore_n 3, 1) := by decide +kernel
theorem dX4_enter_113 : decode cX4_enter 113 = .ok (.iinc 4 1, 3) := by decide +kernel
theorem dX4_enter_116 : decode cX4_enter 116 = .ok (.goto (-111), 3) := by decide +kernel
theorem dX4_enter_119 : decode cX4_enter 119 = .ok (.iload_n 3, 1) := by decide +kernel
theorem dX4_enter_120 : decode cX4_enter 120 = .ok (.ireturn, 1) := by decide +kernel
theorem dX4_scan_0 : decode cX4_scan 0 = .ok (.iload_n 1, 1) := by decide +kernel
theorem dX4_scan_1 : decode cX4_scan 1 = .ok (.bipush 8, 2) := by decide +kernel
theorem dX4_scan_3 : decode cX4_scan 3 = .ok (.if_icmp .ge 57, 3) := by decide +kernel
theorem dX4_scan_6 : decode cX4_scan 6 = .ok (.aload_n 0, 1) := by decide +kernel
theorem dX4_scan_7 : decode cX4_scan 7 = .ok (.getfield 21, 3) := by decide +kernel
theorem dX4_scan_10 : decode cX4_scan 10 = .ok (.iload_n 1, 1) := by decide +kernel
theorem dX4_scan_11 : decode cX4_scan 11 = .ok (.aload_n 0, 1) := by decide +kernel
theorem dX4_scan_12 : decode cX4_scan 12 = .ok (.iload_n 1, 1) := by decide +kernel
theorem dX4_scan_13 : decode cX4_scan 13 = .ok (.invokevirtual 97, 3) := by decide +kernel
theorem dX4_scan_16 : decode cX4_scan 16 = .ok (.iastore, 1) := by decide +kernel
theorem dX4_scan_17 : decode cX4_scan 17 = .ok (.aload_n 0, 1) := by decide +kernel
theorem dX4_scan_18 : decode cX4_scan 18 = .ok (.iload_n 1, 1) := by decide +kernel
theorem dX4_scan_19 : decode cX4_scan 19 = .ok (.invokevirtual 59, 3) := by decide +kernel
theorem dX4_scan_22 : decode cX4_scan 22 = .ok (.ifCond .eq 79, 3) := by decide +kernel
theorem dX4_scan_25 : decode cX4_scan 25 = .ok (.iload_n 1, 1) := by decide +kernel
theorem dX4_scan_26 : decode cX4_scan 26 = .ok (.bipush 30, 2) := by decide +kernel
theorem dX4_scan_28 : decode cX4_scan 28 = .ok (.imul, 1) := by decide +kernel
theorem dX4_scan_29 : decode cX4_scan 29 = .ok (.istore_n 2, 1) := by decide +kernel
theorem dX4_scan_30 : decode cX4_scan 30 = .ok (.iload_n 2, 1) := by decide +kernel
theorem dX4_scan_31 : decode cX4_scan 31 = .ok (.aload_n 0, 1) := by decide +kernel
theorem dX4_scan_32 : decode cX4_scan 32 = .ok (.getfield 18, 3) := by decide +kernel
theorem dX4_scan_35 : decode cX4_scan 35 = .ok (.iload_n 1, 1) := by decide +kernel
theorem dX4_scan_36 : decode cX4_scan 36 = .ok (.iaload, 1) := by decide +kernel
theorem dX4_scan_37 : decode cX4_scan 37 = .ok (.iadd, 1) := by decide +kernel
theorem dX4_scan_38 : decode cX4_scan 38 = .ok (.iconst 1, 1) := by decide +kernel
theorem dX4_scan_39 : decode cX4_scan 39 = .ok (.isub, 1) := by decide +kernel
theorem dX4_scan_40 : decode cX4_scan 40 = .ok (.istore_n 3, 1) := by decide +kernel
theorem dX4_scan_41 : decode cX4_scan 41 = .ok (.iload_n 3, 1) := by decide +kernel
theorem dX4_scan_42 : decode cX4_scan 42 = .ok (.iload_n 2, 1) := by decide +kernel
theorem dX4_scan_43 : decode cX4_scan 43 = .ok (.if_icmp .lt 14, 3) := by decide +kernel
theorem dX4_scan_46 : decode cX4_scan 46 = .ok (.aload_n 0, 1) := by decide +kernel
theorem dX4_scan_47 : decode cX4_scan 47 = .ok (.iload_n 3, 1) := by decide +kernel
theorem dX4_scan_48 : decode cX4_scan 48 = .ok (.invokevirtual 100, 3) := by decide +kernel
theorem dX4_scan_51 : decode cX4_scan 51 = .ok (.iinc 3 (-1), 3) := by decide +kernel
theorem dX4_scan_54 : decode cX4_scan 54 = .ok (.goto (-13), 3) := by decide +kernel
theorem dX4_scan_57 : decode cX4_scan 57 = .ok (.goto 44, 3) := by decide +kernel
theorem dX4_scan_60 : decode cX4_scan 60 = .ok (.iload_n 1, 1) := by decide +kernel
theorem dX4_scan_61 : decode cX4_scan 61 = .ok (.bipush 8, 2) := by decide +kernel
theorem dX4_scan_63 : decode cX4_scan 63 = .ok (.if_icmp .ne 22, 3) := by decide +kernel
theorem dX4_scan_66 : decode cX4_scan 66 = .ok (.aload_n 0, 1) := by decide +kernel
theorem dX4_scan_67 : decode cX4_scan 67 = .ok (.getfield 21, 3) := by decide +kernel
theorem dX4_scan_70 : decode cX4_scan 70 = .ok (.iload_n 1, 1) := by decide +kernel
theorem dX4_scan_71 : decode cX4_scan 71 = .ok (.aload_n 0, 1) := by decide +kernel
theorem dX4_scan_72 : decode cX4_scan 72 = .ok (.iload_n 1, 1) := by decide +kernel
theorem dX4_scan_73 : decode cX4_scan 73 = .ok (.iconst 2, 1) := by decide +kernel
theorem dX4_scan_74 : decode cX4_scan 74 = .ok (.invokevirtual 104, 3) := by decide +kernel
theorem dX4_scan_77 : decode cX4_scan 77 = .ok (.iastore, 1) := by decide +kernel
theorem dX4_scan_78 : decode cX4_scan 78 = .ok (.aload_n 0, 1) := by decide +kernel
theorem dX4_scan_79 : decode cX4_scan 79 = .ok (.invokevirtual 107, 3) := by decide +kernel
theorem dX4_scan_82 : decode cX4_scan 82 = .ok (.goto 19, 3) := by decide +kernel
theorem dX4_scan_85 : decode cX4_scan 85 = .ok (.aload_n 0, 1) := by decide +kernel
theorem dX4_scan_86 : decode cX4_scan 86 = .ok (.getfield 21, 3) := by decide +kernel
theorem dX4_scan_89 : decode cX4_scan 89 = .ok (.iload_n 1, 1) := by decide +kernel
theorem dX4_scan_90 : decode cX4_scan 90 = .ok (.aload_n 0, 1) := by decide +kernel
theorem dX4_scan_91 : decode cX4_scan 91 = .ok (.iload_n 1, 1) := by decide +kernel
theorem dX4_scan_92 : decode cX4_scan 92 = .ok (.iconst 1, 1) := by decide +kernel
theorem dX4_scan_93 : decode cX4_scan 93 = .ok (.invokevirtual 104, 3) := by decide +kernel
theorem dX4_scan_96 : decode cX4_scan 96 = .ok (.iastore, 1) := by decide +kernel
theorem dX4_scan_97 : decode cX4_scan 97 = .ok (.aload_n 0, 1) := by decide +kernel
theorem dX4_scan_98 : decode cX4_scan 98 = .ok (.invokevirtual 110, 3) := by decide +kernel
theorem dX4_scan_101 : decode cX4_scan 101 = .ok (.return_, 1) := by decide +kernel
theorem dX4_kindOf_0 : decode cX4_kindOf 0 = .ok (.iload_n 0, 1) := by decide +kernel
theorem dX4_kindOf_1 : decode cX4_kindOf 1 = .ok (.bipush 97, 2) := by decide +kernel
theorem dX4_kindOf_3 : decode cX4_kindOf 3 = .ok (.if_icmp .lt 11, 3) := by decide +kernel
theorem dX4_kindOf_6 : decode cX4_kindOf 6 = .ok (.iload_n 0, 1) := by decide +kernel
theorem dX4_kindOf_7 : decode cX4_kindOf 7 = .ok (.bipush 102, 2) := by decide +kernel
theorem dX4_kindOf_9 : decode cX4_kindOf 9 = .ok (.if_icmp .gt 5, 3) := by decide +kernel
theorem dX4_kindOf_12 : decode cX4_kindOf 12 = .ok (.iconst 1, 1) := by decide +kernel
theorem dX4_kindOf_13 : decode cX4_kindOf 13 = .ok (.ireturn, 1) := by decide +kernel
theorem dX4_kindOf_14 : decode cX4_kindOf 14 = .ok (.iload_n 0, 1) := by decide +kernel
theorem dX4_kindOf_15 : decode cX4_kindOf 15 = .ok (.bipush 80, 2) := by decide +kernel
theorem dX4_kindOf_17 : decode cX4_kindOf 17 = .ok (.if_icmp .lt 11, 3) := by decide +kernel
theorem dX4_kindOf_20 : decode cX4_kindOf 20 = .ok (.iload_n 0, 1) := by decide +kernel
theorem dX4_kindOf_21 : decode cX4_kindOf 21 = .ok (.bipush 85, 2) := by decide +kernel
theorem dX4_kindOf_23 : decode cX4_kindOf 23 = .ok (.if_icmp .gt 5, 3) := by decide +kernel
theorem dX4_kindOf_26 : decode cX4_kindOf 26 = .ok (.iconst 2, 1) := by decide +kernel
theorem dX4_kindOf_27 : decode cX4_kindOf 27 = .ok (.ireturn, 1) := by decide +kernel
theorem dX4_kindOf_28 : decode cX4_kindOf 28 = .ok (.iload_n 0, 1) := by decide +kernel
theorem dX4_kindOf_29 : decode cX4_kindOf 29 = .ok (.bipush 48, 2) := by decide +kernel
theorem dX4_kindOf_31 : decode cX4_kindOf 31 = .ok (.if_icmp .lt 11, 3) := by decide +kernel
theorem dX4_kindOf_34 : decode cX4_kindOf 34 = .ok (.iload_n 0, 1) := by decide +kernel
theorem dX4_kindOf_35 : decode cX4_kindOf 35 = .ok (.bipush 52, 2) := by decide +kernel
theorem dX4_kindOf_37 : decode cX4_kindOf 37 = .ok (.if_icmp .gt 5, 3) := by decide +kernel
theorem dX4_kindOf_40 : decode cX4_kindOf 40 = .ok (.iconst 4, 1) := by decide +kernel
theorem dX4_kindOf_41 : decode cX4_kindOf 41 = .ok (.ireturn, 1) := by decide +kernel
theorem dX4_kindOf_42 : decode cX4_kindOf 42 = .ok (.iload_n 0, 1) := by decide +kernel
theorem dX4_kindOf_43 : decode cX4_kindOf 43 = .ok (.lookupswitch 51 #[(33, 48), (42, 41), (44, 43), (46, 45)], 41) := by decide +kernel
theorem dX4_kindOf_84 : decode cX4_kindOf 84 = .ok (.iconst 3, 1) := by decide +kernel
theorem dX4_kindOf_85 : decode cX4_kindOf 85 = .ok (.ireturn, 1) := by decide +kernel
theorem dX4_kindOf_86 : decode cX4_kindOf 86 = .ok (.iconst 5, 1) := by decide +kernel
theorem dX4_kindOf_87 : decode cX4_kindOf 87 = .ok (.ireturn, 1) := by decide +kernel
theorem dX4_kindOf_88 : decode cX4_kindOf 88 = .ok (.bipush 6, 2) := by decide +kernel
theorem dX4_kindOf_90 : decode cX4_kindOf 90 = .ok (.ireturn, 1) := by decide +kernel
theorem dX4_kindOf_91 : decode cX4_kindOf 91 = .ok (.bipush 7, 2) := by decide +kernel
theorem dX4_kindOf_93 : decode cX4_kindOf 93 = .ok (.ireturn, 1) := by decide +kernel
theorem dX4_kindOf_94 : decode cX4_kindOf 94 = .ok (.iconst 0, 1) := by decide +kernel
theorem dX4_kindOf_95 : decode cX4_kindOf 95 = .ok (.ireturn, 1) := by decide +kernel
theorem dX4_faultOfTerm_0 : decode cX4_faultOfTerm 0 = .ok (.aload_n 0, 1) := by decide +kernel
theorem dX4_faultOfTerm_1 : decode cX4_faultOfTerm 1 = .ok (.getfield 18, 3) := by decide +kernel
theorem dX4_faultOfTerm_4 : decode cX4_faultOfTerm 4 = .ok (.iload_n 1, 1) := by decide +kernel
theorem dX4_faultOfTerm_5 : decode cX4_faultOfTerm 5 = .ok (.iaload, 1) := by decide +kernel
theorem dX4_faultOfTerm_6 : decode cX4_faultOfTerm 6 = .ok (.istore_n 2, 1) := by decide +kernel
theorem dX4_faultOfTerm_7 : decode cX4_faultOfTerm 7 = .ok (.iconst 0, 1) := by decide +kernel
theorem dX4_faultOfTerm_8 : decode cX4_faultOfTerm 8 = .ok (.istore_n 3, 1) := by decide +kernel
theorem dX4_faultOfTerm_9 : decode cX4_faultOfTerm 9 = .ok (.iconst 1, 1) := by decide +kernel
theorem dX4_faultOfTerm_10 : decode cX4_faultOfTerm 10 = .ok (.istore 4, 2) := by decide +kernel
theorem dX4_faultOfTerm_12 : decode cX4_faultOfTerm 12 = .ok (.iconst 0, 1) := by decide +kernel
theorem dX4_faultOfTerm_13 : decode cX4_faultOfTerm 13 = .ok (.istore 5, 2) := by decide +kernel
theorem dX4_faultOfTerm_15 : decode cX4_faultOfTerm 15 = .ok (.iload 5, 2) := by decide +kernel
theorem dX4_faultOfTerm_17 : decode cX4_faultOfTerm 17 = .ok (.iload_n 2, 1) := by decide +kernel
theorem dX4_faultOfTerm_18 : decode cX4_faultOfTerm 18 = .ok (.if_icmp .ge 100, 3) := by decide +kernel
theorem dX4_faultOfTerm_21 : decode cX4_faultOfTerm 21 = .ok (.aload_n 0, 1) := by decide +kernel
theorem dX4_faultOfTerm_22 : decode cX4_faultOfTerm 22 = .ok (.getfield 15, 3) := by decide +kernel
theorem dX4_faultOfTerm_25 : decode cX4_faultOfTerm 25 = .ok (.iload_n 1, 1) := by decide +kernel
theorem dX4_faultOfTerm_26 : decode cX4_faultOfTerm 26 = .ok (.bipush 30, 2) := by decide +kernel
theorem dX4_faultOfTerm_28 : decode cX4_faultOfTerm 28 = .ok (.imul, 1) := by decide +kernel
theorem dX4_faultOfTerm_29 : decode cX4_faultOfTerm 29 = .ok (.iload 5, 2) := by decide +kernel
theorem dX4_faultOfTerm_31 : decode cX4_faultOfTerm 31 = .ok (.iadd, 1) := by decide +kernel
theorem dX4_faultOfTerm_32 : decode cX4_faultOfTerm 32 = .ok (.iaload, 1) := by decide +kernel
theorem dX4_faultOfTerm_33 : decode cX4_faultOfTerm 33 = .ok (.istore 6, 2) := by decide +kernel
theorem dX4_faultOfTerm_35 : decode cX4_faultOfTerm 35 = .ok (.iload_n 3, 1) := by decide +kernel
theorem dX4_faultOfTerm_36 : decode cX4_faultOfTerm 36 = .ok (.ifCond .le 18, 3) := by decide +kernel
theorem dX4_faultOfTerm_39 : decode cX4_faultOfTerm 39 = .ok (.iload 6, 2) := by decide +kernel
theorem dX4_faultOfTerm_41 : decode cX4_faultOfTerm 41 = .ok (.iconst 1, 1) := by decide +kernel
theorem dX4_faultOfTerm_42 : decode cX4_faultOfTerm 42 = .ok (.if_icmp .eq 6, 3) := by decide +kernel
theorem dX4_faultOfTerm_45 : decode cX4_faultOfTerm 45 = .ok (.iload 5, 2) := by decide +kernel
theorem dX4_faultOfTerm_47 : decode cX4_faultOfTerm 47 = .ok (.ireturn, 1) := by decide +kernel
theorem dX4_faultOfTerm_48 : decode cX4_faultOfTerm 48 = .ok (.iinc 3 (-1), 3) := by decide +kernel
theorem dX4_faultOfTerm_51 : decode cX4_faultOfTerm 51 = .ok (.goto 61, 3) := by decide +kernel
theorem dX4_faultOfTerm_54 : decode cX4_faultOfTerm 54 = .ok (.iload 4, 2) := by decide +kernel
theorem dX4_faultOfTerm_56 : decode cX4_faultOfTerm 56 = .ok (.ifCond .eq 8, 3) := by decide +kernel
theorem dX4_faultOfTerm_59 : decode cX4_faultOfTerm 59 = .ok (.iload 6, 2) := by decide +kernel
theorem dX4_faultOfTerm_61 : decode cX4_faultOfTerm 61 = .ok (.ifCond .ne 6, 3) := by decide +kernel
theorem dX4_faultOfTerm_64 : decode cX4_faultOfTerm 64 = .ok (.iload 5, 2) := by decide +kernel
theorem dX4_faultOfTerm_66 : decode cX4_faultOfTerm 66 = .ok (.ireturn, 1) := by decide +kernel
theorem dX4_faultOfTerm_67 : decode cX4_faultOfTerm 67 = .ok (.iload 6, 2) := by decide +kernel
theorem dX4_faultOfTerm_69 : decode cX4_faultOfTerm 69 = .ok (.iconst 5, 1) := by decide +kernel
theorem dX4_faultOfTerm_70 : decode cX4_faultOfTerm 70 = .ok (.if_icmp .ne 9, 3) := by decide +kernel
theorem dX4_faultOfTerm_73 : decode cX4_faultOfTerm 73 = .ok (.iinc 4 1, 3) := by decide +kernel
theorem dX4_faultOfTerm_76 : decode cX4_faultOfTerm 76 = .ok (.goto 36, 3) := by decide +kernel
theorem dX4_faultOfTerm_79 : decode cX4_faultOfTerm 79 = .ok (.iload 6, 2) := by decide +kernel
theorem dX4_faultOfTerm_81 : decode cX4_faultOfTerm 81 = .ok (.bipush 6, 2) := by decide +kernel
theorem dX4_faultOfTerm_83 : decode cX4_faultOfTerm 83 = .ok (.if_icmp .ne 8, 3) := by decide +kernel
theorem dX4_faultOfTerm_86 : decode cX4_faultOfTerm 86 = .ok (.iconst 1, 1) := by decide +kernel
theorem dX4_faultOfTerm_87 : decode cX4_faultOfTerm 87 = .ok (.istore_n 3, 1) := by decide +kernel
theorem dX4_faultOfTerm_88 : decode cX4_faultOfTerm 88 = .ok (.goto 24, 3) := by decide +kernel
theorem dX4_faultOfTerm_91 : decode cX4_faultOfTerm 91 = .ok (.iload 6, 2) := by decide +kernel
theorem dX4_faultOfTerm_93 : decode cX4_faultOfTerm 93 = .ok (.bipush 7, 2) := by decide +kernel
theorem dX4_faultOfTerm_95 : decode cX4_faultOfTerm 95 = .ok (.if_icmp .ne 8, 3) := by decide +kernel
theorem dX4_faultOfTerm_98 : decode cX4_faultOfTerm 98 = .ok (.iconst 2, 1) := by decide +kernel
theorem dX4_faultOfTerm_99 : decode cX4_faultOfTerm 99 = .ok (.istore_n 3, 1) := by decide +kernel
theorem dX4_faultOfTerm_100 : decode cX4_faultOfTerm 100 = .ok (.goto 12, 3) := by decide +kernel
theorem dX4_faultOfTerm_103 : decode cX4_faultOfTerm 103 = .ok (.iload 6, 2) := by decide +kernel
theorem dX4_faultOfTerm_105 : decode cX4_faultOfTerm 105 = .ok (.iconst 4, 1) := by decide +kernel
theorem dX4_faultOfTerm_106 : decode cX4_faultOfTerm 106 = .ok (.if_icmp .eq 6, 3) := by decide +kernel
theorem dX4_faultOfTerm_109 : decode cX4_faultOfTerm 109 = .ok (.iinc 4 (-1), 3) := by decide +kernel
theorem dX4_faultOfTerm_112 : decode cX4_faultOfTerm 112 = .ok (.iinc 5 1, 3) := by decide +kernel
theorem dX4_faultOfTerm_115 : decode cX4_faultOfTerm 115 = .ok (.goto (-100), 3) := by decide +kernel
theorem dX4_faultOfTerm_118 : decode cX4_faultOfTerm 118 = .ok (.iload_n 2, 1) := by decide +kernel
theorem dX4_faultOfTerm_119 : decode cX4_faultOfTerm 119 = .ok (.ifCond .eq 8, 3) := by decide +kernel
theorem dX4_faultOfTerm_122 : decode cX4_faultOfTerm 122 = .ok (.iload 4, 2) := by decide +kernel
theorem dX4_faultOfTerm_124 : decode cX4_faultOfTerm 124 = .ok (.ifCond .ne 7, 3) := by decide +kernel
theorem dX4_faultOfTerm_127 : decode cX4_faultOfTerm 127 = .ok (.iconst (-1), 1) := by decide +kernel
theorem dX4_faultOfTerm_128 : decode cX4_faultOfTerm 128 = .ok (.goto 4, 3) := by decide +kernel
theorem dX4_faultOfTerm_131 : decode cX4_faultOfTerm 131 = .ok (.iload_n 2, 1) := by decide +kernel
theorem dX4_faultOfTerm_132 : decode cX4_faultOfTerm 132 = .ok (.ireturn, 1) := by decide +kernel
theorem dX4_faultOfTwos_0 : decode cX4_faultOfTwos 0 = .ok (.aload_n 0, 1) := by decide +kernel
theorem dX4_faultOfTwos_1 : decode cX4_faultOfTwos 1 = .ok (.getfield 18, 3) := by decide +kernel
theorem dX4_faultOfTwos_4 : decode cX4_faultOfTwos 4 = .ok (.iload_n 1, 1) := by decide +kernel
theorem dX4_faultOfTwos_5 : decode cX4_faultOfTwos 5 = .ok (.iaload, 1) := by decide +kernel
theorem dX4_faultOfTwos_6 : decode cX4_faultOfTwos 6 = .ok (.istore_n 3, 1) := by decide +kernel
theorem dX4_faultOfTwos_7 : decode cX4_faultOfTwos 7 = .ok (.iconst 0, 1) := by decide +kernel
theorem dX4_faultOfTwos_8 : decode cX4_faultOfTwos 8 = .ok (.istore 4, 2) := by decide +kernel
theorem dX4_faultOfTwos_10 : decode cX4_faultOfTwos 10 = .ok (.iload 4, 2) := by decide +kernel
theorem dX4_faultOfTwos_12 : decode cX4_faultOfTwos 12 = .ok (.iload_n 3, 1) := by decide +kernel
theorem dX4_faultOfTwos_13 : decode cX4_faultOfTwos 13 = .ok (.if_icmp .ge 39, 3) := by decide +kernel
theorem dX4_faultOfTwos_16 : decode cX4_faultOfTwos 16 = .ok (.aload_n 0, 1) := by decide +kernel
theorem dX4_faultOfTwos_17 : decode cX4_faultOfTwos 17 = .ok (.getfield 15, 3) := by decide +kernel
theorem dX4_faultOfTwos_20 : decode cX4_faultOfTwos 20 = .ok (.iload_n 1, 1) := by decide +kernel
theorem dX4_faultOfTwos_21 : decode cX4_faultOfTwos 21 = .ok (.bipush 30, 2) := by decide +kernel
theorem dX4_faultOfTwos_23 : decode cX4_faultOfTwos 23 = .ok (.imul, 1) := by decide +kernel
theorem dX4_faultOfTwos_24 : decode cX4_faultOfTwos 24 = .ok (.iload 4, 2) := by decide +kernel
theorem dX4_faultOfTwos_26 : decode cX4_faultOfTwos 26 = .ok (.iadd, 1) := by decide +kernel
theorem dX4_faultOfTwos_27 : decode cX4_faultOfTwos 27 = .ok (.iaload, 1) := by decide +kernel
theorem dX4_faultOfTwos_28 : decode cX4_faultOfTwos 28 = .ok (.iload 4, 2) := by decide +kernel
theorem dX4_faultOfTwos_30 : decode cX4_faultOfTwos 30 = .ok (.iconst 2, 1) := by decide +kernel
theorem dX4_faultOfTwos_31 : decode cX4_faultOfTwos 31 = .ok (.irem, 1) := by decide +kernel
theorem dX4_faultOfTwos_32 : decode cX4_faultOfTwos 32 = .ok (.ifCond .ne 7, 3) := by decide +kernel
theorem dX4_faultOfTwos_35 : decode cX4_faultOfTwos 35 = .ok (.iconst 1, 1) := by decide +kernel
theorem dX4_faultOfTwos_36 : decode cX4_faultOfTwos 36 = .ok (.goto 4, 3) := by decide +kernel
theorem dX4_faultOfTwos_39 : decode cX4_faultOfTwos 39 = .ok (.iload_n 2, 1) := by decide +kernel
theorem dX4_faultOfTwos_40 : decode cX4_faultOfTwos 40 = .ok (.if_icmp .eq 6, 3) := by decide +kernel
theorem dX4_faultOfTwos_43 : decode cX4_faultOfTwos 43 = .ok (.iload 4, 2) := by decide +kernel
theorem dX4_faultOfTwos_45 : decode cX4_faultOfTwos 45 = .ok (.ireturn, 1) := by decide +kernel
theorem dX4_faultOfTwos_46 : decode cX4_faultOfTwos 46 = .ok (.iinc 4 1, 3) := by decide +kernel
theorem dX4_faultOfTwos_49 : decode cX4_faultOfTwos 49 = .ok (.goto (-39), 3) := by decide +kernel
theorem dX4_faultOfTwos_52 : decode cX4_faultOfTwos 52 = .ok (.iload_n 3, 1) := by decide +kernel
theorem dX4_faultOfTwos_53 : decode cX4_faultOfTwos 53 = .ok (.iconst 2, 1) := by decide +kernel
theorem dX4_faultOfTwos_54 : decode cX4_faultOfTwos 54 = .ok (.irem, 1) := by decide +kernel
theorem dX4_faultOfTwos_55 : decode cX4_faultOfTwos 55 = .ok (.ifCond .ne 7, 3) := by decide +kernel
theorem dX4_faultOfTwos_58 : decode cX4_faultOfTwos 58 = .ok (.iconst (-1), 1) := by decide +kernel
theorem dX4_faultOfTwos_59 : decode cX4_faultOfTwos 59 = .ok (.goto 4, 3) := by decide +kernel
theorem dX4_faultOfTwos_62 : decode cX4_faultOfTwos 62 = .ok (.iload_n 3, 1) := by decide +kernel
theorem dX4_faultOfTwos_63 : decode cX4_faultOfTwos 63 = .ok (.ireturn, 1) := by decide +kernel
theorem dX4_findToldFresh_0 : decode cX4_findToldFresh 0 = .ok (.aload_n 0, 1) := by decide +kernel
theorem dX4_findToldFresh_1 : decode cX4_findToldFresh 1 = .ok (.getfield 39, 3) := by decide +kernel
theorem dX4_findToldFresh_4 : decode cX4_findToldFresh 4 = .ok (.iconst 0, 1) := by decide +kernel
theorem dX4_findToldFresh_5 : decode cX4_findToldFresh 5 = .ok (.invokestatic 49, 3) := by decide +kernel
theorem dX4_findToldFresh_8 : decode cX4_findToldFresh 8 = .ok (.sipush 240, 3) := by decide +kernel
theorem dX4_findToldFresh_11 : decode cX4_findToldFresh 11 = .ok (.istore_n 1, 1) := by decide +kernel
theorem dX4_findToldFresh_12 : decode cX4_findToldFresh 12 = .ok (.aload_n 0, 1) := by decide +kernel
theorem dX4_findToldFresh_13 : decode cX4_findToldFresh 13 = .ok (.bipush 8, 2) := by decide +kernel
theorem dX4_findToldFresh_15 : decode cX4_findToldFresh 15 = .ok (.invokevirtual 59, 3) := by decide +kernel
theorem dX4_findToldFresh_18 : decode cX4_findToldFresh 18 = .ok (.ifCond .eq 13, 3) := by decide +kernel
theorem dX4_findToldFresh_21 : decode cX4_findToldFresh 21 = .ok (.aload_n 0, 1) := by decide +kernel
theorem dX4_findToldFresh_22 : decode cX4_findToldFresh 22 = .ok (.getfield 18, 3) := by decide +kernel
theorem dX4_findToldFresh_25 : decode cX4_findToldFresh 25 = .ok (.bipush 8, 2) := by decide +kernel
theorem dX4_findToldFresh_27 : decode cX4_findToldFresh 27 = .ok (.iaload, 1) := by decide +kernel
theorem dX4_findToldFresh_28 : decode cX4_findToldFresh 28 = .ok (.goto 4, 3) := by decide +kernel
theorem dX4_findToldFresh_31 : decode cX4_findToldFresh 31 = .ok (.iconst 0, 1) := by decide +kernel
theorem dX4_findToldFresh_32 : decode cX4_findToldFresh 32 = .ok (.istore_n 2, 1) := by decide +kernel
theorem dX4_findToldFresh_33 : decode cX4_findToldFresh 33 = .ok (.iconst 0, 1) := by decide +kernel
theorem dX4_findToldFresh_34 : decode cX4_findToldFresh 34 = .ok (.istore_n 3, 1) := by decide +kernel
theorem dX4_findToldFresh_35 : decode cX4_findToldFresh 35 = .ok (.iload_n 3, 1) := by decide +kernel
theorem dX4_findToldFresh_36 : decode cX4_findToldFresh 36 = .ok (.iconst 1, 1) := by decide +kernel
theorem dX4_findToldFresh_37 : decode cX4_findToldFresh 37 = .ok (.iadd, 1) := by decide +kernel
theorem dX4_findToldFresh_38 : decode cX4_findToldFresh 38 = .ok (.iload_n 2, 1) := by decide +kernel
theorem dX4_findToldFresh_39 : decode cX4_findToldFresh 39 = .ok (.if_icmp .ge 57, 3) := by decide +kernel
theorem dX4_findToldFresh_42 : decode cX4_findToldFresh 42 = .ok (.aload_n 0, 1) := by decide +kernel
theorem dX4_findToldFresh_43 : decode cX4_findToldFresh 43 = .ok (.getfield 9, 3) := by decide +kernel
theorem dX4_findToldFresh_46 : decode cX4_findToldFresh 46 = .ok (.iload_n 1, 1) := by decide +kernel
theorem dX4_findToldFresh_47 : decode cX4_findToldFresh 47 = .ok (.iload_n 3, 1) := by decide +kernel
theorem dX4_findToldFresh_48 : decode cX4_findToldFresh 48 = .ok (.iadd, 1) := by decide +kernel
theorem dX4_findToldFresh_49 : decode cX4_findToldFresh 49 = .ok (.iconst 1, 1) := by decide +kernel
theorem dX4_findToldFresh_50 : decode cX4_findToldFresh 50 = .ok (.iadd, 1) := by decide +kernel
theorem dX4_findToldFresh_51 : decode cX4_findToldFresh 51 = .ok (.iaload, 1) := by decide +kernel
theorem dX4_findToldFresh_52 : decode cX4_findToldFresh 52 = .ok (.bipush 80, 2) := by decide +kernel
theorem dX4_findToldFresh_54 : decode cX4_findToldFresh 54 = .ok (.isub, 1) := by decide +kernel
theorem dX4_findToldFresh_55 : decode cX4_findToldFresh 55 = .ok (.istore 4, 2) := by decide +kernel
theorem dX4_findToldFresh_57 : decode cX4_findToldFresh 57 = .ok (.iload 4, 2) := by decide +kernel
theorem dX4_findToldFresh_59 : decode cX4_findToldFresh 59 = .ok (.bipush 6, 2) := by decide +kernel
theorem dX4_findToldFresh_61 : decode cX4_findToldFresh 61 = .ok (.invokestatic 113, 3) := by decide +kernel
theorem dX4_findToldFresh_64 : decode cX4_findToldFresh 64 = .ok (.ifCond .ne 26, 3) := by decide +kernel
theorem dX4_findToldFresh_67 : decode cX4_findToldFresh 67 = .ok (.aload_n 0, 1) := by decide +kernel
theorem dX4_findToldFresh_68 : decode cX4_findToldFresh 68 = .ok (.getfield 39, 3) := by decide +kernel
theorem dX4_findToldFresh_71 : decode cX4_findToldFresh 71 = .ok (.iload 4, 2) := by decide +kernel
theorem dX4_findToldFresh_73 : decode cX4_findToldFresh 73 = .ok (.dup2, 1) := by decide +kernel
theorem dX4_findToldFresh_74 : decode cX4_findToldFresh 74 = .ok (.iaload, 1) := by decide +kernel
theorem dX4_findToldFresh_75 : decode cX4_findToldFresh 75 = .ok (.iconst 1, 1) := by decide +kernel
theorem dX4_findToldFresh_76 : decode cX4_findToldFresh 76 = .ok (.aload_n 0, 1) := by decide +kernel
theorem dX4_findToldFresh_77 : decode cX4_findToldFresh 77 = .ok (.getfield 9, 3) := by decide +kernel
theorem dX4_findToldFresh_80 : decode cX4_findToldFresh 80 = .ok (.iload_n 1, 1) := by decide +kernel
theorem dX4_findToldFresh_81 : decode cX4_findToldFresh 81 = .ok (.iload_n 3, 1) := by decide +kernel
theorem dX4_findToldFresh_82 : decode cX4_findToldFresh 82 = .ok (.iadd, 1) := by decide +kernel
theorem dX4_findToldFresh_83 : decode cX4_findToldFresh 83 = .ok (.iaload, 1) := by decide +kernel
theorem dX4_findToldFresh_84 : decode cX4_findToldFresh 84 = .ok (.bipush 97, 2) := by decide +kernel
theorem dX4_findToldFresh_86 : decode cX4_findToldFresh 86 = .ok (.isub, 1) := by decide +kernel
theorem dX4_findToldFresh_87 : decode cX4_findToldFresh 87 = .ok (.ishl, 1) := by decide +kernel
theorem dX4_findToldFresh_88 : decode cX4_findToldFresh 88 = .ok (.ior, 1) := by decide +kernel
theorem dX4_findToldFresh_89 : decode cX4_findToldFresh 89 = .ok (.iastore, 1) := by decide +kernel
theorem dX4_findToldFresh_90 : decode cX4_findToldFresh 90 = .ok (.iinc 3 2, 3) := by decide +kernel
theorem dX4_findToldFresh_93 : decode cX4_findToldFresh 93 = .ok (.goto (-58), 3) := by decide +kernel
theorem dX4_findToldFresh_96 : decode cX4_findToldFresh 96 = .ok (.return_, 1) := by decide +kernel
theorem dX4_findTheTurn_0 : decode cX4_findTheTurn 0 = .ok (.aload_n 0, 1) := by decide +kernel
theorem dX4_findTheTurn_1 : decode cX4_findTheTurn 1 = .ok (.ldc 44, 2) := by decide +kernel
theorem dX4_findTheTurn_3 : decode cX4_findTheTurn 3 = .ok (.putfield 45, 3) := by decide +kernel
theorem dX4_findTheTurn_6 : decode cX4_findTheTurn 6 = .ok (.sipush 270, 3) := by decide +kernel
theorem dX4_findTheTurn_9 : decode cX4_findTheTurn 9 = .ok (.istore_n 1, 1) := by decide +kernel
theorem dX4_findTheTurn_10 : decode cX4_findTheTurn 10 = .ok (.aload_n 0, 1) := by decide +kernel
theorem dX4_findTheTurn_11 : decode cX4_findTheTurn 11 = .ok (.bipush 9, 2) := by decide +kernel
theorem dX4_findTheTurn_13 : decode cX4_findTheTurn 13 = .ok (.invokevirtual 59, 3) := by decide +kernel
theorem dX4_findTheTurn_16 : decode cX4_findTheTurn 16 = .ok (.ifCond .eq 13, 3) := by decide +kernel
theorem dX4_findTheTurn_19 : decode cX4_findTheTurn 19 = .ok (.aload_n 0, 1) := by decide +kernel
theorem dX4_findTheTurn_20 : decode cX4_findTheTurn 20 = .ok (.getfield 18, 3) := by decide +kernel
theorem dX4_findTheTurn_23 : decode cX4_findTheTurn 23 = .ok (.bipush 9, 2) := by decide +kernel
theorem dX4_findTheTurn_25 : decode cX4_findTheTurn 25 = .ok (.iaload, 1) := by decide +kernel
theorem dX4_findTheTurn_26 : decode cX4_findTheTurn 26 = .ok (.goto 4, 3) := by decide +kernel
theorem dX4_findTheTurn_29 : decode cX4_findTheTurn 29 = .ok (.iconst 0, 1) := by decide +kernel
theorem dX4_findTheTurn_30 : decode cX4_findTheTurn 30 = .ok (.istore_n 2, 1) := by decide +kernel
theorem dX4_findTheTurn_31 : decode cX4_findTheTurn 31 = .ok (.iconst 0, 1) := by decide +kernel
theorem dX4_findTheTurn_32 : decode cX4_findTheTurn 32 = .ok (.istore_n 3, 1) := by decide +kernel
theorem dX4_findTheTurn_33 : decode cX4_findTheTurn 33 = .ok (.iload_n 3, 1) := by decide +kernel
theorem dX4_findTheTurn_34 : decode cX4_findTheTurn 34 = .ok (.iconst 1, 1) := by decide +kernel
theorem dX4_findTheTurn_35 : decode cX4_findTheTurn 35 = .ok (.iadd, 1) := by decide +kernel
theorem dX4_findTheTurn_36 : decode cX4_findTheTurn 36 = .ok (.iload_n 2, 1) := by decide +kernel
theorem dX4_findTheTurn_37 : decode cX4_findTheTurn 37 = .ok (.if_icmp .ge 44, 3) := by decide +kernel
theorem dX4_findTheTurn_40 : decode cX4_findTheTurn 40 = .ok (.aload_n 0, 1) := by decide +kernel
theorem dX4_findTheTurn_41 : decode cX4_findTheTurn 41 = .ok (.aload_n 0, 1) := by decide +kernel
theorem dX4_findTheTurn_42 : decode cX4_findTheTurn 42 = .ok (.getfield 45, 3) := by decide +kernel
theorem dX4_findTheTurn_45 : decode cX4_findTheTurn 45 = .ok (.aload_n 0, 1) := by decide +kernel
theorem dX4_findTheTurn_46 : decode cX4_findTheTurn 46 = .ok (.getfield 9, 3) := by decide +kernel
theorem dX4_findTheTurn_49 : decode cX4_findTheTurn 49 = .ok (.iload_n 1, 1) := by decide +kernel
theorem dX4_findTheTurn_50 : decode cX4_findTheTurn 50 = .ok (.iload_n 3, 1) := by decide +kernel
theorem dX4_findTheTurn_51 : decode cX4_findTheTurn 51 = .ok (.iadd, 1) := by decide +kernel
theorem dX4_findTheTurn_52 : decode cX4_findTheTurn 52 = .ok (.iaload, 1) := by decide +kernel
theorem dX4_findTheTurn_53 : decode cX4_findTheTurn 53 = .ok (.bipush 97, 2) := by decide +kernel
theorem dX4_findTheTurn_55 : decode cX4_findTheTurn 55 = .ok (.isub, 1) := by decide +kernel
theorem dX4_findTheTurn_56 : decode cX4_findTheTurn 56 = .ok (.aload_n 0, 1) := by decide +kernel
theorem dX4_findTheTurn_57 : decode cX4_findTheTurn 57 = .ok (.getfield 9, 3) := by decide +kernel
theorem dX4_findTheTurn_60 : decode cX4_findTheTurn 60 = .ok (.iload_n 1, 1) := by decide +kernel
theorem dX4_findTheTurn_61 : decode cX4_findTheTurn 61 = .ok (.iload_n 3, 1) := by decide +kernel
theorem dX4_findTheTurn_62 : decode cX4_findTheTurn 62 = .ok (.iadd, 1) := by decide +kernel
theorem dX4_findTheTurn_63 : decode cX4_findTheTurn 63 = .ok (.iconst 1, 1) := by decide +kernel
theorem dX4_findTheTurn_64 : decode cX4_findTheTurn 64 = .ok (.iadd, 1) := by decide +kernel
theorem dX4_findTheTurn_65 : decode cX4_findTheTurn 65 = .ok (.iaload, 1) := by decide +kernel
theorem dX4_findTheTurn_66 : decode cX4_findTheTurn 66 = .ok (.bipush 97, 2) := by decide +kernel
theorem dX4_findTheTurn_68 : decode cX4_findTheTurn 68 = .ok (.isub, 1) := by decide +kernel
theorem dX4_findTheTurn_69 : decode cX4_findTheTurn 69 = .ok (.invokestatic 87, 3) := by decide +kernel
theorem dX4_findTheTurn_72 : decode cX4_findTheTurn 72 = .ok (.putfield 45, 3) := by decide +kernel
theorem dX4_findTheTurn_75 : decode cX4_findTheTurn 75 = .ok (.iinc 3 2, 3) := by decide +kernel
theorem dX4_findTheTurn_78 : decode cX4_findTheTurn 78 = .ok (.goto (-45), 3) := by decide +kernel
theorem dX4_findTheTurn_81 : decode cX4_findTheTurn 81 = .ok (.return_, 1) := by decide +kernel
theorem dX4_weigh_0 : decode cX4_weigh 0 = .ok (.aload_n 0, 1) := by decide +kernel
theorem dX4_weigh_1 : decode cX4_weigh 1 = .ok (.getfield 15, 3) := by decide +kernel
theorem dX4_weigh_4 : decode cX4_weigh 4 = .ok (.iload_n 1, 1) := by decide +kernel
theorem dX4_weigh_5 : decode cX4_weigh 5 = .ok (.iaload, 1) := by decide +kernel
theorem dX4_weigh_6 : decode cX4_weigh 6 = .ok (.tableswitch 119 4 7 #[30, 30, 41, 72], 30) := by decide +kernel
theorem dX4_weigh_36 : decode cX4_weigh 36 = .ok (.aload_n 0, 1) := by decide +kernel
theorem dX4_weigh_37 : decode cX4_weigh 37 = .ok (.iload_n 1, 1) := by decide +kernel
theorem dX4_weigh_38 : decode cX4_weigh 38 = .ok (.iload_n 1, 1) := by decide +kernel
theorem dX4_weigh_39 : decode cX4_weigh 39 = .ok (.iconst 1, 1) := by decide +kernel
theorem dX4_weigh_40 : decode cX4_weigh 40 = .ok (.iadd, 1) := by decide +kernel
theorem dX4_weigh_41 : decode cX4_weigh 41 = .ok (.invokevirtual 117, 3) := by decide +kernel
theorem dX4_weigh_44 : decode cX4_weigh 44 = .ok (.goto 166, 3) := by decide +kernel
theorem dX4_weigh_47 : decode cX4_weigh 47 = .ok (.aload_n 0, 1) := by decide +kernel
theorem dX4_weigh_48 : decode cX4_weigh 48 = .ok (.iload_n 1, 1) := by decide +kernel
theorem dX4_weigh_49 : decode cX4_weigh 49 = .ok (.iload_n 1, 1) := by decide +kernel
theorem dX4_weigh_50 : decode cX4_weigh 50 = .ok (.iconst 2, 1) := by decide +kernel
theorem dX4_weigh_51 : decode cX4_weigh 51 = .ok (.iadd, 1) := by decide +kernel
theorem dX4_weigh_52 : decode cX4_weigh 52 = .ok (.invokevirtual 117, 3) := by decide +kernel
theorem dX4_weigh_55 : decode cX4_weigh 55 = .ok (.aload_n 0, 1) := by decide +kernel
theorem dX4_weigh_56 : decode cX4_weigh 56 = .ok (.getfield 33, 3) := by decide +kernel
theorem dX4_weigh_59 : decode cX4_weigh 59 = .ok (.iload_n 1, 1) := by decide +kernel
theorem dX4_weigh_60 : decode cX4_weigh 60 = .ok (.dup2, 1) := by decide +kernel
theorem dX4_weigh_61 : decode cX4_weigh 61 = .ok (.iaload, 1) := by decide +kernel
theorem dX4_weigh_62 : decode cX4_weigh 62 = .ok (.iconst 1, 1) := by decide +kernel
theorem dX4_weigh_63 : decode cX4_weigh 63 = .ok (.aload_n 0, 1) := by decide +kernel
theorem dX4_weigh_64 : decode cX4_weigh 64 = .ok (.iload_n 1, 1) := by decide +kernel
theorem dX4_weigh_65 : decode cX4_weigh 65 = .ok (.iconst 1, 1) := by decide +kernel
theorem dX4_weigh_66 : decode cX4_weigh 66 = .ok (.iadd, 1) := by decide +kernel
theorem dX4_weigh_67 : decode cX4_weigh 67 = .ok (.invokevirtual 84, 3) := by decide +kernel
theorem dX4_weigh_70 : decode cX4_weigh 70 = .ok (.ishl, 1) := by decide +kernel
theorem dX4_weigh_71 : decode cX4_weigh 71 = .ok (.iconst (-1), 1) := by decide +kernel
theorem dX4_weigh_72 : decode cX4_weigh 72 = .ok (.ixor, 1) := by decide +kernel
theorem dX4_weigh_73 : decode cX4_weigh 73 = .ok (.iand, 1) := by decide +kernel
theorem dX4_weigh_74 : decode cX4_weigh 74 = .ok (.iastore, 1) := by decide +kernel
theorem dX4_weigh_75 : decode cX4_weigh 75 = .ok (.goto 135, 3) := by decide +kernel
theorem dX4_weigh_78 : decode cX4_weigh 78 = .ok (.aload_n 0, 1) := by decide +kernel
theorem dX4_weigh_79 : decode cX4_weigh 79 = .ok (.iload_n 1, 1) := by decide +kernel
theorem dX4_weigh_80 : decode cX4_weigh 80 = .ok (.iload_n 1, 1) := by decide +kernel
theorem dX4_weigh_81 : decode cX4_weigh 81 = .ok (.iconst 3, 1) := by decide +kernel
theorem dX4_weigh_82 : decode cX4_weigh 82 = .ok (.iadd, 1) := by decide +kernel
theorem dX4_weigh_83 : decode cX4_weigh 83 = .ok (.invokevirtual 117, 3) := by decide +kernel
theorem dX4_weigh_86 : decode cX4_weigh 86 = .ok (.ldc 44, 2) := by decide +kernel
theorem dX4_weigh_88 : decode cX4_weigh 88 = .ok (.aload_n 0, 1) := by decide +kernel
theorem dX4_weigh_89 : decode cX4_weigh 89 = .ok (.iload_n 1, 1) := by decide +kernel
theorem dX4_weigh_90 : decode cX4_weigh 90 = .ok (.iconst 1, 1) := by decide +kernel
theorem dX4_weigh_91 : decode cX4_weigh 91 = .ok (.iadd, 1) := by decide +kernel
theorem dX4_weigh_92 : decode cX4_weigh 92 = .ok (.invokevirtual 84, 3) := by decide +kernel
theorem dX4_weigh_95 : decode cX4_weigh 95 = .ok (.aload_n 0, 1) := by decide +kernel
theorem dX4_weigh_96 : decode cX4_weigh 96 = .ok (.iload_n 1, 1) := by decide +kernel
theorem dX4_weigh_97 : decode cX4_weigh 97 = .ok (.iconst 2, 1) := by decide +kernel
theorem dX4_weigh_98 : decode cX4_weigh 98 = .ok (.iadd, 1) := by decide +kernel
theorem dX4_weigh_99 : decode cX4_weigh 99 = .ok (.invokevirtual 84, 3) := by decide +kernel
theorem dX4_weigh_102 : decode cX4_weigh 102 = .ok (.invokestatic 87, 3) := by decide +kernel
theorem dX4_weigh_105 : decode cX4_weigh 105 = .ok (.istore_n 2, 1) := by decide +kernel
theorem dX4_weigh_106 : decode cX4_weigh 106 = .ok (.aload_n 0, 1) := by decide +kernel
theorem dX4_weigh_107 : decode cX4_weigh 107 = .ok (.getfield 33, 3) := by decide +kernel
theorem dX4_weigh_110 : decode cX4_weigh 110 = .ok (.iload_n 1, 1) := by decide +kernel
theorem dX4_weigh_111 : decode cX4_weigh 111 = .ok (.iload_n 2, 1) := by decide +kernel
theorem dX4_weigh_112 : decode cX4_weigh 112 = .ok (.aload_n 0, 1) := by decide +kernel
theorem dX4_weigh_113 : decode cX4_weigh 113 = .ok (.getfield 33, 3) := by decide +kernel
theorem dX4_weigh_116 : decode cX4_weigh 116 = .ok (.iload_n 1, 1) := by decide +kernel
theorem dX4_weigh_117 : decode cX4_weigh 117 = .ok (.iaload, 1) := by decide +kernel
theorem dX4_weigh_118 : decode cX4_weigh 118 = .ok (.invokestatic 121, 3) := by decide +kernel
theorem dX4_weigh_121 : decode cX4_weigh 121 = .ok (.iastore, 1) := by decide +kernel
theorem dX4_weigh_122 : decode cX4_weigh 122 = .ok (.goto 88, 3) := by decide +kernel
theorem dX4_weigh_125 : decode cX4_weigh 125 = .ok (.aload_n 0, 1) := by decide +kernel
theorem dX4_weigh_126 : decode cX4_weigh 126 = .ok (.getfield 24, 3) := by decide +kernel
theorem dX4_weigh_129 : decode cX4_weigh 129 = .ok (.iload_n 1, 1) := by decide +kernel
theorem dX4_weigh_130 : decode cX4_weigh 130 = .ok (.iload_n 1, 1) := by decide +kernel
theorem dX4_weigh_131 : decode cX4_weigh 131 = .ok (.iconst 1, 1) := by decide +kernel
theorem dX4_weigh_132 : decode cX4_weigh 132 = .ok (.iadd, 1) := by decide +kernel
theorem dX4_weigh_133 : decode cX4_weigh 133 = .ok (.iastore, 1) := by decide +kernel
theorem dX4_weigh_134 : decode cX4_weigh 134 = .ok (.aload_n 0, 1) := by decide +kernel
theorem dX4_weigh_135 : decode cX4_weigh 135 = .ok (.getfield 27, 3) := by decide +kernel
theorem dX4_weigh_138 : decode cX4_weigh 138 = .ok (.iload_n 1, 1) := by decide +kernel
theorem dX4_weigh_139 : decode cX4_weigh 139 = .ok (.iconst 1, 1) := by decide +kernel
theorem dX4_weigh_140 : decode cX4_weigh 140 = .ok (.iastore, 1) := by decide +kernel
theorem dX4_weigh_141 : decode cX4_weigh 141 = .ok (.aload_n 0, 1) := by decide +kernel
theorem dX4_weigh_142 : decode cX4_weigh 142 = .ok (.getfield 30, 3) := by decide +kernel
theorem dX4_weigh_145 : decode cX4_weigh 145 = .ok (.iload_n 1, 1) := by decide +kernel
theorem dX4_weigh_146 : decode cX4_weigh 146 = .ok (.iconst 1, 1) := by decide +kernel
theorem dX4_weigh_147 : decode cX4_weigh 147 = .ok (.iastore, 1) := by decide +kernel
theorem dX4_weigh_148 : decode cX4_weigh 148 = .ok (.aload_n 0, 1) := by decide +kernel
theorem dX4_weigh_149 : decode cX4_weigh 149 = .ok (.getfield 33, 3) := by decide +kernel
theorem dX4_weigh_152 : decode cX4_weigh 152 = .ok (.iload_n 1, 1) := by decide +kernel
theorem dX4_weigh_153 : decode cX4_weigh 153 = .ok (.aload_n 0, 1) := by decide +kernel
theorem dX4_weigh_154 : decode cX4_weigh 154 = .ok (.getfield 15, 3) := by decide +kernel
theorem dX4_weigh_157 : decode cX4_weigh 157 = .ok (.iload_n 1, 1) := by decide +kernel
theorem dX4_weigh_158 : decode cX4_weigh 158 = .ok (.iaload, 1) := by decide +kernel
theorem dX4_weigh_159 : decode cX4_weigh 159 = .ok (.iconst 1, 1) := by decide +kernel
theorem dX4_weigh_160 : decode cX4_weigh 160 = .ok (.if_icmp .ne 17, 3) := by decide +kernel
theorem dX4_weigh_163 : decode cX4_weigh 163 = .ok (.iconst 1, 1) := by decide +kernel
theorem dX4_weigh_164 : decode cX4_weigh 164 = .ok (.aload_n 0, 1) := by decide +kernel
theorem dX4_weigh_165 : decode cX4_weigh 165 = .ok (.getfield 9, 3) := by decide +kernel
theorem dX4_weigh_168 : decode cX4_weigh 168 = .ok (.iload_n 1, 1) := by decide +kernel
theorem dX4_weigh_169 : decode cX4_weigh 169 = .ok (.iaload, 1) := by decide +kernel
theorem dX4_weigh_170 : decode cX4_weigh 170 = .ok (.bipush 97, 2) := by decide +kernel
theorem dX4_weigh_172 : decode cX4_weigh 172 = .ok (.isub, 1) := by decide +kernel
theorem dX4_weigh_173 : decode cX4_weigh 173 = .ok (.ishl, 1) := by decide +kernel
theorem dX4_weigh_174 : decode cX4_weigh 174 = .ok (.goto 4, 3) := by decide +kernel
theorem dX4_weigh_177 : decode cX4_weigh 177 = .ok (.iconst 0, 1) := by decide +kernel
theorem dX4_weigh_178 : decode cX4_weigh 178 = .ok (.iastore, 1) := by decide +kernel
theorem dX4_weigh_179 : decode cX4_weigh 179 = .ok (.aload_n 0, 1) := by decide +kernel
theorem dX4_weigh_180 : decode cX4_weigh 180 = .ok (.getfield 36, 3) := by decide +kernel
theorem dX4_weigh_183 : decode cX4_weigh 183 = .ok (.iload_n 1, 1) := by decide +kernel
theorem dX4_weigh_184 : decode cX4_weigh 184 = .ok (.aload_n 0, 1) := by decide +kernel
theorem dX4_weigh_185 : decode cX4_weigh 185 = .ok (.getfield 15, 3) := by decide +kernel
theorem dX4_weigh_188 : decode cX4_weigh 188 = .ok (.iload_n 1, 1) := by decide +kernel
theorem dX4_weigh_189 : decode cX4_weigh 189 = .ok (.iaload, 1) := by decide +kernel
theorem dX4_weigh_190 : decode cX4_weigh 190 = .ok (.iconst 2, 1) := by decide +kernel
theorem dX4_weigh_191 : decode cX4_weigh 191 = .ok (.if_icmp .ne 17, 3) := by decide +kernel
theorem dX4_weigh_194 : decode cX4_weigh 194 = .ok (.iconst 1, 1) := by decide +kernel
theorem dX4_weigh_195 : decode cX4_weigh 195 = .ok (.aload_n 0, 1) := by decide +kernel
theorem dX4_weigh_196 : decode cX4_weigh 196 = .ok (.getfield 9, 3) := by decide +kernel
theorem dX4_weigh_199 : decode cX4_weigh 199 = .ok (.iload_n 1, 1) := by decide +kernel
theorem dX4_weigh_200 : decode cX4_weigh 200 = .ok (.iaload, 1) := by decide +kernel
theorem dX4_weigh_201 : decode cX4_weigh 201 = .ok (.bipush 80, 2) := by decide +kernel
theorem dX4_weigh_203 : decode cX4_weigh 203 = .ok (.isub, 1) := by decide +kernel
theorem dX4_weigh_204 : decode cX4_weigh 204 = .ok (.ishl, 1) := by decide +kernel
theorem dX4_weigh_205 : decode cX4_weigh 205 = .ok (.goto 4, 3) := by decide +kernel
theorem dX4_weigh_208 : decode cX4_weigh 208 = .ok (.iconst 0, 1) := by decide +kernel
theorem dX4_weigh_209 : decode cX4_weigh 209 = .ok (.iastore, 1) := by decide +kernel
theorem dX4_weigh_210 : decode cX4_weigh 210 = .ok (.return_, 1) := by decide +kernel
theorem dX4_weighOver_0 : decode cX4_weighOver 0 = .ok (.iload_n 2, 1) := by decide +kernel
theorem dX4_weighOver_1 : decode cX4_weighOver 1 = .ok (.sipush 240, 3) := by decide +kernel
theorem dX4_weighOver_4 : decode cX4_weighOver 4 = .ok (.invokestatic 113, 3) := by decide +kernel
theorem dX4_weighOver_7 : decode cX4_weighOver 7 = .ok (.ifCond .eq 4, 3) := by decide +kernel
theorem dX4_weighOver_10 : decode cX4_weighOver 10 = .ok (.return_, 1) := by decide +kernel
theorem dX4_weighOver_11 : decode cX4_weighOver 11 = .ok (.aload_n 0, 1) := by decide +kernel
theorem dX4_weighOver_12 : decode cX4_weighOver 12 = .ok (.getfield 15, 3) := by decide +kernel
theorem dX4_weighOver_15 : decode cX4_weighOver 15 = .ok (.iload_n 1, 1) := by decide +kernel
theorem dX4_weighOver_16 : decode cX4_weighOver 16 = .ok (.iaload, 1) := by decide +kernel
theorem dX4_weighOver_17 : decode cX4_weighOver 17 = .ok (.bipush 7, 2) := by decide +kernel
theorem dX4_weighOver_19 : decode cX4_weighOver 19 = .ok (.if_icmp .ne 7, 3) := by decide +kernel
theorem dX4_weighOver_22 : decode cX4_weighOver 22 = .ok (.iconst 0, 1) := by decide +kernel
theorem dX4_weighOver_23 : decode cX4_weighOver 23 = .ok (.goto 4, 3) := by decide +kernel
theorem dX4_weighOver_26 : decode cX4_weighOver 26 = .ok (.iconst 1, 1) := by decide +kernel
theorem dX4_weighOver_27 : decode cX4_weighOver 27 = .ok (.istore_n 3, 1) := by decide +kernel
theorem dX4_weighOver_28 : decode cX4_weighOver 28 = .ok (.aload_n 0, 1) := by decide +kernel
theorem dX4_weighOver_29 : decode cX4_weighOver 29 = .ok (.getfield 24, 3) := by decide +kernel
theorem dX4_weighOver_32 : decode cX4_weighOver 32 = .ok (.iload_n 1, 1) := by decide +kernel
theorem dX4_weighOver_33 : decode cX4_weighOver 33 = .ok (.aload_n 0, 1) := by decide +kernel
theorem dX4_weighOver_34 : decode cX4_weighOver 34 = .ok (.getfield 24, 3) := by decide +kernel
theorem dX4_weighOver_37 : decode cX4_weighOver 37 = .ok (.iload_n 2, 1) := by decide +kernel
theorem dX4_weighOver_38 : decode cX4_weighOver 38 = .ok (.iaload, 1) := by decide +kernel
theorem dX4_weighOver_39 : decode cX4_weighOver 39 = .ok (.iastore, 1) := by decide +kernel
theorem dX4_weighOver_40 : decode cX4_weighOver 40 = .ok (.aload_n 0, 1) := by decide +kernel
theorem dX4_weighOver_41 : decode cX4_weighOver 41 = .ok (.getfield 27, 3) := by decide +kernel
theorem dX4_weighOver_44 : decode cX4_weighOver 44 = .ok (.iload_n 1, 1) := by decide +kernel
theorem dX4_weighOver_45 : decode cX4_weighOver 45 = .ok (.aload_n 0, 1) := by decide +kernel
theorem dX4_weighOver_46 : decode cX4_weighOver 46 = .ok (.getfield 27, 3) := by decide +kernel
theorem dX4_weighOver_49 : decode cX4_weighOver 49 = .ok (.iload_n 2, 1) := by decide +kernel
theorem dX4_weighOver_50 : decode cX4_weighOver 50 = .ok (.iaload, 1) := by decide +kernel
theorem dX4_weighOver_51 : decode cX4_weighOver 51 = .ok (.iload_n 3, 1) := by decide +kernel
theorem dX4_weighOver_52 : decode cX4_weighOver 52 = .ok (.iadd, 1) := by decide +kernel
theorem dX4_weighOver_53 : decode cX4_weighOver 53 = .ok (.iastore, 1) := by decide +kernel
theorem dX4_weighOver_54 : decode cX4_weighOver 54 = .ok (.aload_n 0, 1) := by decide +kernel
theorem dX4_weighOver_55 : decode cX4_weighOver 55 = .ok (.getfield 30, 3) := by decide +kernel
theorem dX4_weighOver_58 : decode cX4_weighOver 58 = .ok (.iload_n 1, 1) := by decide +kernel
theorem dX4_weighOver_59 : decode cX4_weighOver 59 = .ok (.aload_n 0, 1) := by decide +kernel
theorem dX4_weighOver_60 : decode cX4_weighOver 60 = .ok (.getfield 30, 3) := by decide +kernel
theorem dX4_weighOver_63 : decode cX4_weighOver 63 = .ok (.iload_n 2, 1) := by decide +kernel
theorem dX4_weighOver_64 : decode cX4_weighOver 64 = .ok (.iaload, 1) := by decide +kernel
theorem dX4_weighOver_65 : decode cX4_weighOver 65 = .ok (.iload_n 3, 1) := by decide +kernel
theorem dX4_weighOver_66 : decode cX4_weighOver 66 = .ok (.iadd, 1) := by decide +kernel
theorem dX4_weighOver_67 : decode cX4_weighOver 67 = .ok (.iastore, 1) := by decide +kernel
theorem dX4_weighOver_68 : decode cX4_weighOver 68 = .ok (.aload_n 0, 1) := by decide +kernel
theorem dX4_weighOver_69 : decode cX4_weighOver 69 = .ok (.getfield 33, 3) := by decide +kernel
theorem dX4_weighOver_72 : decode cX4_weighOver 72 = .ok (.iload_n 1, 1) := by decide +kernel
theorem dX4_weighOver_73 : decode cX4_weighOver 73 = .ok (.aload_n 0, 1) := by decide +kernel
theorem dX4_weighOver_74 : decode cX4_weighOver 74 = .ok (.getfield 33, 3) := by decide +kernel
theorem dX4_weighOver_77 : decode cX4_weighOver 77 = .ok (.iload_n 2, 1) := by decide +kernel
theorem dX4_weighOver_78 : decode cX4_weighOver 78 = .ok (.iaload, 1) := by decide +kernel
theorem dX4_weighOver_79 : decode cX4_weighOver 79 = .ok (.iastore, 1) := by decide +kernel
theorem dX4_weighOver_80 : decode cX4_weighOver 80 = .ok (.aload_n 0, 1) := by decide +kernel
theorem dX4_weighOver_81 : decode cX4_weighOver 81 = .ok (.getfield 36, 3) := by decide +kernel
theorem dX4_weighOver_84 : decode cX4_weighOver 84 = .ok (.iload_n 1, 1) := by decide +kernel
theorem dX4_weighOver_85 : decode cX4_weighOver 85 = .ok (.aload_n 0, 1) := by decide +kernel
theorem dX4_weighOver_86 : decode cX4_weighOver 86 = .ok (.getfield 36, 3) := by decide +kernel
theorem dX4_weighOver_89 : decode cX4_weighOver 89 = .ok (.iload_n 2, 1) := by decide +kernel
theorem dX4_weighOver_90 : decode cX4_weighOver 90 = .ok (.iaload, 1) := by decide +kernel
theorem dX4_weighOver_91 : decode cX4_weighOver 91 = .ok (.iastore, 1) := by decide +kernel
theorem dX4_weighOver_92 : decode cX4_weighOver 92 = .ok (.aload_n 0, 1) := by decide +kernel
theorem dX4_weighOver_93 : decode cX4_weighOver 93 = .ok (.getfield 24, 3) := by decide +kernel
theorem dX4_weighOver_96 : decode cX4_weighOver 96 = .ok (.iload_n 2, 1) := by decide +kernel
theorem dX4_weighOver_97 : decode cX4_weighOver 97 = .ok (.iaload, 1) := by decide +kernel
theorem dX4_weighOver_98 : decode cX4_weighOver 98 = .ok (.istore 4, 2) := by decide +kernel
theorem dX4_weighOver_100 : decode cX4_weighOver 100 = .ok (.aload_n 0, 1) := by decide +kernel
theorem dX4_weighOver_101 : decode cX4_weighOver 101 = .ok (.getfield 15, 3) := by decide +kernel
theorem dX4_weighOver_104 : decode cX4_weighOver 104 = .ok (.iload_n 1, 1) := by decide +kernel
theorem dX4_weighOver_105 : decode cX4_weighOver 105 = .ok (.iaload, 1) := by decide +kernel
theorem dX4_weighOver_106 : decode cX4_weighOver 106 = .ok (.iconst 5, 1) := by decide +kernel
theorem dX4_weighOver_107 : decode cX4_weighOver 107 = .ok (.if_icmp .ne 99, 3) := by decide +kernel
theorem dX4_weighOver_110 : decode cX4_weighOver 110 = .ok (.iload 4, 2) := by decide +kernel
theorem dX4_weighOver_112 : decode cX4_weighOver 112 = .ok (.sipush 240, 3) := by decide +kernel
theorem dX4_weighOver_115 : decode cX4_weighOver 115 = .ok (.invokestatic 113, 3) := by decide +kernel
theorem dX4_weighOver_118 : decode cX4_weighOver 118 = .ok (.ifCond .ne 88, 3) := by decide +kernel
theorem dX4_weighOver_121 : decode cX4_weighOver 121 = .ok (.aload_n 0, 1) := by decide +kernel
theorem dX4_weighOver_122 : decode cX4_weighOver 122 = .ok (.getfield 24, 3) := by decide +kernel
theorem dX4_weighOver_125 : decode cX4_weighOver 125 = .ok (.iload_n 1, 1) := by decide +kernel
theorem dX4_weighOver_126 : decode cX4_weighOver 126 = .ok (.aload_n 0, 1) := by decide +kernel
theorem dX4_weighOver_127 : decode cX4_weighOver 127 = .ok (.getfield 24, 3) := by decide +kernel
theorem dX4_weighOver_130 : decode cX4_weighOver 130 = .ok (.iload 4, 2) := by decide +kernel
theorem dX4_weighOver_132 : decode cX4_weighOver 132 = .ok (.iaload, 1) := by decide +kernel
theorem dX4_weighOver_133 : decode cX4_weighOver 133 = .ok (.iastore, 1) := by decide +kernel
theorem dX4_weighOver_134 : decode cX4_weighOver 134 = .ok (.aload_n 0, 1) := by decide +kernel
theorem dX4_weighOver_135 : decode cX4_weighOver 135 = .ok (.getfield 27, 3) := by decide +kernel
theorem dX4_weighOver_138 : decode cX4_weighOver 138 = .ok (.iload_n 1, 1) := by decide +kernel
theorem dX4_weighOver_139 : decode cX4_weighOver 139 = .ok (.dup2, 1) := by decide +kernel
theorem dX4_weighOver_140 : decode cX4_weighOver 140 = .ok (.iaload, 1) := by decide +kernel
theorem dX4_weighOver_141 : decode cX4_weighOver 141 = .ok (.aload_n 0, 1) := by decide +kernel
theorem dX4_weighOver_142 : decode cX4_weighOver 142 = .ok (.getfield 27, 3) := by decide +kernel
theorem dX4_weighOver_145 : decode cX4_weighOver 145 = .ok (.iload 4, 2) := by decide +kernel
theorem dX4_weighOver_147 : decode cX4_weighOver 147 = .ok (.iaload, 1) := by decide +kernel
theorem dX4_weighOver_148 : decode cX4_weighOver 148 = .ok (.iadd, 1) := by decide +kernel
theorem dX4_weighOver_149 : decode cX4_weighOver 149 = .ok (.iastore, 1) := by decide +kernel
theorem dX4_weighOver_150 : decode cX4_weighOver 150 = .ok (.aload_n 0, 1) := by decide +kernel
theorem dX4_weighOver_151 : decode cX4_weighOver 151 = .ok (.getfield 30, 3) := by decide +kernel
theorem dX4_weighOver_154 : decode cX4_weighOver 154 = .ok (.iload_n 1, 1) := by decide +kernel
theorem dX4_weighOver_155 : decode cX4_weighOver 155 = .ok (.aload_n 0, 1) := by decide +kernel
theorem dX4_weighOver_156 : decode cX4_weighOver 156 = .ok (.getfield 30, 3) := by decide +kernel
theorem dX4_weighOver_159 : decode cX4_weighOver 159 = .ok (.iload_n 1, 1) := by decide +kernel
theorem dX4_weighOver_160 : decode cX4_weighOver 160 = .ok (.iaload, 1) := by decide +kernel
theorem dX4_weighOver_161 : decode cX4_weighOver 161 = .ok (.aload_n 0, 1) := by decide +kernel
theorem dX4_weighOver_162 : decode cX4_weighOver 162 = .ok (.getfield 30, 3) := by decide +kernel
theorem dX4_weighOver_165 : decode cX4_weighOver 165 = .ok (.iload 4, 2) := by decide +kernel
theorem dX4_weighOver_167 : decode cX4_weighOver 167 = .ok (.iaload, 1) := by decide +kernel
theorem dX4_weighOver_168 : decode cX4_weighOver 168 = .ok (.iconst 1, 1) := by decide +kernel
theorem dX4_weighOver_169 : decode cX4_weighOver 169 = .ok (.iadd, 1) := by decide +kernel
theorem dX4_weighOver_170 : decode cX4_weighOver 170 = .ok (.invokestatic 124, 3) := by decide +kernel
theorem dX4_weighOver_173 : decode cX4_weighOver 173 = .ok (.iastore, 1) := by decide +kernel
theorem dX4_weighOver_174 : decode cX4_weighOver 174 = .ok (.aload_n 0, 1) := by decide +kernel
theorem dX4_weighOver_175 : decode cX4_weighOver 175 = .ok (.getfield 33, 3) := by decide +kernel
theorem dX4_weighOver_178 : decode cX4_weighOver 178 = .ok (.iload_n 1, 1) := by decide +kernel
theorem dX4_weighOver_179 : decode cX4_weighOver 179 = .ok (.dup2, 1) := by decide +kernel
theorem dX4_weighOver_180 : decode cX4_weighOver 180 = .ok (.iaload, 1) := by decide +kernel
theorem dX4_weighOver_181 : decode cX4_weighOver 181 = .ok (.aload_n 0, 1) := by decide +kernel
theorem dX4_weighOver_182 : decode cX4_weighOver 182 = .ok (.getfield 33, 3) := by decide +kernel
theorem dX4_weighOver_185 : decode cX4_weighOver 185 = .ok (.iload 4, 2) := by decide +kernel
theorem dX4_weighOver_187 : decode cX4_weighOver 187 = .ok (.iaload, 1) := by decide +kernel
theorem dX4_weighOver_188 : decode cX4_weighOver 188 = .ok (.ior, 1) := by decide +kernel
theorem dX4_weighOver_189 : decode cX4_weighOver 189 = .ok (.iastore, 1) := by decide +kernel
theorem dX4_weighOver_190 : decode cX4_weighOver 190 = .ok (.aload_n 0, 1) := by decide +kernel
theorem dX4_weighOver_191 : decode cX4_weighOver 191 = .ok (.getfield 36, 3) := by decide +kernel
theorem dX4_weighOver_194 : decode cX4_weighOver 194 = .ok (.iload_n 1, 1) := by decide +kernel
theorem dX4_weighOver_195 : decode cX4_weighOver 195 = .ok (.dup2, 1) := by decide +kernel
theorem dX4_weighOver_196 : decode cX4_weighOver 196 = .ok (.iaload, 1) := by decide +kernel
theorem dX4_weighOver_197 : decode cX4_weighOver 197 = .ok (.aload_n 0, 1) := by decide +kernel
theorem dX4_weighOver_198 : decode cX4_weighOver 198 = .ok (.getfield 36, 3) := by decide +kernel
theorem dX4_weighOver_201 : decode cX4_weighOver 201 = .ok (.iload 4, 2) := by decide +kernel
theorem dX4_weighOver_203 : decode cX4_weighOver 203 = .ok (.iaload, 1) := by decide +kernel
theorem dX4_weighOver_204 : decode cX4_weighOver 204 = .ok (.ior, 1) := by decide +kernel
theorem dX4_weighOver_205 : decode cX4_weighOver 205 = .ok (.iastore, 1) := by decide +kernel
theorem dX4_weighOver_206 : decode cX4_weighOver 206 = .ok (.return_, 1) := by decide +kernel
theorem dX5_image_0 : decode cX5_image 0 = .ok (.iload_n 0, 1) := by decide +kernel
theorem dX5_image_1 : decode cX5_image 1 = .ok (.iconst 3, 1) := by decide +kernel
theorem dX5_image_2 : decode cX5_image 2 = .ok (.iload_n 1, 1) := by decide +kernel
theorem dX5_image_3 : decode cX5_image 3 = .ok (.imul, 1) := by decide +kernel
theorem dX5_image_4 : decode cX5_image 4 = .ok (.ishr, 1) := by decide +kernel
theorem dX5_image_5 : decode cX5_image 5 = .ok (.bipush 7, 2) := by decide +kernel
theorem dX5_image_7 : decode cX5_image 7 = .ok (.iand, 1) := by decide +kernel
theorem dX5_image_8 : decode cX5_image 8 = .ok (.ireturn, 1) := by decide +kernel
theorem dX5_source_0 : decode cX5_source 0 = .ok (.iconst 0, 1) := by decide +kernel
theorem dX5_source_1 : decode cX5_source 1 = .ok (.istore_n 2, 1) := by decide +kernel
theorem dX5_source_2 : decode cX5_source 2 = .ok (.iload_n 2, 1) := by decide +kernel
theorem dX5_source_3 : decode cX5_source 3 = .ok (.bipush 6, 2) := by decide +kernel
theorem dX5_source_5 : decode cX5_source 5 = .ok (.if_icmp .ge 23, 3) := by decide +kernel
theorem dX5_source_8 : decode cX5_source 8 = .ok (.iload_n 0, 1) := by decide +kernel
theorem dX5_source_9 : decode cX5_source 9 = .ok (.iconst 3, 1) := by decide +kernel
theorem dX5_source_10 : decode cX5_source 10 = .ok (.iload_n 2, 1) := by decide +kernel
theorem dX5_source_11 : decode cX5_source 11 = .ok (.imul, 1) := by decide +kernel
theorem dX5_source_12 : decode cX5_source 12 = .ok (.ishr, 1) := by decide +kernel
theorem dX5_source_13 : decode cX5_source 13 = .ok (.bipush 7, 2) := by decide +kernel
theorem dX5_source_15 : decode cX5_source 15 = .ok (.iand, 1) := by decide +kernel
theorem dX5_source_16 : decode cX5_source 16 = .ok (.iload_n 1, 1) := by decide +kernel
theorem dX5_source_17 : decode cX5_source 17 = .ok (.if_icmp .ne 5, 3) := by decide +kernel
theorem dX5_source_20 : decode cX5_source 20 = .ok (.iload_n 2, 1) := by decide +kernel
theorem dX5_source_21 : decode cX5_source 21 = .ok (.ireturn, 1) := by decide +kernel
theorem dX5_source_22 : decode cX5_source 22 = .ok (.iinc 2 1, 3) := by decide +kernel
theorem dX5_source_25 : decode cX5_source 25 = .ok (.goto (-23), 3) := by decide +kernel
theorem dX5_source_28 : decode cX5_source 28 = .ok (.iload_n 1, 1) := by decide +kernel
theorem dX5_source_29 : decode cX5_source 29 = .ok (.ireturn, 1) := by decide +kernel
theorem dX5_back_0 : decode cX5_back 0 = .ok (.iconst 0, 1) := by decide +kernel
theorem dX5_back_1 : decode cX5_back 1 = .ok (.istore_n 1, 1) := by decide +kernel
theorem dX5_back_2 : decode cX5_back 2 = .ok (.iconst 0, 1) := by decide +kernel
theorem dX5_back_3 : decode cX5_back 3 = .ok (.istore_n 2, 1) := by decide +kernel
theorem dX5_back_4 : decode cX5_back 4 = .ok (.iload_n 2, 1) := by decide +kernel
theorem dX5_back_5 : decode cX5_back 5 = .ok (.bipush 6, 2) := by decide +kernel
theorem dX5_back_7 : decode cX5_back 7 = .ok (.if_icmp .ge 24, 3) := by decide +kernel
theorem dX5_back_10 : decode cX5_back 10 = .ok (.iload_n 1, 1) := by decide +kernel
theorem dX5_back_11 : decode cX5_back 11 = .ok (.iload_n 2, 1) := by decide +kernel
theorem dX5_back_12 : decode cX5_back 12 = .ok (.iconst 3, 1) := by decide +kernel
theorem dX5_back_13 : decode cX5_back 13 = .ok (.iload_n 0, 1) := by decide +kernel
theorem dX5_back_14 : decode cX5_back 14 = .ok (.iconst 3, 1) := by decide +kernel
theorem dX5_back_15 : decode cX5_back 15 = .ok (.iload_n 2, 1) := by decide +kernel
theorem dX5_back_16 : decode cX5_back 16 = .ok (.imul, 1) := by decide +kernel
theorem dX5_back_17 : decode cX5_back 17 = .ok (.ishr, 1) := by decide +kernel
theorem dX5_back_18 : decode cX5_back 18 = .ok (.bipush 7, 2) := by decide +kernel
theorem dX5_back_20 : decode cX5_back 20 = .ok (.iand, 1) := by decide +kernel
theorem dX5_back_21 : decode cX5_back 21 = .ok (.imul, 1) := by decide +kernel
theorem dX5_back_22 : decode cX5_back 22 = .ok (.ishl, 1) := by decide +kernel
theorem dX5_back_23 : decode cX5_back 23 = .ok (.ior, 1) := by decide +kernel
theorem dX5_back_24 : decode cX5_back 24 = .ok (.istore_n 1, 1) := by decide +kernel
theorem dX5_back_25 : decode cX5_back 25 = .ok (.iinc 2 1, 3) := by decide +kernel
theorem dX5_back_28 : decode cX5_back 28 = .ok (.goto (-24), 3) := by decide +kernel
theorem dX5_back_31 : decode cX5_back 31 = .ok (.iload_n 1, 1) := by decide +kernel
theorem dX5_back_32 : decode cX5_back 32 = .ok (.ireturn, 1) := by decide +kernel
theorem dX5_join_0 : decode cX5_join 0 = .ok (.iconst 0, 1) := by decide +kernel
theorem dX5_join_1 : decode cX5_join 1 = .ok (.istore_n 2, 1) := by decide +kernel
theorem dX5_join_2 : decode cX5_join 2 = .ok (.iconst 0, 1) := by decide +kernel
theorem dX5_join_3 : decode cX5_join 3 = .ok (.istore_n 3, 1) := by decide +kernel
theorem dX5_join_4 : decode cX5_join 4 = .ok (.iload_n 3, 1) := by decide +kernel
theorem dX5_join_5 : decode cX5_join 5 = .ok (.bipush 6, 2) := by decide +kernel
theorem dX5_join_7 : decode cX5_join 7 = .ok (.if_icmp .ge 31, 3) := by decide +kernel
theorem dX5_join_10 : decode cX5_join 10 = .ok (.iload_n 2, 1) := by decide +kernel
theorem dX5_join_11 : decode cX5_join 11 = .ok (.iload_n 0, 1) := by decide +kernel
theorem dX5_join_12 : decode cX5_join 12 = .ok (.iconst 3, 1) := by decide +kernel
theorem dX5_join_13 : decode cX5_join 13 = .ok (.iload_n 1, 1) := by decide +kernel
theorem dX5_join_14 : decode cX5_join 14 = .ok (.iconst 3, 1) := by decide +kernel
theorem dX5_join_15 : decode cX5_join 15 = .ok (.iload_n 3, 1) := by decide +kernel
theorem dX5_join_16 : decode cX5_join 16 = .ok (.imul, 1) := by decide +kernel
theorem dX5_join_17 : decode cX5_join 17 = .ok (.ishr, 1) := by decide +kernel
theorem dX5_join_18 : decode cX5_join 18 = .ok (.bipush 7, 2) := by decide +kernel
theorem dX5_join_20 : decode cX5_join 20 = .ok (.iand, 1) := by decide +kernel
theorem dX5_join_21 : decode cX5_join 21 = .ok (.imul, 1) := by decide +kernel
theorem dX5_join_22 : decode cX5_join 22 = .ok (.ishr, 1) := by decide +kernel
theorem dX5_join_23 : decode cX5_join 23 = .ok (.bipush 7, 2) := by decide +kernel
theorem dX5_join_25 : decode cX5_join 25 = .ok (.iand, 1) := by decide +kernel
theorem dX5_join_26 : decode cX5_join 26 = .ok (.iconst 3, 1) := by decide +kernel
theorem dX5_join_27 : decode cX5_join 27 = .ok (.iload_n 3, 1) := by decide +kernel
theorem dX5_join_28 : decode cX5_join 28 = .ok (.imul, 1) := by decide +kernel
theorem dX5_join_29 : decode cX5_join 29 = .ok (.ishl, 1) := by decide +kernel
theorem dX5_join_30 : decode cX5_join 30 = .ok (.ior, 1) := by decide +kernel
theorem dX5_join_31 : decode cX5_join 31 = .ok (.istore_n 2, 1) := by decide +kernel
theorem dX5_join_32 : decode cX5_join 32 = .ok (.iinc 3 1, 3) := by decide +kernel
theorem dX5_join_35 : decode cX5_join 35 = .ok (.goto (-31), 3) := by decide +kernel
theorem dX5_join_38 : decode cX5_join 38 = .ok (.iload_n 2, 1) := by decide +kernel
theorem dX5_join_39 : decode cX5_join 39 = .ok (.ireturn, 1) := by decide +kernel
theorem dX5_swapFirst_0 : decode cX5_swapFirst 0 = .ok (.iload_n 0, 1) := by decide +kernel
theorem dX5_swapFirst_1 : decode cX5_swapFirst 1 = .ok (.iconst 3, 1) := by decide +kernel
theorem dX5_swapFirst_2 : decode cX5_swapFirst 2 = .ok (.iload_n 1, 1) := by decide +kernel
theorem dX5_swapFirst_3 : decode cX5_swapFirst 3 = .ok (.imul, 1) := by decide +kernel
theorem dX5_swapFirst_4 : decode cX5_swapFirst 4 = .ok (.ishr, 1) := by decide +kernel
theorem dX5_swapFirst_5 : decode cX5_swapFirst 5 = .ok (.iload_n 0, 1) := by decide +kernel
theorem dX5_swapFirst_6 : decode cX5_swapFirst 6 = .ok (.iconst 3, 1) := by decide +kernel
theorem dX5_swapFirst_7 : decode cX5_swapFirst 7 = .ok (.iload_n 2, 1) := by decide +kernel
theorem dX5_swapFirst_8 : decode cX5_swapFirst 8 = .ok (.imul, 1) := by decide +kernel
theorem dX5_swapFirst_9 : decode cX5_swapFirst 9 = .ok (.ishr, 1) := by decide +kernel
theorem dX5_swapFirst_10 : decode cX5_swapFirst 10 = .ok (.ixor, 1) := by decide +kernel
theorem dX5_swapFirst_11 : decode cX5_swapFirst 11 = .ok (.bipush 7, 2) := by decide +kernel
theorem dX5_swapFirst_13 : decode cX5_swapFirst 13 = .ok (.iand, 1) := by decide +kernel
theorem dX5_swapFirst_14 : decode cX5_swapFirst 14 = .ok (.istore_n 3, 1) := by decide +kernel
theorem dX5_swapFirst_15 : decode cX5_swapFirst 15 = .ok (.iload_n 0, 1) := by decide +kernel
theorem dX5_swapFirst_16 : decode cX5_swapFirst 16 = .ok (.iload_n 3, 1) := by decide +kernel
theorem dX5_swapFirst_17 : decode cX5_swapFirst 17 = .ok (.iconst 3, 1) := by decide +kernel
theorem dX5_swapFirst_18 : decode cX5_swapFirst 18 = .ok (.iload_n 1, 1) := by decide +kernel
theorem dX5_swapFirst_19 : decode cX5_swapFirst 19 = .ok (.imul, 1) := by decide +kernel
theorem dX5_swapFirst_20 : decode cX5_swapFirst 20 = .ok (.ishl, 1) := by decide +kernel
theorem dX5_swapFirst_21 : decode cX5_swapFirst 21 = .ok (.ixor, 1) := by decide +kernel
theorem dX5_swapFirst_22 : decode cX5_swapFirst 22 = .ok (.iload_n 3, 1) := by decide +kernel
theorem dX5_swapFirst_23 : decode cX5_swapFirst 23 = .ok (.iconst 3, 1) := by decide +kernel
theorem dX5_swapFirst_24 : decode cX5_swapFirst 24 = .ok (.iload_n 2, 1) := by decide +kernel
theorem dX5_swapFirst_25 : decode cX5_swapFirst 25 = .ok (.imul, 1) := by decide +kernel
theorem dX5_swapFirst_26 : decode cX5_swapFirst 26 = .ok (.ishl, 1) := by decide +kernel
theorem dX5_swapFirst_27 : decode cX5_swapFirst 27 = .ok (.ixor, 1) := by decide +kernel
theorem dX5_swapFirst_28 : decode cX5_swapFirst 28 = .ok (.ireturn, 1) := by decide +kernel
theorem dX5_swapLast_0 : decode cX5_swapLast 0 = .ok (.iload_n 0, 1) := by decide +kernel
theorem dX5_swapLast_1 : decode cX5_swapLast 1 = .ok (.iload_n 0, 1) := by decide +kernel
theorem dX5_swapLast_2 : decode cX5_swapLast 2 = .ok (.iload_n 1, 1) := by decide +kernel
theorem dX5_swapLast_3 : decode cX5_swapLast 3 = .ok (.invokestatic 9, 3) := by decide +kernel
theorem dX5_swapLast_6 : decode cX5_swapLast 6 = .ok (.iload_n 0, 1) := by decide +kernel
theorem dX5_swapLast_7 : decode cX5_swapLast 7 = .ok (.iload_n 2, 1) := by decide +kernel
theorem dX5_swapLast_8 : decode cX5_swapLast 8 = .ok (.invokestatic 9, 3) := by decide +kernel
theorem dX5_swapLast_11 : decode cX5_swapLast 11 = .ok (.invokestatic 15, 3) := by decide +kernel
theorem dX5_swapLast_14 : decode cX5_swapLast 14 = .ok (.ireturn, 1) := by decide +kernel
theorem dX5_unlike_0 : decode cX5_unlike 0 = .ok (.iconst 0, 1) := by decide +kernel
theorem dX5_unlike_1 : decode cX5_unlike 1 = .ok (.istore_n 2, 1) := by decide +kernel
theorem dX5_unlike_2 : decode cX5_unlike 2 = .ok (.iconst 0, 1) := by decide +kernel
theorem dX5_unlike_3 : decode cX5_unlike 3 = .ok (.istore_n 3, 1) := by decide +kernel
theorem dX5_unlike_4 : decode cX5_unlike 4 = .ok (.iload_n 3, 1) := by decide +kernel
theorem dX5_unlike_5 : decode cX5_unlike 5 = .ok (.bipush 6, 2) := by decide +kernel
theorem dX5_unlike_7 : decode cX5_unlike 7 = .ok (.if_icmp .ge 28, 3) := by decide +kernel
theorem dX5_unlike_10 : decode cX5_unlike 10 = .ok (.iload_n 0, 1) := by decide +kernel
theorem dX5_unlike_11 : decode cX5_unlike 11 = .ok (.iload_n 1, 1) := by decide +kernel
theorem dX5_unlike_12 : decode cX5_unlike 12 = .ok (.ixor, 1) := by decide +kernel
theorem dX5_unlike_13 : decode cX5_unlike 13 = .ok (.iconst 3, 1) := by decide +kernel
theorem dX5_unlike_14 : decode cX5_unlike 14 = .ok (.iload_n 3, 1) := by decide +kernel
theorem dX5_unlike_15 : decode cX5_unlike 15 = .ok (.imul, 1) := by decide +kernel
theorem dX5_unlike_16 : decode cX5_unlike 16 = .ok (.ishr, 1) := by decide +kernel
theorem dX5_unlike_17 : decode cX5_unlike 17 = .ok (.bipush 7, 2) := by decide +kernel
theorem dX5_unlike_19 : decode cX5_unlike 19 = .ok (.iand, 1) := by decide +kernel
theorem dX5_unlike_20 : decode cX5_unlike 20 = .ok (.ifCond .eq 9, 3) := by decide +kernel
theorem dX5_unlike_23 : decode cX5_unlike 23 = .ok (.iload_n 2, 1) := by decide +kernel
theorem dX5_unlike_24 : decode cX5_unlike 24 = .ok (.iconst 1, 1) := by decide +kernel
theorem dX5_unlike_25 : decode cX5_unlike 25 = .ok (.iload_n 3, 1) := by decide +kernel
theorem dX5_unlike_26 : decode cX5_unlike 26 = .ok (.ishl, 1) := by decide +kernel
theorem dX5_unlike_27 : decode cX5_unlike 27 = .ok (.ior, 1) := by decide +kernel
theorem dX5_unlike_28 : decode cX5_unlike 28 = .ok (.istore_n 2, 1) := by decide +kernel
theorem dX5_unlike_29 : decode cX5_unlike 29 = .ok (.iinc 3 1, 3) := by decide +kernel
theorem dX5_unlike_32 : decode cX5_unlike 32 = .ok (.goto (-28), 3) := by decide +kernel
theorem dX5_unlike_35 : decode cX5_unlike 35 = .ok (.iload_n 2, 1) := by decide +kernel
theorem dX5_unlike_36 : decode cX5_unlike 36 = .ok (.ireturn, 1) := by decide +kernel
theorem dX5_sources_0 : decode cX5_sources 0 = .ok (.iconst 0, 1) := by decide +kernel
theorem dX5_sources_1 : decode cX5_sources 1 = .ok (.istore_n 2, 1) := by decide +kernel
theorem dX5_sources_2 : decode cX5_sources 2 = .ok (.iconst 0, 1) := by decide +kernel
theorem dX5_sources_3 : decode cX5_sources 3 = .ok (.istore_n 3, 1) := by decide +kernel
theorem dX5_sources_4 : decode cX5_sources 4 = .ok (.iload_n 3, 1) := by decide +kernel
theorem dX5_sources_5 : decode cX5_sources 5 = .ok (.bipush 6, 2) := by decide +kernel
theorem dX5_sources_7 : decode cX5_sources 7 = .ok (.if_icmp .ge 26, 3) := by decide +kernel
theorem dX5_sources_10 : decode cX5_sources 10 = .ok (.iload_n 2, 1) := by decide +kernel
theorem dX5_sources_11 : decode cX5_sources 11 = .ok (.iload_n 1, 1) := by decide +kernel
theorem dX5_sources_12 : decode cX5_sources 12 = .ok (.iload_n 0, 1) := by decide +kernel
theorem dX5_sources_13 : decode cX5_sources 13 = .ok (.iconst 3, 1) := by decide +kernel
theorem dX5_sources_14 : decode cX5_sources 14 = .ok (.iload_n 3, 1) := by decide +kernel
theorem dX5_sources_15 : decode cX5_sources 15 = .ok (.imul, 1) := by decide +kernel
theorem dX5_sources_16 : decode cX5_sources 16 = .ok (.ishr, 1) := by decide +kernel
theorem dX5_sources_17 : decode cX5_sources 17 = .ok (.bipush 7, 2) := by decide +kernel
theorem dX5_sources_19 : decode cX5_sources 19 = .ok (.iand, 1) := by decide +kernel
theorem dX5_sources_20 : decode cX5_sources 20 = .ok (.ishr, 1) := by decide +kernel
theorem dX5_sources_21 : decode cX5_sources 21 = .ok (.iconst 1, 1) := by decide +kernel
theorem dX5_sources_22 : decode cX5_sources 22 = .ok (.iand, 1) := by decide +kernel
theorem dX5_sources_23 : decode cX5_sources 23 = .ok (.iload_n 3, 1) := by decide +kernel
theorem dX5_sources_24 : decode cX5_sources 24 = .ok (.ishl, 1) := by decide +kernel
theorem dX5_sources_25 : decode cX5_sources 25 = .ok (.ior, 1) := by decide +kernel
theorem dX5_sources_26 : decode cX5_sources 26 = .ok (.istore_n 2, 1) := by decide +kernel
theorem dX5_sources_27 : decode cX5_sources 27 = .ok (.iinc 3 1, 3) := by decide +kernel
theorem dX5_sources_30 : decode cX5_sources 30 = .ok (.goto (-26), 3) := by decide +kernel
theorem dX5_sources_33 : decode cX5_sources 33 = .ok (.iload_n 2, 1) := by decide +kernel
theorem dX5_sources_34 : decode cX5_sources 34 = .ok (.ireturn, 1) := by decide +kernel
theorem dX5_order_0 : decode cX5_order 0 = .ok (.iload_n 0, 1) := by decide +kernel
theorem dX5_order_1 : decode cX5_order 1 = .ok (.istore_n 1, 1) := by decide +kernel
theorem dX5_order_2 : decode cX5_order 2 = .ok (.iconst 1, 1) := by decide +kernel
theorem dX5_order_3 : decode cX5_order 3 = .ok (.istore_n 2, 1) := by decide +kernel
theorem dX5_order_4 : decode cX5_order 4 = .ok (.iload_n 1, 1) := by decide +kernel
theorem dX5_order_5 : decode cX5_order 5 = .ok (.ldc 19, 2) := by decide +kernel
theorem dX5_order_7 : decode cX5_order 7 = .ok (.if_icmp .eq 21, 3) := by decide +kernel
theorem dX5_order_10 : decode cX5_order 10 = .ok (.iload_n 2, 1) := by decide +kernel
theorem dX5_order_11 : decode cX5_order 11 = .ok (.bipush 6, 2) := by decide +kernel
theorem dX5_order_13 : decode cX5_order 13 = .ok (.if_icmp .ge 15, 3) := by decide +kernel
theorem dX5_order_16 : decode cX5_order 16 = .ok (.iload_n 0, 1) := by decide +kernel
theorem dX5_order_17 : decode cX5_order 17 = .ok (.iload_n 1, 1) := by decide +kernel
theorem dX5_order_18 : decode cX5_order 18 = .ok (.invokestatic 20, 3) := by decide +kernel
theorem dX5_order_21 : decode cX5_order 21 = .ok (.istore_n 1, 1) := by decide +kernel
theorem dX5_order_22 : decode cX5_order 22 = .ok (.iinc 2 1, 3) := by decide +kernel
theorem dX5_order_25 : decode cX5_order 25 = .ok (.goto (-21), 3) := by decide +kernel
theorem dX5_order_28 : decode cX5_order 28 = .ok (.iload_n 2, 1) := by decide +kernel
theorem dX5_order_29 : decode cX5_order 29 = .ok (.ireturn, 1) := by decide +kernel
theorem dX5_swaps_0 : decode cX5_swaps 0 = .ok (.iload_n 0, 1) := by decide +kernel
theorem dX5_swaps_1 : decode cX5_swaps 1 = .ok (.istore_n 1, 1) := by decide +kernel
theorem dX5_swaps_2 : decode cX5_swaps 2 = .ok (.iconst 0, 1) := by decide +kernel
theorem dX5_swaps_3 : decode cX5_swaps 3 = .ok (.istore_n 2, 1) := by decide +kernel
theorem dX5_swaps_4 : decode cX5_swaps 4 = .ok (.iconst 0, 1) := by decide +kernel
theorem dX5_swaps_5 : decode cX5_swaps 5 = .ok (.istore_n 3, 1) := by decide +kernel
theorem dX5_swaps_6 : decode cX5_swaps 6 = .ok (.iload_n 3, 1) := by decide +kernel
theorem dX5_swaps_7 : decode cX5_swaps 7 = .ok (.bipush 6, 2) := by decide +kernel
theorem dX5_swaps_9 : decode cX5_swaps 9 = .ok (.if_icmp .ge 33, 3) := by decide +kernel
theorem dX5_swaps_12 : decode cX5_swaps 12 = .ok (.iload_n 1, 1) := by decide +kernel
theorem dX5_swaps_13 : decode cX5_swaps 13 = .ok (.iload_n 3, 1) := by decide +kernel
theorem dX5_swaps_14 : decode cX5_swaps 14 = .ok (.invokestatic 23, 3) := by decide +kernel
theorem dX5_swaps_17 : decode cX5_swaps 17 = .ok (.istore 4, 2) := by decide +kernel
theorem dX5_swaps_19 : decode cX5_swaps 19 = .ok (.iload 4, 2) := by decide +kernel
theorem dX5_swaps_21 : decode cX5_swaps 21 = .ok (.iload_n 3, 1) := by decide +kernel
theorem dX5_swaps_22 : decode cX5_swaps 22 = .ok (.if_icmp .eq 14, 3) := by decide +kernel
theorem dX5_swaps_25 : decode cX5_swaps 25 = .ok (.iload_n 1, 1) := by decide +kernel
theorem dX5_swaps_26 : decode cX5_swaps 26 = .ok (.iload_n 3, 1) := by decide +kernel
theorem dX5_swaps_27 : decode cX5_swaps 27 = .ok (.iload 4, 2) := by decide +kernel
theorem dX5_swaps_29 : decode cX5_swaps 29 = .ok (.invokestatic 26, 3) := by decide +kernel
theorem dX5_swaps_32 : decode cX5_swaps 32 = .ok (.istore_n 1, 1) := by decide +kernel
theorem dX5_swaps_33 : decode cX5_swaps 33 = .ok (.iinc 2 1, 3) := by decide +kernel
theorem dX5_swaps_36 : decode cX5_swaps 36 = .ok (.iinc 3 1, 3) := by decide +kernel
theorem dX5_swaps_39 : decode cX5_swaps 39 = .ok (.goto (-33), 3) := by decide +kernel
theorem dX5_swaps_42 : decode cX5_swaps 42 = .ok (.iload_n 2, 1) := by decide +kernel
theorem dX5_swaps_43 : decode cX5_swaps 43 = .ok (.ireturn, 1) := by decide +kernel
