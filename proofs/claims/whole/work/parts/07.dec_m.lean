theorem dX7_init_0 : decode cX7_init 0 = .ok (.aload_n 0, 1) := by decide +kernel
theorem dX7_init_1 : decode cX7_init 1 = .ok (.invokespecial 1, 3) := by decide +kernel
theorem dX7_init_4 : decode cX7_init 4 = .ok (.aload_n 0, 1) := by decide +kernel
theorem dX7_init_5 : decode cX7_init 5 = .ok (.iconst 4, 1) := by decide +kernel
theorem dX7_init_6 : decode cX7_init 6 = .ok (.newarray .int, 2) := by decide +kernel
theorem dX7_init_8 : decode cX7_init 8 = .ok (.putfield 7, 3) := by decide +kernel
theorem dX7_init_11 : decode cX7_init 11 = .ok (.aload_n 0, 1) := by decide +kernel
theorem dX7_init_12 : decode cX7_init 12 = .ok (.iconst 4, 1) := by decide +kernel
theorem dX7_init_13 : decode cX7_init 13 = .ok (.newarray .int, 2) := by decide +kernel
theorem dX7_init_15 : decode cX7_init 15 = .ok (.putfield 13, 3) := by decide +kernel
theorem dX7_init_18 : decode cX7_init 18 = .ok (.aload_n 0, 1) := by decide +kernel
theorem dX7_init_19 : decode cX7_init 19 = .ok (.sipush 240, 3) := by decide +kernel
theorem dX7_init_22 : decode cX7_init 22 = .ok (.newarray .int, 2) := by decide +kernel
theorem dX7_init_24 : decode cX7_init 24 = .ok (.putfield 16, 3) := by decide +kernel
theorem dX7_init_27 : decode cX7_init 27 = .ok (.aload_n 0, 1) := by decide +kernel
theorem dX7_init_28 : decode cX7_init 28 = .ok (.bipush 60, 2) := by decide +kernel
theorem dX7_init_30 : decode cX7_init 30 = .ok (.newarray .int, 2) := by decide +kernel
theorem dX7_init_32 : decode cX7_init 32 = .ok (.putfield 19, 3) := by decide +kernel
theorem dX7_init_35 : decode cX7_init 35 = .ok (.aload_n 0, 1) := by decide +kernel
theorem dX7_init_36 : decode cX7_init 36 = .ok (.sipush 300, 3) := by decide +kernel
theorem dX7_init_39 : decode cX7_init 39 = .ok (.newarray .int, 2) := by decide +kernel
theorem dX7_init_41 : decode cX7_init 41 = .ok (.putfield 22, 3) := by decide +kernel
theorem dX7_init_44 : decode cX7_init 44 = .ok (.aload_n 0, 1) := by decide +kernel
theorem dX7_init_45 : decode cX7_init 45 = .ok (.bipush 10, 2) := by decide +kernel
theorem dX7_init_47 : decode cX7_init 47 = .ok (.newarray .int, 2) := by decide +kernel
theorem dX7_init_49 : decode cX7_init 49 = .ok (.putfield 25, 3) := by decide +kernel
theorem dX7_init_52 : decode cX7_init 52 = .ok (.aload_n 0, 1) := by decide +kernel
theorem dX7_init_53 : decode cX7_init 53 = .ok (.bipush 8, 2) := by decide +kernel
theorem dX7_init_55 : decode cX7_init 55 = .ok (.newarray .int, 2) := by decide +kernel
theorem dX7_init_57 : decode cX7_init 57 = .ok (.putfield 28, 3) := by decide +kernel
theorem dX7_init_60 : decode cX7_init 60 = .ok (.aload_n 0, 1) := by decide +kernel
theorem dX7_init_61 : decode cX7_init 61 = .ok (.sipush 240, 3) := by decide +kernel
theorem dX7_init_64 : decode cX7_init 64 = .ok (.newarray .int, 2) := by decide +kernel
theorem dX7_init_66 : decode cX7_init 66 = .ok (.putfield 31, 3) := by decide +kernel
theorem dX7_init_69 : decode cX7_init 69 = .ok (.aload_n 0, 1) := by decide +kernel
theorem dX7_init_70 : decode cX7_init 70 = .ok (.sipush 240, 3) := by decide +kernel
theorem dX7_init_73 : decode cX7_init 73 = .ok (.newarray .int, 2) := by decide +kernel
theorem dX7_init_75 : decode cX7_init 75 = .ok (.putfield 34, 3) := by decide +kernel
theorem dX7_init_78 : decode cX7_init 78 = .ok (.aload_n 0, 1) := by decide +kernel
theorem dX7_init_79 : decode cX7_init 79 = .ok (.sipush 240, 3) := by decide +kernel
theorem dX7_init_82 : decode cX7_init 82 = .ok (.newarray .int, 2) := by decide +kernel
theorem dX7_init_84 : decode cX7_init 84 = .ok (.putfield 37, 3) := by decide +kernel
theorem dX7_init_87 : decode cX7_init 87 = .ok (.aload_n 0, 1) := by decide +kernel
theorem dX7_init_88 : decode cX7_init 88 = .ok (.sipush 240, 3) := by decide +kernel
theorem dX7_init_91 : decode cX7_init 91 = .ok (.newarray .int, 2) := by decide +kernel
theorem dX7_init_93 : decode cX7_init 93 = .ok (.putfield 40, 3) := by decide +kernel
theorem dX7_init_96 : decode cX7_init 96 = .ok (.aload_n 0, 1) := by decide +kernel
theorem dX7_init_97 : decode cX7_init 97 = .ok (.bipush 6, 2) := by decide +kernel
theorem dX7_init_99 : decode cX7_init 99 = .ok (.newarray .int, 2) := by decide +kernel
theorem dX7_init_101 : decode cX7_init 101 = .ok (.putfield 43, 3) := by decide +kernel
theorem dX7_init_104 : decode cX7_init 104 = .ok (.aload_n 0, 1) := by decide +kernel
theorem dX7_init_105 : decode cX7_init 105 = .ok (.bipush 60, 2) := by decide +kernel
theorem dX7_init_107 : decode cX7_init 107 = .ok (.newarray .int, 2) := by decide +kernel
theorem dX7_init_109 : decode cX7_init 109 = .ok (.putfield 46, 3) := by decide +kernel
theorem dX7_init_112 : decode cX7_init 112 = .ok (.aload_n 0, 1) := by decide +kernel
theorem dX7_init_113 : decode cX7_init 113 = .ok (.sipush 400, 3) := by decide +kernel
theorem dX7_init_116 : decode cX7_init 116 = .ok (.newarray .int, 2) := by decide +kernel
theorem dX7_init_118 : decode cX7_init 118 = .ok (.putfield 49, 3) := by decide +kernel
theorem dX7_init_121 : decode cX7_init 121 = .ok (.aload_n 0, 1) := by decide +kernel
theorem dX7_init_122 : decode cX7_init 122 = .ok (.sipush 400, 3) := by decide +kernel
theorem dX7_init_125 : decode cX7_init 125 = .ok (.newarray .int, 2) := by decide +kernel
theorem dX7_init_127 : decode cX7_init 127 = .ok (.putfield 52, 3) := by decide +kernel
theorem dX7_init_130 : decode cX7_init 130 = .ok (.aload_n 0, 1) := by decide +kernel
theorem dX7_init_131 : decode cX7_init 131 = .ok (.bipush 6, 2) := by decide +kernel
theorem dX7_init_133 : decode cX7_init 133 = .ok (.newarray .int, 2) := by decide +kernel
theorem dX7_init_135 : decode cX7_init 135 = .ok (.putfield 55, 3) := by decide +kernel
theorem dX7_init_138 : decode cX7_init 138 = .ok (.aload_n 0, 1) := by decide +kernel
theorem dX7_init_139 : decode cX7_init 139 = .ok (.bipush 6, 2) := by decide +kernel
theorem dX7_init_141 : decode cX7_init 141 = .ok (.newarray .int, 2) := by decide +kernel
theorem dX7_init_143 : decode cX7_init 143 = .ok (.putfield 58, 3) := by decide +kernel
theorem dX7_init_146 : decode cX7_init 146 = .ok (.aload_n 0, 1) := by decide +kernel
theorem dX7_init_147 : decode cX7_init 147 = .ok (.sipush 240, 3) := by decide +kernel
theorem dX7_init_150 : decode cX7_init 150 = .ok (.newarray .int, 2) := by decide +kernel
theorem dX7_init_152 : decode cX7_init 152 = .ok (.putfield 61, 3) := by decide +kernel
theorem dX7_init_155 : decode cX7_init 155 = .ok (.aload_n 0, 1) := by decide +kernel
theorem dX7_init_156 : decode cX7_init 156 = .ok (.bipush 6, 2) := by decide +kernel
theorem dX7_init_158 : decode cX7_init 158 = .ok (.newarray .int, 2) := by decide +kernel
theorem dX7_init_160 : decode cX7_init 160 = .ok (.putfield 64, 3) := by decide +kernel
theorem dX7_init_163 : decode cX7_init 163 = .ok (.aload_n 0, 1) := by decide +kernel
theorem dX7_init_164 : decode cX7_init 164 = .ok (.sipush 700, 3) := by decide +kernel
theorem dX7_init_167 : decode cX7_init 167 = .ok (.newarray .int, 2) := by decide +kernel
theorem dX7_init_169 : decode cX7_init 169 = .ok (.putfield 67, 3) := by decide +kernel
theorem dX7_init_172 : decode cX7_init 172 = .ok (.aload_n 0, 1) := by decide +kernel
theorem dX7_init_173 : decode cX7_init 173 = .ok (.sipush 700, 3) := by decide +kernel
theorem dX7_init_176 : decode cX7_init 176 = .ok (.newarray .int, 2) := by decide +kernel
theorem dX7_init_178 : decode cX7_init 178 = .ok (.putfield 70, 3) := by decide +kernel
theorem dX7_init_181 : decode cX7_init 181 = .ok (.aload_n 0, 1) := by decide +kernel
theorem dX7_init_182 : decode cX7_init 182 = .ok (.sipush 700, 3) := by decide +kernel
theorem dX7_init_185 : decode cX7_init 185 = .ok (.newarray .int, 2) := by decide +kernel
theorem dX7_init_187 : decode cX7_init 187 = .ok (.putfield 73, 3) := by decide +kernel
theorem dX7_init_190 : decode cX7_init 190 = .ok (.aload_n 0, 1) := by decide +kernel
theorem dX7_init_191 : decode cX7_init 191 = .ok (.sipush 700, 3) := by decide +kernel
theorem dX7_init_194 : decode cX7_init 194 = .ok (.newarray .int, 2) := by decide +kernel
theorem dX7_init_196 : decode cX7_init 196 = .ok (.putfield 76, 3) := by decide +kernel
theorem dX7_init_199 : decode cX7_init 199 = .ok (.aload_n 0, 1) := by decide +kernel
theorem dX7_init_200 : decode cX7_init 200 = .ok (.sipush 600, 3) := by decide +kernel
theorem dX7_init_203 : decode cX7_init 203 = .ok (.newarray .int, 2) := by decide +kernel
theorem dX7_init_205 : decode cX7_init 205 = .ok (.putfield 79, 3) := by decide +kernel
theorem dX7_init_208 : decode cX7_init 208 = .ok (.aload_n 0, 1) := by decide +kernel
theorem dX7_init_209 : decode cX7_init 209 = .ok (.sipush 600, 3) := by decide +kernel
theorem dX7_init_212 : decode cX7_init 212 = .ok (.newarray .int, 2) := by decide +kernel
theorem dX7_init_214 : decode cX7_init 214 = .ok (.putfield 82, 3) := by decide +kernel
theorem dX7_init_217 : decode cX7_init 217 = .ok (.aload_n 0, 1) := by decide +kernel
theorem dX7_init_218 : decode cX7_init 218 = .ok (.sipush 600, 3) := by decide +kernel
theorem dX7_init_221 : decode cX7_init 221 = .ok (.newarray .int, 2) := by decide +kernel
theorem dX7_init_223 : decode cX7_init 223 = .ok (.putfield 85, 3) := by decide +kernel
theorem dX7_init_226 : decode cX7_init 226 = .ok (.aload_n 0, 1) := by decide +kernel
theorem dX7_init_227 : decode cX7_init 227 = .ok (.bipush 6, 2) := by decide +kernel
theorem dX7_init_229 : decode cX7_init 229 = .ok (.newarray .int, 2) := by decide +kernel
theorem dX7_init_231 : decode cX7_init 231 = .ok (.putfield 88, 3) := by decide +kernel
theorem dX7_init_234 : decode cX7_init 234 = .ok (.aload_n 0, 1) := by decide +kernel
theorem dX7_init_235 : decode cX7_init 235 = .ok (.bipush 6, 2) := by decide +kernel
theorem dX7_init_237 : decode cX7_init 237 = .ok (.newarray .int, 2) := by decide +kernel
theorem dX7_init_239 : decode cX7_init 239 = .ok (.putfield 91, 3) := by decide +kernel
theorem dX7_init_242 : decode cX7_init 242 = .ok (.iconst 0, 1) := by decide +kernel
theorem dX7_init_243 : decode cX7_init 243 = .ok (.istore_n 1, 1) := by decide +kernel
theorem dX7_init_244 : decode cX7_init 244 = .ok (.iload_n 1, 1) := by decide +kernel
theorem dX7_init_245 : decode cX7_init 245 = .ok (.iconst 4, 1) := by decide +kernel
theorem dX7_init_246 : decode cX7_init 246 = .ok (.if_icmp .ge 16, 3) := by decide +kernel
theorem dX7_init_249 : decode cX7_init 249 = .ok (.aload_n 0, 1) := by decide +kernel
theorem dX7_init_250 : decode cX7_init 250 = .ok (.getfield 7, 3) := by decide +kernel
theorem dX7_init_253 : decode cX7_init 253 = .ok (.iload_n 1, 1) := by decide +kernel
theorem dX7_init_254 : decode cX7_init 254 = .ok (.iconst (-1), 1) := by decide +kernel
theorem dX7_init_255 : decode cX7_init 255 = .ok (.iastore, 1) := by decide +kernel
theorem dX7_init_256 : decode cX7_init 256 = .ok (.iinc 1 1, 3) := by decide +kernel
theorem dX7_init_259 : decode cX7_init 259 = .ok (.goto (-15), 3) := by decide +kernel
theorem dX7_init_262 : decode cX7_init 262 = .ok (.return_, 1) := by decide +kernel
theorem dX7_in_0 : decode cX7_in 0 = .ok (.lload_n 0, 1) := by decide +kernel
theorem dX7_in_1 : decode cX7_in 1 = .ok (.lload_n 2, 1) := by decide +kernel
theorem dX7_in_2 : decode cX7_in 2 = .ok (.lcmp, 1) := by decide +kernel
theorem dX7_in_3 : decode cX7_in 3 = .ok (.ifCond .lt 14, 3) := by decide +kernel
theorem dX7_in_6 : decode cX7_in 6 = .ok (.lload_n 0, 1) := by decide +kernel
theorem dX7_in_7 : decode cX7_in 7 = .ok (.lload 4, 2) := by decide +kernel
theorem dX7_in_9 : decode cX7_in 9 = .ok (.lcmp, 1) := by decide +kernel
theorem dX7_in_10 : decode cX7_in 10 = .ok (.ifCond .gt 7, 3) := by decide +kernel
theorem dX7_in_13 : decode cX7_in 13 = .ok (.iconst 1, 1) := by decide +kernel
theorem dX7_in_14 : decode cX7_in 14 = .ok (.goto 4, 3) := by decide +kernel
theorem dX7_in_17 : decode cX7_in 17 = .ok (.iconst 0, 1) := by decide +kernel
theorem dX7_in_18 : decode cX7_in 18 = .ok (.ireturn, 1) := by decide +kernel
theorem dX7_isTwo_0 : decode cX7_isTwo 0 = .ok (.iload_n 0, 1) := by decide +kernel
theorem dX7_isTwo_1 : decode cX7_isTwo 1 = .ok (.i2l, 1) := by decide +kernel
theorem dX7_isTwo_2 : decode cX7_isTwo 2 = .ok (.lconst 0, 1) := by decide +kernel
theorem dX7_isTwo_3 : decode cX7_isTwo 3 = .ok (.lconst 1, 1) := by decide +kernel
theorem dX7_isTwo_4 : decode cX7_isTwo 4 = .ok (.invokestatic 94, 3) := by decide +kernel
theorem dX7_isTwo_7 : decode cX7_isTwo 7 = .ok (.ireturn, 1) := by decide +kernel
theorem dX7_isIn_0 : decode cX7_isIn 0 = .ok (.iload_n 0, 1) := by decide +kernel
theorem dX7_isIn_1 : decode cX7_isIn 1 = .ok (.iload_n 1, 1) := by decide +kernel
theorem dX7_isIn_2 : decode cX7_isIn 2 = .ok (.ishr, 1) := by decide +kernel
theorem dX7_isIn_3 : decode cX7_isIn 3 = .ok (.iconst 1, 1) := by decide +kernel
theorem dX7_isIn_4 : decode cX7_isIn 4 = .ok (.iand, 1) := by decide +kernel
theorem dX7_isIn_5 : decode cX7_isIn 5 = .ok (.iconst 1, 1) := by decide +kernel
theorem dX7_isIn_6 : decode cX7_isIn 6 = .ok (.if_icmp .ne 7, 3) := by decide +kernel
theorem dX7_isIn_9 : decode cX7_isIn 9 = .ok (.iconst 1, 1) := by decide +kernel
theorem dX7_isIn_10 : decode cX7_isIn 10 = .ok (.goto 4, 3) := by decide +kernel
theorem dX7_isIn_13 : decode cX7_isIn 13 = .ok (.iconst 0, 1) := by decide +kernel
theorem dX7_isIn_14 : decode cX7_isIn 14 = .ok (.ireturn, 1) := by decide +kernel
theorem dX7_lesser_0 : decode cX7_lesser 0 = .ok (.iload_n 0, 1) := by decide +kernel
theorem dX7_lesser_1 : decode cX7_lesser 1 = .ok (.iload_n 1, 1) := by decide +kernel
theorem dX7_lesser_2 : decode cX7_lesser 2 = .ok (.if_icmp .ge 7, 3) := by decide +kernel
theorem dX7_lesser_5 : decode cX7_lesser 5 = .ok (.iload_n 0, 1) := by decide +kernel
theorem dX7_lesser_6 : decode cX7_lesser 6 = .ok (.goto 4, 3) := by decide +kernel
theorem dX7_lesser_9 : decode cX7_lesser 9 = .ok (.iload_n 1, 1) := by decide +kernel
theorem dX7_lesser_10 : decode cX7_lesser 10 = .ok (.ireturn, 1) := by decide +kernel
theorem dX7_greater_0 : decode cX7_greater 0 = .ok (.iload_n 0, 1) := by decide +kernel
theorem dX7_greater_1 : decode cX7_greater 1 = .ok (.iload_n 1, 1) := by decide +kernel
theorem dX7_greater_2 : decode cX7_greater 2 = .ok (.if_icmp .le 7, 3) := by decide +kernel
theorem dX7_greater_5 : decode cX7_greater 5 = .ok (.iload_n 0, 1) := by decide +kernel
theorem dX7_greater_6 : decode cX7_greater 6 = .ok (.goto 4, 3) := by decide +kernel
theorem dX7_greater_9 : decode cX7_greater 9 = .ok (.iload_n 1, 1) := by decide +kernel
theorem dX7_greater_10 : decode cX7_greater 10 = .ok (.ireturn, 1) := by decide +kernel
theorem dX7_finds_0 : decode cX7_finds 0 = .ok (.aload_n 0, 1) := by decide +kernel
theorem dX7_finds_1 : decode cX7_finds 1 = .ok (.iload_n 1, 1) := by decide +kernel
theorem dX7_finds_2 : decode cX7_finds 2 = .ok (.putfield 98, 3) := by decide +kernel
theorem dX7_finds_5 : decode cX7_finds 5 = .ok (.bipush (-10), 2) := by decide +kernel
theorem dX7_finds_7 : decode cX7_finds 7 = .ok (.iload_n 1, 1) := by decide +kernel
theorem dX7_finds_8 : decode cX7_finds 8 = .ok (.isub, 1) := by decide +kernel
theorem dX7_finds_9 : decode cX7_finds 9 = .ok (.ireturn, 1) := by decide +kernel
theorem dX7_isSheet_0 : decode cX7_isSheet 0 = .ok (.iload_n 0, 1) := by decide +kernel
theorem dX7_isSheet_1 : decode cX7_isSheet 1 = .ok (.i2l, 1) := by decide +kernel
theorem dX7_isSheet_2 : decode cX7_isSheet 2 = .ok (.lconst 0, 1) := by decide +kernel
theorem dX7_isSheet_3 : decode cX7_isSheet 3 = .ok (.ldc2_w 102, 3) := by decide +kernel
theorem dX7_isSheet_6 : decode cX7_isSheet 6 = .ok (.invokestatic 94, 3) := by decide +kernel
theorem dX7_isSheet_9 : decode cX7_isSheet 9 = .ok (.ireturn, 1) := by decide +kernel
theorem dX7_sheet_0 : decode cX7_sheet 0 = .ok (.iload_n 1, 1) := by decide +kernel
theorem dX7_sheet_1 : decode cX7_sheet 1 = .ok (.invokestatic 104, 3) := by decide +kernel
theorem dX7_sheet_4 : decode cX7_sheet 4 = .ok (.ifCond .eq 21, 3) := by decide +kernel
theorem dX7_sheet_7 : decode cX7_sheet 7 = .ok (.iload_n 2, 1) := by decide +kernel
theorem dX7_sheet_8 : decode cX7_sheet 8 = .ok (.i2l, 1) := by decide +kernel
theorem dX7_sheet_9 : decode cX7_sheet 9 = .ok (.lconst 0, 1) := by decide +kernel
theorem dX7_sheet_10 : decode cX7_sheet 10 = .ok (.ldc2_w 108, 3) := by decide +kernel
theorem dX7_sheet_13 : decode cX7_sheet 13 = .ok (.invokestatic 94, 3) := by decide +kernel
theorem dX7_sheet_16 : decode cX7_sheet 16 = .ok (.ifCond .eq 9, 3) := by decide +kernel
theorem dX7_sheet_19 : decode cX7_sheet 19 = .ok (.iload_n 3, 1) := by decide +kernel
theorem dX7_sheet_20 : decode cX7_sheet 20 = .ok (.bipush 60, 2) := by decide +kernel
theorem dX7_sheet_22 : decode cX7_sheet 22 = .ok (.if_icmp .le 6, 3) := by decide +kernel
theorem dX7_sheet_25 : decode cX7_sheet 25 = .ok (.bipush (-2), 2) := by decide +kernel
theorem dX7_sheet_27 : decode cX7_sheet 27 = .ok (.ireturn, 1) := by decide +kernel
theorem dX7_sheet_28 : decode cX7_sheet 28 = .ok (.iload_n 3, 1) := by decide +kernel
theorem dX7_sheet_29 : decode cX7_sheet 29 = .ok (.ifCond .ge 9, 3) := by decide +kernel
theorem dX7_sheet_32 : decode cX7_sheet 32 = .ok (.aload_n 0, 1) := by decide +kernel
theorem dX7_sheet_33 : decode cX7_sheet 33 = .ok (.iconst 5, 1) := by decide +kernel
theorem dX7_sheet_34 : decode cX7_sheet 34 = .ok (.invokevirtual 110, 3) := by decide +kernel
theorem dX7_sheet_37 : decode cX7_sheet 37 = .ok (.ireturn, 1) := by decide +kernel
theorem dX7_sheet_38 : decode cX7_sheet 38 = .ok (.aload_n 0, 1) := by decide +kernel
theorem dX7_sheet_39 : decode cX7_sheet 39 = .ok (.getfield 7, 3) := by decide +kernel
theorem dX7_sheet_42 : decode cX7_sheet 42 = .ok (.iload_n 1, 1) := by decide +kernel
theorem dX7_sheet_43 : decode cX7_sheet 43 = .ok (.iload_n 2, 1) := by decide +kernel
theorem dX7_sheet_44 : decode cX7_sheet 44 = .ok (.iastore, 1) := by decide +kernel
theorem dX7_sheet_45 : decode cX7_sheet 45 = .ok (.aload_n 0, 1) := by decide +kernel
theorem dX7_sheet_46 : decode cX7_sheet 46 = .ok (.getfield 13, 3) := by decide +kernel
theorem dX7_sheet_49 : decode cX7_sheet 49 = .ok (.iload_n 1, 1) := by decide +kernel
theorem dX7_sheet_50 : decode cX7_sheet 50 = .ok (.iload_n 3, 1) := by decide +kernel
theorem dX7_sheet_51 : decode cX7_sheet 51 = .ok (.iastore, 1) := by decide +kernel
theorem dX7_sheet_52 : decode cX7_sheet 52 = .ok (.iconst 0, 1) := by decide +kernel
theorem dX7_sheet_53 : decode cX7_sheet 53 = .ok (.istore 4, 2) := by decide +kernel
theorem dX7_sheet_55 : decode cX7_sheet 55 = .ok (.iload 4, 2) := by decide +kernel
theorem dX7_sheet_57 : decode cX7_sheet 57 = .ok (.iload_n 3, 1) := by decide +kernel
theorem dX7_sheet_58 : decode cX7_sheet 58 = .ok (.if_icmp .ge 22, 3) := by decide +kernel
theorem dX7_sheet_61 : decode cX7_sheet 61 = .ok (.aload_n 0, 1) := by decide +kernel
theorem dX7_sheet_62 : decode cX7_sheet 62 = .ok (.getfield 16, 3) := by decide +kernel
theorem dX7_sheet_65 : decode cX7_sheet 65 = .ok (.bipush 60, 2) := by decide +kernel
theorem dX7_sheet_67 : decode cX7_sheet 67 = .ok (.iload_n 1, 1) := by decide +kernel
theorem dX7_sheet_68 : decode cX7_sheet 68 = .ok (.imul, 1) := by decide +kernel
theorem dX7_sheet_69 : decode cX7_sheet 69 = .ok (.iload 4, 2) := by decide +kernel
theorem dX7_sheet_71 : decode cX7_sheet 71 = .ok (.iadd, 1) := by decide +kernel
theorem dX7_sheet_72 : decode cX7_sheet 72 = .ok (.iconst 0, 1) := by decide +kernel
theorem dX7_sheet_73 : decode cX7_sheet 73 = .ok (.iastore, 1) := by decide +kernel
theorem dX7_sheet_74 : decode cX7_sheet 74 = .ok (.iinc 4 1, 3) := by decide +kernel
theorem dX7_sheet_77 : decode cX7_sheet 77 = .ok (.goto (-22), 3) := by decide +kernel
theorem dX7_sheet_80 : decode cX7_sheet 80 = .ok (.iload_n 3, 1) := by decide +kernel
theorem dX7_sheet_81 : decode cX7_sheet 81 = .ok (.ireturn, 1) := by decide +kernel
theorem dX7_lose_0 : decode cX7_lose 0 = .ok (.iload_n 1, 1) := by decide +kernel
theorem dX7_lose_1 : decode cX7_lose 1 = .ok (.invokestatic 104, 3) := by decide +kernel
theorem dX7_lose_4 : decode cX7_lose 4 = .ok (.ifCond .ne 6, 3) := by decide +kernel
theorem dX7_lose_7 : decode cX7_lose 7 = .ok (.bipush (-2), 2) := by decide +kernel
theorem dX7_lose_9 : decode cX7_lose 9 = .ok (.ireturn, 1) := by decide +kernel
theorem dX7_lose_10 : decode cX7_lose 10 = .ok (.aload_n 0, 1) := by decide +kernel
theorem dX7_lose_11 : decode cX7_lose 11 = .ok (.getfield 7, 3) := by decide +kernel
theorem dX7_lose_14 : decode cX7_lose 14 = .ok (.iload_n 1, 1) := by decide +kernel
theorem dX7_lose_15 : decode cX7_lose 15 = .ok (.iaload, 1) := by decide +kernel
theorem dX7_lose_16 : decode cX7_lose 16 = .ok (.ifCond .ge 9, 3) := by decide +kernel
theorem dX7_lose_19 : decode cX7_lose 19 = .ok (.aload_n 0, 1) := by decide +kernel
theorem dX7_lose_20 : decode cX7_lose 20 = .ok (.iconst 1, 1) := by decide +kernel
theorem dX7_lose_21 : decode cX7_lose 21 = .ok (.invokevirtual 110, 3) := by decide +kernel
theorem dX7_lose_24 : decode cX7_lose 24 = .ok (.ireturn, 1) := by decide +kernel
theorem dX7_lose_25 : decode cX7_lose 25 = .ok (.aload_n 0, 1) := by decide +kernel
theorem dX7_lose_26 : decode cX7_lose 26 = .ok (.getfield 7, 3) := by decide +kernel
theorem dX7_lose_29 : decode cX7_lose 29 = .ok (.iload_n 1, 1) := by decide +kernel
theorem dX7_lose_30 : decode cX7_lose 30 = .ok (.iconst (-1), 1) := by decide +kernel
theorem dX7_lose_31 : decode cX7_lose 31 = .ok (.iastore, 1) := by decide +kernel
theorem dX7_lose_32 : decode cX7_lose 32 = .ok (.aload_n 0, 1) := by decide +kernel
theorem dX7_lose_33 : decode cX7_lose 33 = .ok (.getfield 13, 3) := by decide +kernel
theorem dX7_lose_36 : decode cX7_lose 36 = .ok (.iload_n 1, 1) := by decide +kernel
theorem dX7_lose_37 : decode cX7_lose 37 = .ok (.iaload, 1) := by decide +kernel
theorem dX7_lose_38 : decode cX7_lose 38 = .ok (.ireturn, 1) := by decide +kernel
theorem dX7_lacks_0 : decode cX7_lacks 0 = .ok (.aload_n 0, 1) := by decide +kernel
theorem dX7_lacks_1 : decode cX7_lacks 1 = .ok (.getfield 7, 3) := by decide +kernel
theorem dX7_lacks_4 : decode cX7_lacks 4 = .ok (.iload_n 1, 1) := by decide +kernel
theorem dX7_lacks_5 : decode cX7_lacks 5 = .ok (.iaload, 1) := by decide +kernel
theorem dX7_lacks_6 : decode cX7_lacks 6 = .ok (.ifCond .ge 9, 3) := by decide +kernel
theorem dX7_lacks_9 : decode cX7_lacks 9 = .ok (.aload_n 0, 1) := by decide +kernel
theorem dX7_lacks_10 : decode cX7_lacks 10 = .ok (.iconst 1, 1) := by decide +kernel
theorem dX7_lacks_11 : decode cX7_lacks 11 = .ok (.invokevirtual 110, 3) := by decide +kernel
theorem dX7_lacks_14 : decode cX7_lacks 14 = .ok (.ireturn, 1) := by decide +kernel
theorem dX7_lacks_15 : decode cX7_lacks 15 = .ok (.aload_n 0, 1) := by decide +kernel
theorem dX7_lacks_16 : decode cX7_lacks 16 = .ok (.getfield 7, 3) := by decide +kernel
theorem dX7_lacks_19 : decode cX7_lacks 19 = .ok (.iload_n 1, 1) := by decide +kernel
theorem dX7_lacks_20 : decode cX7_lacks 20 = .ok (.iaload, 1) := by decide +kernel
theorem dX7_lacks_21 : decode cX7_lacks 21 = .ok (.iload_n 2, 1) := by decide +kernel
theorem dX7_lacks_22 : decode cX7_lacks 22 = .ok (.if_icmp .eq 9, 3) := by decide +kernel
theorem dX7_lacks_25 : decode cX7_lacks 25 = .ok (.aload_n 0, 1) := by decide +kernel
theorem dX7_lacks_26 : decode cX7_lacks 26 = .ok (.iconst 3, 1) := by decide +kernel
theorem dX7_lacks_27 : decode cX7_lacks 27 = .ok (.invokevirtual 110, 3) := by decide +kernel
theorem dX7_lacks_30 : decode cX7_lacks 30 = .ok (.ireturn, 1) := by decide +kernel
theorem dX7_lacks_31 : decode cX7_lacks 31 = .ok (.iload_n 3, 1) := by decide +kernel
theorem dX7_lacks_32 : decode cX7_lacks 32 = .ok (.i2l, 1) := by decide +kernel
theorem dX7_lacks_33 : decode cX7_lacks 33 = .ok (.lconst 0, 1) := by decide +kernel
theorem dX7_lacks_34 : decode cX7_lacks 34 = .ok (.aload_n 0, 1) := by decide +kernel
theorem dX7_lacks_35 : decode cX7_lacks 35 = .ok (.getfield 13, 3) := by decide +kernel
theorem dX7_lacks_38 : decode cX7_lacks 38 = .ok (.iload_n 1, 1) := by decide +kernel
theorem dX7_lacks_39 : decode cX7_lacks 39 = .ok (.iaload, 1) := by decide +kernel
theorem dX7_lacks_40 : decode cX7_lacks 40 = .ok (.iconst 1, 1) := by decide +kernel
theorem dX7_lacks_41 : decode cX7_lacks 41 = .ok (.isub, 1) := by decide +kernel
theorem dX7_lacks_42 : decode cX7_lacks 42 = .ok (.i2l, 1) := by decide +kernel
theorem dX7_lacks_43 : decode cX7_lacks 43 = .ok (.invokestatic 94, 3) := by decide +kernel
theorem dX7_lacks_46 : decode cX7_lacks 46 = .ok (.ifCond .eq 7, 3) := by decide +kernel
theorem dX7_lacks_49 : decode cX7_lacks 49 = .ok (.iconst 0, 1) := by decide +kernel
theorem dX7_lacks_50 : decode cX7_lacks 50 = .ok (.goto 8, 3) := by decide +kernel
theorem dX7_lacks_53 : decode cX7_lacks 53 = .ok (.aload_n 0, 1) := by decide +kernel
theorem dX7_lacks_54 : decode cX7_lacks 54 = .ok (.iconst 2, 1) := by decide +kernel
theorem dX7_lacks_55 : decode cX7_lacks 55 = .ok (.invokevirtual 110, 3) := by decide +kernel
theorem dX7_lacks_58 : decode cX7_lacks 58 = .ok (.ireturn, 1) := by decide +kernel
theorem dX7_cut_0 : decode cX7_cut 0 = .ok (.iload_n 0, 1) := by decide +kernel
theorem dX7_cut_1 : decode cX7_cut 1 = .ok (.ifCond .ne 8, 3) := by decide +kernel
theorem dX7_cut_4 : decode cX7_cut 4 = .ok (.iload_n 1, 1) := by decide +kernel
theorem dX7_cut_5 : decode cX7_cut 5 = .ok (.i2b, 1) := by decide +kernel
theorem dX7_cut_6 : decode cX7_cut 6 = .ok (.goto 14, 3) := by decide +kernel
theorem dX7_cut_9 : decode cX7_cut 9 = .ok (.iload_n 0, 1) := by decide +kernel
theorem dX7_cut_10 : decode cX7_cut 10 = .ok (.iconst 1, 1) := by decide +kernel
theorem dX7_cut_11 : decode cX7_cut 11 = .ok (.if_icmp .ne 8, 3) := by decide +kernel
theorem dX7_cut_14 : decode cX7_cut 14 = .ok (.iload_n 1, 1) := by decide +kernel
theorem dX7_cut_15 : decode cX7_cut 15 = .ok (.i2s, 1) := by decide +kernel
theorem dX7_cut_16 : decode cX7_cut 16 = .ok (.goto 4, 3) := by decide +kernel
theorem dX7_cut_19 : decode cX7_cut 19 = .ok (.iload_n 1, 1) := by decide +kernel
theorem dX7_cut_20 : decode cX7_cut 20 = .ok (.ireturn, 1) := by decide +kernel
theorem dX7_lay_0 : decode cX7_lay 0 = .ok (.iload_n 1, 1) := by decide +kernel
theorem dX7_lay_1 : decode cX7_lay 1 = .ok (.invokestatic 104, 3) := by decide +kernel
theorem dX7_lay_4 : decode cX7_lay 4 = .ok (.ifCond .eq 15, 3) := by decide +kernel
theorem dX7_lay_7 : decode cX7_lay 7 = .ok (.iload_n 2, 1) := by decide +kernel
theorem dX7_lay_8 : decode cX7_lay 8 = .ok (.i2l, 1) := by decide +kernel
theorem dX7_lay_9 : decode cX7_lay 9 = .ok (.lconst 0, 1) := by decide +kernel
theorem dX7_lay_10 : decode cX7_lay 10 = .ok (.ldc2_w 108, 3) := by decide +kernel
theorem dX7_lay_13 : decode cX7_lay 13 = .ok (.invokestatic 94, 3) := by decide +kernel
theorem dX7_lay_16 : decode cX7_lay 16 = .ok (.ifCond .ne 6, 3) := by decide +kernel
theorem dX7_lay_19 : decode cX7_lay 19 = .ok (.bipush (-2), 2) := by decide +kernel
theorem dX7_lay_21 : decode cX7_lay 21 = .ok (.ireturn, 1) := by decide +kernel
theorem dX7_lay_22 : decode cX7_lay 22 = .ok (.aload_n 0, 1) := by decide +kernel
theorem dX7_lay_23 : decode cX7_lay 23 = .ok (.iload_n 1, 1) := by decide +kernel
theorem dX7_lay_24 : decode cX7_lay 24 = .ok (.iload_n 2, 1) := by decide +kernel
theorem dX7_lay_25 : decode cX7_lay 25 = .ok (.iload_n 3, 1) := by decide +kernel
theorem dX7_lay_26 : decode cX7_lay 26 = .ok (.invokevirtual 114, 3) := by decide +kernel
theorem dX7_lay_29 : decode cX7_lay 29 = .ok (.istore 5, 2) := by decide +kernel
theorem dX7_lay_31 : decode cX7_lay 31 = .ok (.iload 5, 2) := by decide +kernel
theorem dX7_lay_33 : decode cX7_lay 33 = .ok (.ifCond .eq 6, 3) := by decide +kernel
theorem dX7_lay_36 : decode cX7_lay 36 = .ok (.iload 5, 2) := by decide +kernel
theorem dX7_lay_38 : decode cX7_lay 38 = .ok (.ireturn, 1) := by decide +kernel
theorem dX7_lay_39 : decode cX7_lay 39 = .ok (.aload_n 0, 1) := by decide +kernel
theorem dX7_lay_40 : decode cX7_lay 40 = .ok (.getfield 16, 3) := by decide +kernel
theorem dX7_lay_43 : decode cX7_lay 43 = .ok (.bipush 60, 2) := by decide +kernel
theorem dX7_lay_45 : decode cX7_lay 45 = .ok (.iload_n 1, 1) := by decide +kernel
theorem dX7_lay_46 : decode cX7_lay 46 = .ok (.imul, 1) := by decide +kernel
theorem dX7_lay_47 : decode cX7_lay 47 = .ok (.iload_n 3, 1) := by decide +kernel
theorem dX7_lay_48 : decode cX7_lay 48 = .ok (.iadd, 1) := by decide +kernel
theorem dX7_lay_49 : decode cX7_lay 49 = .ok (.iload_n 2, 1) := by decide +kernel
theorem dX7_lay_50 : decode cX7_lay 50 = .ok (.iload 4, 2) := by decide +kernel
theorem dX7_lay_52 : decode cX7_lay 52 = .ok (.invokestatic 118, 3) := by decide +kernel
theorem dX7_lay_55 : decode cX7_lay 55 = .ok (.iastore, 1) := by decide +kernel
theorem dX7_lay_56 : decode cX7_lay 56 = .ok (.iconst 1, 1) := by decide +kernel
theorem dX7_lay_57 : decode cX7_lay 57 = .ok (.ireturn, 1) := by decide +kernel
theorem dX7_get_0 : decode cX7_get 0 = .ok (.iload_n 1, 1) := by decide +kernel
theorem dX7_get_1 : decode cX7_get 1 = .ok (.invokestatic 104, 3) := by decide +kernel
theorem dX7_get_4 : decode cX7_get 4 = .ok (.ifCond .eq 25, 3) := by decide +kernel
theorem dX7_get_7 : decode cX7_get 7 = .ok (.iload_n 2, 1) := by decide +kernel
theorem dX7_get_8 : decode cX7_get 8 = .ok (.i2l, 1) := by decide +kernel
theorem dX7_get_9 : decode cX7_get 9 = .ok (.lconst 0, 1) := by decide +kernel
theorem dX7_get_10 : decode cX7_get 10 = .ok (.ldc2_w 108, 3) := by decide +kernel
theorem dX7_get_13 : decode cX7_get 13 = .ok (.invokestatic 94, 3) := by decide +kernel
theorem dX7_get_16 : decode cX7_get 16 = .ok (.ifCond .eq 13, 3) := by decide +kernel
theorem dX7_get_19 : decode cX7_get 19 = .ok (.aload_n 0, 1) := by decide +kernel
theorem dX7_get_20 : decode cX7_get 20 = .ok (.iload_n 1, 1) := by decide +kernel
theorem dX7_get_21 : decode cX7_get 21 = .ok (.iload_n 2, 1) := by decide +kernel
theorem dX7_get_22 : decode cX7_get 22 = .ok (.iload_n 3, 1) := by decide +kernel
theorem dX7_get_23 : decode cX7_get 23 = .ok (.invokevirtual 114, 3) := by decide +kernel
theorem dX7_get_26 : decode cX7_get 26 = .ok (.ifCond .eq 6, 3) := by decide +kernel
theorem dX7_get_29 : decode cX7_get 29 = .ok (.ldc 122, 2) := by decide +kernel
theorem dX7_get_31 : decode cX7_get 31 = .ok (.ireturn, 1) := by decide +kernel
theorem dX7_get_32 : decode cX7_get 32 = .ok (.aload_n 0, 1) := by decide +kernel
theorem dX7_get_33 : decode cX7_get 33 = .ok (.getfield 16, 3) := by decide +kernel
theorem dX7_get_36 : decode cX7_get 36 = .ok (.bipush 60, 2) := by decide +kernel
theorem dX7_get_38 : decode cX7_get 38 = .ok (.iload_n 1, 1) := by decide +kernel
theorem dX7_get_39 : decode cX7_get 39 = .ok (.imul, 1) := by decide +kernel
theorem dX7_get_40 : decode cX7_get 40 = .ok (.iload_n 3, 1) := by decide +kernel
theorem dX7_get_41 : decode cX7_get 41 = .ok (.iadd, 1) := by decide +kernel
theorem dX7_get_42 : decode cX7_get 42 = .ok (.iaload, 1) := by decide +kernel
theorem dX7_get_43 : decode cX7_get 43 = .ok (.ireturn, 1) := by decide +kernel
theorem dX7_copy_0 : decode cX7_copy 0 = .ok (.iload_n 1, 1) := by decide +kernel
theorem dX7_copy_1 : decode cX7_copy 1 = .ok (.invokestatic 104, 3) := by decide +kernel
theorem dX7_copy_4 : decode cX7_copy 4 = .ok (.ifCond .eq 10, 3) := by decide +kernel
theorem dX7_copy_7 : decode cX7_copy 7 = .ok (.iload_n 3, 1) := by decide +kernel
theorem dX7_copy_8 : decode cX7_copy 8 = .ok (.invokestatic 104, 3) := by decide +kernel
theorem dX7_copy_11 : decode cX7_copy 11 = .ok (.ifCond .ne 6, 3) := by decide +kernel
theorem dX7_copy_14 : decode cX7_copy 14 = .ok (.bipush (-2), 2) := by decide +kernel
theorem dX7_copy_16 : decode cX7_copy 16 = .ok (.ireturn, 1) := by decide +kernel
theorem dX7_copy_17 : decode cX7_copy 17 = .ok (.aload_n 0, 1) := by decide +kernel
theorem dX7_copy_18 : decode cX7_copy 18 = .ok (.getfield 7, 3) := by decide +kernel
theorem dX7_copy_21 : decode cX7_copy 21 = .ok (.iload_n 1, 1) := by decide +kernel
theorem dX7_copy_22 : decode cX7_copy 22 = .ok (.iaload, 1) := by decide +kernel
theorem dX7_copy_23 : decode cX7_copy 23 = .ok (.ifCond .lt 12, 3) := by decide +kernel
theorem dX7_copy_26 : decode cX7_copy 26 = .ok (.aload_n 0, 1) := by decide +kernel
theorem dX7_copy_27 : decode cX7_copy 27 = .ok (.getfield 7, 3) := by decide +kernel
theorem dX7_copy_30 : decode cX7_copy 30 = .ok (.iload_n 3, 1) := by decide +kernel
theorem dX7_copy_31 : decode cX7_copy 31 = .ok (.iaload, 1) := by decide +kernel
theorem dX7_copy_32 : decode cX7_copy 32 = .ok (.ifCond .ge 9, 3) := by decide +kernel
theorem dX7_copy_35 : decode cX7_copy 35 = .ok (.aload_n 0, 1) := by decide +kernel
theorem dX7_copy_36 : decode cX7_copy 36 = .ok (.iconst 1, 1) := by decide +kernel
theorem dX7_copy_37 : decode cX7_copy 37 = .ok (.invokevirtual 110, 3) := by decide +kernel
theorem dX7_copy_40 : decode cX7_copy 40 = .ok (.ireturn, 1) := by decide +kernel
theorem dX7_copy_41 : decode cX7_copy 41 = .ok (.aload_n 0, 1) := by decide +kernel
theorem dX7_copy_42 : decode cX7_copy 42 = .ok (.getfield 7, 3) := by decide +kernel
theorem dX7_copy_45 : decode cX7_copy 45 = .ok (.iload_n 1, 1) := by decide +kernel
theorem dX7_copy_46 : decode cX7_copy 46 = .ok (.iaload, 1) := by decide +kernel
theorem dX7_copy_47 : decode cX7_copy 47 = .ok (.aload_n 0, 1) := by decide +kernel
theorem dX7_copy_48 : decode cX7_copy 48 = .ok (.getfield 7, 3) := by decide +kernel
theorem dX7_copy_51 : decode cX7_copy 51 = .ok (.iload_n 3, 1) := by decide +kernel
theorem dX7_copy_52 : decode cX7_copy 52 = .ok (.iaload, 1) := by decide +kernel
theorem dX7_copy_53 : decode cX7_copy 53 = .ok (.if_icmp .eq 9, 3) := by decide +kernel
theorem dX7_copy_56 : decode cX7_copy 56 = .ok (.aload_n 0, 1) := by decide +kernel
theorem dX7_copy_57 : decode cX7_copy 57 = .ok (.iconst 4, 1) := by decide +kernel
theorem dX7_copy_58 : decode cX7_copy 58 = .ok (.invokevirtual 110, 3) := by decide +kernel
theorem dX7_copy_61 : decode cX7_copy 61 = .ok (.ireturn, 1) := by decide +kernel
theorem dX7_copy_62 : decode cX7_copy 62 = .ok (.iload_n 2, 1) := by decide +kernel
theorem dX7_copy_63 : decode cX7_copy 63 = .ok (.ifCond .lt 48, 3) := by decide +kernel
theorem dX7_copy_66 : decode cX7_copy 66 = .ok (.iload 4, 2) := by decide +kernel
theorem dX7_copy_68 : decode cX7_copy 68 = .ok (.ifCond .lt 43, 3) := by decide +kernel
theorem dX7_copy_71 : decode cX7_copy 71 = .ok (.iload 5, 2) := by decide +kernel
theorem dX7_copy_73 : decode cX7_copy 73 = .ok (.ifCond .lt 38, 3) := by decide +kernel
theorem dX7_copy_76 : decode cX7_copy 76 = .ok (.iload_n 2, 1) := by decide +kernel
theorem dX7_copy_77 : decode cX7_copy 77 = .ok (.i2l, 1) := by decide +kernel
theorem dX7_copy_78 : decode cX7_copy 78 = .ok (.iload 5, 2) := by decide +kernel
theorem dX7_copy_80 : decode cX7_copy 80 = .ok (.i2l, 1) := by decide +kernel
theorem dX7_copy_81 : decode cX7_copy 81 = .ok (.ladd, 1) := by decide +kernel
theorem dX7_copy_82 : decode cX7_copy 82 = .ok (.aload_n 0, 1) := by decide +kernel
theorem dX7_copy_83 : decode cX7_copy 83 = .ok (.getfield 13, 3) := by decide +kernel
theorem dX7_copy_86 : decode cX7_copy 86 = .ok (.iload_n 1, 1) := by decide +kernel
theorem dX7_copy_87 : decode cX7_copy 87 = .ok (.iaload, 1) := by decide +kernel
theorem dX7_copy_88 : decode cX7_copy 88 = .ok (.i2l, 1) := by decide +kernel
theorem dX7_copy_89 : decode cX7_copy 89 = .ok (.lcmp, 1) := by decide +kernel
theorem dX7_copy_90 : decode cX7_copy 90 = .ok (.ifCond .gt 21, 3) := by decide +kernel
theorem dX7_copy_93 : decode cX7_copy 93 = .ok (.iload 4, 2) := by decide +kernel
theorem dX7_copy_95 : decode cX7_copy 95 = .ok (.i2l, 1) := by decide +kernel
theorem dX7_copy_96 : decode cX7_copy 96 = .ok (.iload 5, 2) := by decide +kernel
theorem dX7_copy_98 : decode cX7_copy 98 = .ok (.i2l, 1) := by decide +kernel
theorem dX7_copy_99 : decode cX7_copy 99 = .ok (.ladd, 1) := by decide +kernel
theorem dX7_copy_100 : decode cX7_copy 100 = .ok (.aload_n 0, 1) := by decide +kernel
theorem dX7_copy_101 : decode cX7_copy 101 = .ok (.getfield 13, 3) := by decide +kernel
theorem dX7_copy_104 : decode cX7_copy 104 = .ok (.iload_n 3, 1) := by decide +kernel
theorem dX7_copy_105 : decode cX7_copy 105 = .ok (.iaload, 1) := by decide +kernel
theorem dX7_copy_106 : decode cX7_copy 106 = .ok (.i2l, 1) := by decide +kernel
theorem dX7_copy_107 : decode cX7_copy 107 = .ok (.lcmp, 1) := by decide +kernel
theorem dX7_copy_108 : decode cX7_copy 108 = .ok (.ifCond .le 9, 3) := by decide +kernel
theorem dX7_copy_111 : decode cX7_copy 111 = .ok (.aload_n 0, 1) := by decide +kernel
theorem dX7_copy_112 : decode cX7_copy 112 = .ok (.iconst 2, 1) := by decide +kernel
theorem dX7_copy_113 : decode cX7_copy 113 = .ok (.invokevirtual 110, 3) := by decide +kernel
theorem dX7_copy_116 : decode cX7_copy 116 = .ok (.ireturn, 1) := by decide +kernel
theorem dX7_copy_117 : decode cX7_copy 117 = .ok (.iconst 0, 1) := by decide +kernel
theorem dX7_copy_118 : decode cX7_copy 118 = .ok (.istore 6, 2) := by decide +kernel
theorem dX7_copy_120 : decode cX7_copy 120 = .ok (.iload 6, 2) := by decide +kernel
theorem dX7_copy_122 : decode cX7_copy 122 = .ok (.iload 5, 2) := by decide +kernel
theorem dX7_copy_124 : decode cX7_copy 124 = .ok (.if_icmp .ge 30, 3) := by decide +kernel
theorem dX7_copy_127 : decode cX7_copy 127 = .ok (.aload_n 0, 1) := by decide +kernel
theorem dX7_copy_128 : decode cX7_copy 128 = .ok (.getfield 19, 3) := by decide +kernel
theorem dX7_copy_131 : decode cX7_copy 131 = .ok (.iload 6, 2) := by decide +kernel
theorem dX7_copy_133 : decode cX7_copy 133 = .ok (.aload_n 0, 1) := by decide +kernel
theorem dX7_copy_134 : decode cX7_copy 134 = .ok (.getfield 16, 3) := by decide +kernel
theorem dX7_copy_137 : decode cX7_copy 137 = .ok (.bipush 60, 2) := by decide +kernel
theorem dX7_copy_139 : decode cX7_copy 139 = .ok (.iload_n 1, 1) := by decide +kernel
theorem dX7_copy_140 : decode cX7_copy 140 = .ok (.imul, 1) := by decide +kernel
theorem dX7_copy_141 : decode cX7_copy 141 = .ok (.iload_n 2, 1) := by decide +kernel
theorem dX7_copy_142 : decode cX7_copy 142 = .ok (.iadd, 1) := by decide +kernel
theorem dX7_copy_143 : decode cX7_copy 143 = .ok (.iload 6, 2) := by decide +kernel
theorem dX7_copy_145 : decode cX7_copy 145 = .ok (.iadd, 1) := by decide +kernel
theorem dX7_copy_146 : decode cX7_copy 146 = .ok (.iaload, 1) := by decide +kernel
theorem dX7_copy_147 : decode cX7_copy 147 = .ok (.iastore, 1) := by decide +kernel
theorem dX7_copy_148 : decode cX7_copy 148 = .ok (.iinc 6 1, 3) := by decide +kernel
theorem dX7_copy_151 : decode cX7_copy 151 = .ok (.goto (-31), 3) := by decide +kernel
theorem dX7_copy_154 : decode cX7_copy 154 = .ok (.iconst 0, 1) := by decide +kernel
theorem dX7_copy_155 : decode cX7_copy 155 = .ok (.istore 6, 2) := by decide +kernel
theorem dX7_copy_157 : decode cX7_copy 157 = .ok (.iload 6, 2) := by decide +kernel
theorem dX7_copy_159 : decode cX7_copy 159 = .ok (.iload 5, 2) := by decide +kernel
theorem dX7_copy_161 : decode cX7_copy 161 = .ok (.if_icmp .ge 31, 3) := by decide +kernel
theorem dX7_copy_164 : decode cX7_copy 164 = .ok (.aload_n 0, 1) := by decide +kernel
theorem dX7_copy_165 : decode cX7_copy 165 = .ok (.getfield 16, 3) := by decide +kernel
theorem dX7_copy_168 : decode cX7_copy 168 = .ok (.bipush 60, 2) := by decide +kernel
theorem dX7_copy_170 : decode cX7_copy 170 = .ok (.iload_n 3, 1) := by decide +kernel
theorem dX7_copy_171 : decode cX7_copy 171 = .ok (.imul, 1) := by decide +kernel
theorem dX7_copy_172 : decode cX7_copy 172 = .ok (.iload 4, 2) := by decide +kernel
theorem dX7_copy_174 : decode cX7_copy 174 = .ok (.iadd, 1) := by decide +kernel
theorem dX7_copy_175 : decode cX7_copy 175 = .ok (.iload 6, 2) := by decide +kernel
theorem dX7_copy_177 : decode cX7_copy 177 = .ok (.iadd, 1) := by decide +kernel
theorem dX7_copy_178 : decode cX7_copy 178 = .ok (.aload_n 0, 1) := by decide +kernel
theorem dX7_copy_179 : decode cX7_copy 179 = .ok (.getfield 19, 3) := by decide +kernel
theorem dX7_copy_182 : decode cX7_copy 182 = .ok (.iload 6, 2) := by decide +kernel
theorem dX7_copy_184 : decode cX7_copy 184 = .ok (.iaload, 1) := by decide +kernel
theorem dX7_copy_185 : decode cX7_copy 185 = .ok (.iastore, 1) := by decide +kernel
theorem dX7_copy_186 : decode cX7_copy 186 = .ok (.iinc 6 1, 3) := by decide +kernel
theorem dX7_copy_189 : decode cX7_copy 189 = .ok (.goto (-32), 3) := by decide +kernel
theorem dX7_copy_192 : decode cX7_copy 192 = .ok (.iconst 1, 1) := by decide +kernel
theorem dX7_copy_193 : decode cX7_copy 193 = .ok (.ireturn, 1) := by decide +kernel
theorem dX7_image_0 : decode cX7_image 0 = .ok (.iload_n 0, 1) := by decide +kernel
theorem dX7_image_1 : decode cX7_image 1 = .ok (.iconst 3, 1) := by decide +kernel
theorem dX7_image_2 : decode cX7_image 2 = .ok (.iload_n 1, 1) := by decide +kernel
theorem dX7_image_3 : decode cX7_image 3 = .ok (.imul, 1) := by decide +kernel
theorem dX7_image_4 : decode cX7_image 4 = .ok (.ishr, 1) := by decide +kernel
theorem dX7_image_5 : decode cX7_image 5 = .ok (.bipush 7, 2) := by decide +kernel
theorem dX7_image_7 : decode cX7_image 7 = .ok (.iand, 1) := by decide +kernel
theorem dX7_image_8 : decode cX7_image 8 = .ok (.ireturn, 1) := by decide +kernel
theorem dX7_behind_0 : decode cX7_behind 0 = .ok (.iconst 0, 1) := by decide +kernel
theorem dX7_behind_1 : decode cX7_behind 1 = .ok (.istore_n 2, 1) := by decide +kernel
theorem dX7_behind_2 : decode cX7_behind 2 = .ok (.iconst 0, 1) := by decide +kernel
theorem dX7_behind_3 : decode cX7_behind 3 = .ok (.istore_n 3, 1) := by decide +kernel
theorem dX7_behind_4 : decode cX7_behind 4 = .ok (.iload_n 3, 1) := by decide +kernel
theorem dX7_behind_5 : decode cX7_behind 5 = .ok (.bipush 6, 2) := by decide +kernel
theorem dX7_behind_7 : decode cX7_behind 7 = .ok (.if_icmp .ge 25, 3) := by decide +kernel
theorem dX7_behind_10 : decode cX7_behind 10 = .ok (.iload_n 2, 1) := by decide +kernel
theorem dX7_behind_11 : decode cX7_behind 11 = .ok (.iload_n 0, 1) := by decide +kernel
theorem dX7_behind_12 : decode cX7_behind 12 = .ok (.iload_n 1, 1) := by decide +kernel
theorem dX7_behind_13 : decode cX7_behind 13 = .ok (.iload_n 3, 1) := by decide +kernel
theorem dX7_behind_14 : decode cX7_behind 14 = .ok (.invokestatic 123, 3) := by decide +kernel
theorem dX7_behind_17 : decode cX7_behind 17 = .ok (.invokestatic 123, 3) := by decide +kernel
theorem dX7_behind_20 : decode cX7_behind 20 = .ok (.iconst 3, 1) := by decide +kernel
theorem dX7_behind_21 : decode cX7_behind 21 = .ok (.iload_n 3, 1) := by decide +kernel
theorem dX7_behind_22 : decode cX7_behind 22 = .ok (.imul, 1) := by decide +kernel
theorem dX7_behind_23 : decode cX7_behind 23 = .ok (.ishl, 1) := by decide +kernel
theorem dX7_behind_24 : decode cX7_behind 24 = .ok (.ior, 1) := by decide +kernel
theorem dX7_behind_25 : decode cX7_behind 25 = .ok (.istore_n 2, 1) := by decide +kernel
theorem dX7_behind_26 : decode cX7_behind 26 = .ok (.iinc 3 1, 3) := by decide +kernel
theorem dX7_behind_29 : decode cX7_behind 29 = .ok (.goto (-25), 3) := by decide +kernel
theorem dX7_behind_32 : decode cX7_behind 32 = .ok (.iload_n 2, 1) := by decide +kernel
theorem dX7_behind_33 : decode cX7_behind 33 = .ok (.ireturn, 1) := by decide +kernel
theorem dX7_turnedBack_0 : decode cX7_turnedBack 0 = .ok (.iconst 0, 1) := by decide +kernel
theorem dX7_turnedBack_1 : decode cX7_turnedBack 1 = .ok (.istore_n 1, 1) := by decide +kernel
theorem dX7_turnedBack_2 : decode cX7_turnedBack 2 = .ok (.iconst 0, 1) := by decide +kernel
theorem dX7_turnedBack_3 : decode cX7_turnedBack 3 = .ok (.istore_n 2, 1) := by decide +kernel
theorem dX7_turnedBack_4 : decode cX7_turnedBack 4 = .ok (.iload_n 2, 1) := by decide +kernel
theorem dX7_turnedBack_5 : decode cX7_turnedBack 5 = .ok (.bipush 6, 2) := by decide +kernel
theorem dX7_turnedBack_7 : decode cX7_turnedBack 7 = .ok (.if_icmp .ge 21, 3) := by decide +kernel
theorem dX7_turnedBack_10 : decode cX7_turnedBack 10 = .ok (.iload_n 1, 1) := by decide +kernel
theorem dX7_turnedBack_11 : decode cX7_turnedBack 11 = .ok (.iload_n 2, 1) := by decide +kernel
theorem dX7_turnedBack_12 : decode cX7_turnedBack 12 = .ok (.iconst 3, 1) := by decide +kernel
theorem dX7_turnedBack_13 : decode cX7_turnedBack 13 = .ok (.iload_n 0, 1) := by decide +kernel
theorem dX7_turnedBack_14 : decode cX7_turnedBack 14 = .ok (.iload_n 2, 1) := by decide +kernel
theorem dX7_turnedBack_15 : decode cX7_turnedBack 15 = .ok (.invokestatic 123, 3) := by decide +kernel
theorem dX7_turnedBack_18 : decode cX7_turnedBack 18 = .ok (.imul, 1) := by decide +kernel
theorem dX7_turnedBack_19 : decode cX7_turnedBack 19 = .ok (.ishl, 1) := by decide +kernel
theorem dX7_turnedBack_20 : decode cX7_turnedBack 20 = .ok (.ior, 1) := by decide +kernel
theorem dX7_turnedBack_21 : decode cX7_turnedBack 21 = .ok (.istore_n 1, 1) := by decide +kernel
theorem dX7_turnedBack_22 : decode cX7_turnedBack 22 = .ok (.iinc 2 1, 3) := by decide +kernel
theorem dX7_turnedBack_25 : decode cX7_turnedBack 25 = .ok (.goto (-21), 3) := by decide +kernel
theorem dX7_turnedBack_28 : decode cX7_turnedBack 28 = .ok (.iload_n 1, 1) := by decide +kernel
theorem dX7_turnedBack_29 : decode cX7_turnedBack 29 = .ok (.ireturn, 1) := by decide +kernel
theorem dX7_swap_0 : decode cX7_swap 0 = .ok (.iconst 0, 1) := by decide +kernel
theorem dX7_swap_1 : decode cX7_swap 1 = .ok (.istore_n 2, 1) := by decide +kernel
theorem dX7_swap_2 : decode cX7_swap 2 = .ok (.iconst 0, 1) := by decide +kernel
theorem dX7_swap_3 : decode cX7_swap 3 = .ok (.istore_n 3, 1) := by decide +kernel
theorem dX7_swap_4 : decode cX7_swap 4 = .ok (.iload_n 3, 1) := by decide +kernel
theorem dX7_swap_5 : decode cX7_swap 5 = .ok (.bipush 6, 2) := by decide +kernel
theorem dX7_swap_7 : decode cX7_swap 7 = .ok (.if_icmp .ge 35, 3) := by decide +kernel
theorem dX7_swap_10 : decode cX7_swap 10 = .ok (.iload_n 2, 1) := by decide +kernel
theorem dX7_swap_11 : decode cX7_swap 11 = .ok (.iload_n 3, 1) := by decide +kernel
theorem dX7_swap_12 : decode cX7_swap 12 = .ok (.iload_n 0, 1) := by decide +kernel
theorem dX7_swap_13 : decode cX7_swap 13 = .ok (.if_icmp .ne 7, 3) := by decide +kernel
theorem dX7_swap_16 : decode cX7_swap 16 = .ok (.iload_n 1, 1) := by decide +kernel
theorem dX7_swap_17 : decode cX7_swap 17 = .ok (.goto 13, 3) := by decide +kernel
theorem dX7_swap_20 : decode cX7_swap 20 = .ok (.iload_n 3, 1) := by decide +kernel
theorem dX7_swap_21 : decode cX7_swap 21 = .ok (.iload_n 1, 1) := by decide +kernel
theorem dX7_swap_22 : decode cX7_swap 22 = .ok (.if_icmp .ne 7, 3) := by decide +kernel
theorem dX7_swap_25 : decode cX7_swap 25 = .ok (.iload_n 0, 1) := by decide +kernel
theorem dX7_swap_26 : decode cX7_swap 26 = .ok (.goto 4, 3) := by decide +kernel
theorem dX7_swap_29 : decode cX7_swap 29 = .ok (.iload_n 3, 1) := by decide +kernel
theorem dX7_swap_30 : decode cX7_swap 30 = .ok (.iconst 3, 1) := by decide +kernel
theorem dX7_swap_31 : decode cX7_swap 31 = .ok (.iload_n 3, 1) := by decide +kernel
theorem dX7_swap_32 : decode cX7_swap 32 = .ok (.imul, 1) := by decide +kernel
theorem dX7_swap_33 : decode cX7_swap 33 = .ok (.ishl, 1) := by decide +kernel
theorem dX7_swap_34 : decode cX7_swap 34 = .ok (.ior, 1) := by decide +kernel
theorem dX7_swap_35 : decode cX7_swap 35 = .ok (.istore_n 2, 1) := by decide +kernel
theorem dX7_swap_36 : decode cX7_swap 36 = .ok (.iinc 3 1, 3) := by decide +kernel
theorem dX7_swap_39 : decode cX7_swap 39 = .ok (.goto (-35), 3) := by decide +kernel
theorem dX7_swap_42 : decode cX7_swap 42 = .ok (.iload_n 2, 1) := by decide +kernel
theorem dX7_swap_43 : decode cX7_swap 43 = .ok (.ireturn, 1) := by decide +kernel
theorem dX7_isText_0 : decode cX7_isText 0 = .ok (.iload_n 0, 1) := by decide +kernel
theorem dX7_isText_1 : decode cX7_isText 1 = .ok (.i2l, 1) := by decide +kernel
theorem dX7_isText_2 : decode cX7_isText 2 = .ok (.lconst 0, 1) := by decide +kernel
theorem dX7_isText_3 : decode cX7_isText 3 = .ok (.ldc2_w 126, 3) := by decide +kernel
theorem dX7_isText_6 : decode cX7_isText 6 = .ok (.invokestatic 94, 3) := by decide +kernel
theorem dX7_isText_9 : decode cX7_isText 9 = .ok (.ireturn, 1) := by decide +kernel
theorem dX7_type_0 : decode cX7_type 0 = .ok (.iload_n 1, 1) := by decide +kernel
theorem dX7_type_1 : decode cX7_type 1 = .ok (.invokestatic 128, 3) := by decide +kernel
theorem dX7_type_4 : decode cX7_type 4 = .ok (.ifCond .eq 15, 3) := by decide +kernel
theorem dX7_type_7 : decode cX7_type 7 = .ok (.iload_n 2, 1) := by decide +kernel
theorem dX7_type_8 : decode cX7_type 8 = .ok (.i2l, 1) := by decide +kernel
theorem dX7_type_9 : decode cX7_type 9 = .ok (.lconst 0, 1) := by decide +kernel
theorem dX7_type_10 : decode cX7_type 10 = .ok (.ldc2_w 131, 3) := by decide +kernel
theorem dX7_type_13 : decode cX7_type 13 = .ok (.invokestatic 94, 3) := by decide +kernel
theorem dX7_type_16 : decode cX7_type 16 = .ok (.ifCond .ne 6, 3) := by decide +kernel
theorem dX7_type_19 : decode cX7_type 19 = .ok (.bipush (-2), 2) := by decide +kernel
theorem dX7_type_21 : decode cX7_type 21 = .ok (.ireturn, 1) := by decide +kernel
theorem dX7_type_22 : decode cX7_type 22 = .ok (.aload_n 0, 1) := by decide +kernel
theorem dX7_type_23 : decode cX7_type 23 = .ok (.getfield 25, 3) := by decide +kernel
theorem dX7_type_26 : decode cX7_type 26 = .ok (.iload_n 1, 1) := by decide +kernel
theorem dX7_type_27 : decode cX7_type 27 = .ok (.iaload, 1) := by decide +kernel
theorem dX7_type_28 : decode cX7_type 28 = .ok (.iload_n 1, 1) := by decide +kernel
theorem dX7_type_29 : decode cX7_type 29 = .ok (.bipush 8, 2) := by decide +kernel
theorem dX7_type_31 : decode cX7_type 31 = .ok (.if_icmp .ge 8, 3) := by decide +kernel
theorem dX7_type_34 : decode cX7_type 34 = .ok (.bipush 30, 2) := by decide +kernel
theorem dX7_type_36 : decode cX7_type 36 = .ok (.goto 5, 3) := by decide +kernel
theorem dX7_type_39 : decode cX7_type 39 = .ok (.bipush 24, 2) := by decide +kernel
theorem dX7_type_41 : decode cX7_type 41 = .ok (.if_icmp .ne 6, 3) := by decide +kernel
theorem dX7_type_44 : decode cX7_type 44 = .ok (.bipush (-4), 2) := by decide +kernel
theorem dX7_type_46 : decode cX7_type 46 = .ok (.ireturn, 1) := by decide +kernel
theorem dX7_type_47 : decode cX7_type 47 = .ok (.aload_n 0, 1) := by decide +kernel
theorem dX7_type_48 : decode cX7_type 48 = .ok (.getfield 22, 3) := by decide +kernel
theorem dX7_type_51 : decode cX7_type 51 = .ok (.bipush 30, 2) := by decide +kernel
theorem dX7_type_53 : decode cX7_type 53 = .ok (.iload_n 1, 1) := by decide +kernel
theorem dX7_type_54 : decode cX7_type 54 = .ok (.imul, 1) := by decide +kernel
theorem dX7_type_55 : decode cX7_type 55 = .ok (.aload_n 0, 1) := by decide +kernel
theorem dX7_type_56 : decode cX7_type 56 = .ok (.getfield 25, 3) := by decide +kernel
theorem dX7_type_59 : decode cX7_type 59 = .ok (.iload_n 1, 1) := by decide +kernel
theorem dX7_type_60 : decode cX7_type 60 = .ok (.iaload, 1) := by decide +kernel
theorem dX7_type_61 : decode cX7_type 61 = .ok (.iadd, 1) := by decide +kernel
theorem dX7_type_62 : decode cX7_type 62 = .ok (.iload_n 2, 1) := by decide +kernel
theorem dX7_type_63 : decode cX7_type 63 = .ok (.iastore, 1) := by decide +kernel
theorem dX7_type_64 : decode cX7_type 64 = .ok (.aload_n 0, 1) := by decide +kernel
theorem dX7_type_65 : decode cX7_type 65 = .ok (.getfield 25, 3) := by decide +kernel
theorem dX7_type_68 : decode cX7_type 68 = .ok (.iload_n 1, 1) := by decide +kernel
theorem dX7_type_69 : decode cX7_type 69 = .ok (.dup2, 1) := by decide +kernel
theorem dX7_type_70 : decode cX7_type 70 = .ok (.iaload, 1) := by decide +kernel
theorem dX7_type_71 : decode cX7_type 71 = .ok (.iconst 1, 1) := by decide +kernel
theorem dX7_type_72 : decode cX7_type 72 = .ok (.iadd, 1) := by decide +kernel
theorem dX7_type_73 : decode cX7_type 73 = .ok (.iastore, 1) := by decide +kernel
theorem dX7_type_74 : decode cX7_type 74 = .ok (.aload_n 0, 1) := by decide +kernel
theorem dX7_type_75 : decode cX7_type 75 = .ok (.getfield 25, 3) := by decide +kernel
theorem dX7_type_78 : decode cX7_type 78 = .ok (.iload_n 1, 1) := by decide +kernel
theorem dX7_type_79 : decode cX7_type 79 = .ok (.iaload, 1) := by decide +kernel
theorem dX7_type_80 : decode cX7_type 80 = .ok (.ireturn, 1) := by decide +kernel
theorem dX7_wipe_0 : decode cX7_wipe 0 = .ok (.iload_n 1, 1) := by decide +kernel
theorem dX7_wipe_1 : decode cX7_wipe 1 = .ok (.invokestatic 128, 3) := by decide +kernel
theorem dX7_wipe_4 : decode cX7_wipe 4 = .ok (.ifCond .ne 6, 3) := by decide +kernel
theorem dX7_wipe_7 : decode cX7_wipe 7 = .ok (.bipush (-2), 2) := by decide +kernel
theorem dX7_wipe_9 : decode cX7_wipe 9 = .ok (.ireturn, 1) := by decide +kernel
theorem dX7_wipe_10 : decode cX7_wipe 10 = .ok (.aload_n 0, 1) := by decide +kernel
theorem dX7_wipe_11 : decode cX7_wipe 11 = .ok (.getfield 25, 3) := by decide +kernel
theorem dX7_wipe_14 : decode cX7_wipe 14 = .ok (.iload_n 1, 1) := by decide +kernel
theorem dX7_wipe_15 : decode cX7_wipe 15 = .ok (.iaload, 1) := by decide +kernel
theorem dX7_wipe_16 : decode cX7_wipe 16 = .ok (.istore_n 2, 1) := by decide +kernel
theorem dX7_wipe_17 : decode cX7_wipe 17 = .ok (.aload_n 0, 1) := by decide +kernel
theorem dX7_wipe_18 : decode cX7_wipe 18 = .ok (.getfield 25, 3) := by decide +kernel
theorem dX7_wipe_21 : decode cX7_wipe 21 = .ok (.iload_n 1, 1) := by decide +kernel
theorem dX7_wipe_22 : decode cX7_wipe 22 = .ok (.iconst 0, 1) := by decide +kernel
theorem dX7_wipe_23 : decode cX7_wipe 23 = .ok (.iastore, 1) := by decide +kernel
theorem dX7_wipe_24 : decode cX7_wipe 24 = .ok (.iload_n 2, 1) := by decide +kernel
theorem dX7_wipe_25 : decode cX7_wipe 25 = .ok (.ireturn, 1) := by decide +kernel
theorem dX7_undo_0 : decode cX7_undo 0 = .ok (.iload_n 1, 1) := by decide +kernel
theorem dX7_undo_1 : decode cX7_undo 1 = .ok (.invokestatic 128, 3) := by decide +kernel
theorem dX7_undo_4 : decode cX7_undo 4 = .ok (.ifCond .ne 6, 3) := by decide +kernel
theorem dX7_undo_7 : decode cX7_undo 7 = .ok (.bipush (-2), 2) := by decide +kernel
theorem dX7_undo_9 : decode cX7_undo 9 = .ok (.ireturn, 1) := by decide +kernel
theorem dX7_undo_10 : decode cX7_undo 10 = .ok (.aload_n 0, 1) := by decide +kernel
theorem dX7_undo_11 : decode cX7_undo 11 = .ok (.getfield 25, 3) := by decide +kernel
theorem dX7_undo_14 : decode cX7_undo 14 = .ok (.iload_n 1, 1) := by decide +kernel
theorem dX7_undo_15 : decode cX7_undo 15 = .ok (.iaload, 1) := by decide +kernel
theorem dX7_undo_16 : decode cX7_undo 16 = .ok (.ifCond .ne 6, 3) := by decide +kernel
theorem dX7_undo_19 : decode cX7_undo 19 = .ok (.bipush (-3), 2) := by decide +kernel
theorem dX7_undo_21 : decode cX7_undo 21 = .ok (.ireturn, 1) := by decide +kernel
theorem dX7_undo_22 : decode cX7_undo 22 = .ok (.aload_n 0, 1) := by decide +kernel
theorem dX7_undo_23 : decode cX7_undo 23 = .ok (.getfield 25, 3) := by decide +kernel
theorem dX7_undo_26 : decode cX7_undo 26 = .ok (.iload_n 1, 1) := by decide +kernel
theorem dX7_undo_27 : decode cX7_undo 27 = .ok (.dup2, 1) := by decide +kernel
theorem dX7_undo_28 : decode cX7_undo 28 = .ok (.iaload, 1) := by decide +kernel
theorem dX7_undo_29 : decode cX7_undo 29 = .ok (.iconst 1, 1) := by decide +kernel
theorem dX7_undo_30 : decode cX7_undo 30 = .ok (.isub, 1) := by decide +kernel
theorem dX7_undo_31 : decode cX7_undo 31 = .ok (.iastore, 1) := by decide +kernel
theorem dX7_undo_32 : decode cX7_undo 32 = .ok (.aload_n 0, 1) := by decide +kernel
theorem dX7_undo_33 : decode cX7_undo 33 = .ok (.getfield 25, 3) := by decide +kernel
theorem dX7_undo_36 : decode cX7_undo 36 = .ok (.iload_n 1, 1) := by decide +kernel
theorem dX7_undo_37 : decode cX7_undo 37 = .ok (.iaload, 1) := by decide +kernel
theorem dX7_undo_38 : decode cX7_undo 38 = .ok (.ireturn, 1) := by decide +kernel
theorem dX7_nameOf_0 : decode cX7_nameOf 0 = .ok (.iload_n 0, 1) := by decide +kernel
theorem dX7_nameOf_1 : decode cX7_nameOf 1 = .ok (.i2l, 1) := by decide +kernel
theorem dX7_nameOf_2 : decode cX7_nameOf 2 = .ok (.ldc2_w 133, 3) := by decide +kernel
theorem dX7_nameOf_5 : decode cX7_nameOf 5 = .ok (.ldc2_w 135, 3) := by decide +kernel
theorem dX7_nameOf_8 : decode cX7_nameOf 8 = .ok (.invokestatic 94, 3) := by decide +kernel
theorem dX7_nameOf_11 : decode cX7_nameOf 11 = .ok (.ifCond .eq 10, 3) := by decide +kernel
theorem dX7_nameOf_14 : decode cX7_nameOf 14 = .ok (.iload_n 0, 1) := by decide +kernel
theorem dX7_nameOf_15 : decode cX7_nameOf 15 = .ok (.bipush 97, 2) := by decide +kernel
theorem dX7_nameOf_17 : decode cX7_nameOf 17 = .ok (.isub, 1) := by decide +kernel
theorem dX7_nameOf_18 : decode cX7_nameOf 18 = .ok (.goto 5, 3) := by decide +kernel
theorem dX7_nameOf_21 : decode cX7_nameOf 21 = .ok (.bipush (-9), 2) := by decide +kernel
theorem dX7_nameOf_23 : decode cX7_nameOf 23 = .ok (.ireturn, 1) := by decide +kernel
theorem dX7_kindOf_0 : decode cX7_kindOf 0 = .ok (.iload_n 0, 1) := by decide +kernel
theorem dX7_kindOf_1 : decode cX7_kindOf 1 = .ok (.invokestatic 137, 3) := by decide +kernel
theorem dX7_kindOf_4 : decode cX7_kindOf 4 = .ok (.bipush (-9), 2) := by decide +kernel
theorem dX7_kindOf_6 : decode cX7_kindOf 6 = .ok (.if_icmp .eq 7, 3) := by decide +kernel
theorem dX7_kindOf_9 : decode cX7_kindOf 9 = .ok (.iconst 0, 1) := by decide +kernel
theorem dX7_kindOf_10 : decode cX7_kindOf 10 = .ok (.goto 82, 3) := by decide +kernel
theorem dX7_kindOf_13 : decode cX7_kindOf 13 = .ok (.iload_n 0, 1) := by decide +kernel
theorem dX7_kindOf_14 : decode cX7_kindOf 14 = .ok (.i2l, 1) := by decide +kernel
theorem dX7_kindOf_15 : decode cX7_kindOf 15 = .ok (.ldc2_w 140, 3) := by decide +kernel
theorem dX7_kindOf_18 : decode cX7_kindOf 18 = .ok (.ldc2_w 142, 3) := by decide +kernel
theorem dX7_kindOf_21 : decode cX7_kindOf 21 = .ok (.invokestatic 94, 3) := by decide +kernel
theorem dX7_kindOf_24 : decode cX7_kindOf 24 = .ok (.ifCond .eq 7, 3) := by decide +kernel
theorem dX7_kindOf_27 : decode cX7_kindOf 27 = .ok (.iconst 1, 1) := by decide +kernel
theorem dX7_kindOf_28 : decode cX7_kindOf 28 = .ok (.goto 64, 3) := by decide +kernel
theorem dX7_kindOf_31 : decode cX7_kindOf 31 = .ok (.iload_n 0, 1) := by decide +kernel
theorem dX7_kindOf_32 : decode cX7_kindOf 32 = .ok (.bipush 42, 2) := by decide +kernel
theorem dX7_kindOf_34 : decode cX7_kindOf 34 = .ok (.if_icmp .ne 7, 3) := by decide +kernel
theorem dX7_kindOf_37 : decode cX7_kindOf 37 = .ok (.iconst 2, 1) := by decide +kernel
theorem dX7_kindOf_38 : decode cX7_kindOf 38 = .ok (.goto 54, 3) := by decide +kernel
theorem dX7_kindOf_41 : decode cX7_kindOf 41 = .ok (.iload_n 0, 1) := by decide +kernel
theorem dX7_kindOf_42 : decode cX7_kindOf 42 = .ok (.i2l, 1) := by decide +kernel
theorem dX7_kindOf_43 : decode cX7_kindOf 43 = .ok (.ldc2_w 144, 3) := by decide +kernel
theorem dX7_kindOf_46 : decode cX7_kindOf 46 = .ok (.ldc2_w 146, 3) := by decide +kernel
theorem dX7_kindOf_49 : decode cX7_kindOf 49 = .ok (.invokestatic 94, 3) := by decide +kernel
theorem dX7_kindOf_52 : decode cX7_kindOf 52 = .ok (.ifCond .eq 7, 3) := by decide +kernel
theorem dX7_kindOf_55 : decode cX7_kindOf 55 = .ok (.iconst 3, 1) := by decide +kernel
theorem dX7_kindOf_56 : decode cX7_kindOf 56 = .ok (.goto 36, 3) := by decide +kernel
theorem dX7_kindOf_59 : decode cX7_kindOf 59 = .ok (.iload_n 0, 1) := by decide +kernel
theorem dX7_kindOf_60 : decode cX7_kindOf 60 = .ok (.bipush 44, 2) := by decide +kernel
theorem dX7_kindOf_62 : decode cX7_kindOf 62 = .ok (.if_icmp .ne 7, 3) := by decide +kernel
theorem dX7_kindOf_65 : decode cX7_kindOf 65 = .ok (.iconst 4, 1) := by decide +kernel
theorem dX7_kindOf_66 : decode cX7_kindOf 66 = .ok (.goto 26, 3) := by decide +kernel
theorem dX7_kindOf_69 : decode cX7_kindOf 69 = .ok (.iload_n 0, 1) := by decide +kernel
theorem dX7_kindOf_70 : decode cX7_kindOf 70 = .ok (.bipush 46, 2) := by decide +kernel
theorem dX7_kindOf_72 : decode cX7_kindOf 72 = .ok (.if_icmp .ne 7, 3) := by decide +kernel
theorem dX7_kindOf_75 : decode cX7_kindOf 75 = .ok (.iconst 5, 1) := by decide +kernel
theorem dX7_kindOf_76 : decode cX7_kindOf 76 = .ok (.goto 16, 3) := by decide +kernel
theorem dX7_kindOf_79 : decode cX7_kindOf 79 = .ok (.iload_n 0, 1) := by decide +kernel
theorem dX7_kindOf_80 : decode cX7_kindOf 80 = .ok (.bipush 33, 2) := by decide +kernel
theorem dX7_kindOf_82 : decode cX7_kindOf 82 = .ok (.if_icmp .ne 8, 3) := by decide +kernel
theorem dX7_kindOf_85 : decode cX7_kindOf 85 = .ok (.bipush 6, 2) := by decide +kernel
theorem dX7_kindOf_87 : decode cX7_kindOf 87 = .ok (.goto 5, 3) := by decide +kernel
theorem dX7_kindOf_90 : decode cX7_kindOf 90 = .ok (.bipush (-9), 2) := by decide +kernel
theorem dX7_kindOf_92 : decode cX7_kindOf 92 = .ok (.ireturn, 1) := by decide +kernel
theorem dX7_numberOf_0 : decode cX7_numberOf 0 = .ok (.iload_n 0, 1) := by decide +kernel
theorem dX7_numberOf_1 : decode cX7_numberOf 1 = .ok (.ifCond .ne 10, 3) := by decide +kernel
theorem dX7_numberOf_4 : decode cX7_numberOf 4 = .ok (.iload_n 1, 1) := by decide +kernel
theorem dX7_numberOf_5 : decode cX7_numberOf 5 = .ok (.bipush 97, 2) := by decide +kernel
theorem dX7_numberOf_7 : decode cX7_numberOf 7 = .ok (.isub, 1) := by decide +kernel
theorem dX7_numberOf_8 : decode cX7_numberOf 8 = .ok (.goto 28, 3) := by decide +kernel
theorem dX7_numberOf_11 : decode cX7_numberOf 11 = .ok (.iload_n 0, 1) := by decide +kernel
theorem dX7_numberOf_12 : decode cX7_numberOf 12 = .ok (.iconst 1, 1) := by decide +kernel
theorem dX7_numberOf_13 : decode cX7_numberOf 13 = .ok (.if_icmp .ne 10, 3) := by decide +kernel
theorem dX7_numberOf_16 : decode cX7_numberOf 16 = .ok (.iload_n 1, 1) := by decide +kernel
theorem dX7_numberOf_17 : decode cX7_numberOf 17 = .ok (.bipush 80, 2) := by decide +kernel
theorem dX7_numberOf_19 : decode cX7_numberOf 19 = .ok (.isub, 1) := by decide +kernel
theorem dX7_numberOf_20 : decode cX7_numberOf 20 = .ok (.goto 16, 3) := by decide +kernel
theorem dX7_numberOf_23 : decode cX7_numberOf 23 = .ok (.iload_n 0, 1) := by decide +kernel
theorem dX7_numberOf_24 : decode cX7_numberOf 24 = .ok (.iconst 3, 1) := by decide +kernel
theorem dX7_numberOf_25 : decode cX7_numberOf 25 = .ok (.if_icmp .ne 10, 3) := by decide +kernel
theorem dX7_numberOf_28 : decode cX7_numberOf 28 = .ok (.iload_n 1, 1) := by decide +kernel
theorem dX7_numberOf_29 : decode cX7_numberOf 29 = .ok (.bipush 48, 2) := by decide +kernel
theorem dX7_numberOf_31 : decode cX7_numberOf 31 = .ok (.isub, 1) := by decide +kernel
theorem dX7_numberOf_32 : decode cX7_numberOf 32 = .ok (.goto 4, 3) := by decide +kernel
theorem dX7_numberOf_35 : decode cX7_numberOf 35 = .ok (.iconst 0, 1) := by decide +kernel
theorem dX7_numberOf_36 : decode cX7_numberOf 36 = .ok (.ireturn, 1) := by decide +kernel
theorem dX7_readsTerm_0 : decode cX7_readsTerm 0 = .ok (.aload_n 0, 1) := by decide +kernel
theorem dX7_readsTerm_1 : decode cX7_readsTerm 1 = .ok (.getfield 25, 3) := by decide +kernel
theorem dX7_readsTerm_4 : decode cX7_readsTerm 4 = .ok (.iload_n 1, 1) := by decide +kernel
theorem dX7_readsTerm_5 : decode cX7_readsTerm 5 = .ok (.iaload, 1) := by decide +kernel
theorem dX7_readsTerm_6 : decode cX7_readsTerm 6 = .ok (.istore_n 2, 1) := by decide +kernel
theorem dX7_readsTerm_7 : decode cX7_readsTerm 7 = .ok (.bipush 30, 2) := by decide +kernel
theorem dX7_readsTerm_9 : decode cX7_readsTerm 9 = .ok (.iload_n 1, 1) := by decide +kernel
theorem dX7_readsTerm_10 : decode cX7_readsTerm 10 = .ok (.imul, 1) := by decide +kernel
theorem dX7_readsTerm_11 : decode cX7_readsTerm 11 = .ok (.istore_n 3, 1) := by decide +kernel
theorem dX7_readsTerm_12 : decode cX7_readsTerm 12 = .ok (.iconst 0, 1) := by decide +kernel
theorem dX7_readsTerm_13 : decode cX7_readsTerm 13 = .ok (.istore 4, 2) := by decide +kernel
theorem dX7_readsTerm_15 : decode cX7_readsTerm 15 = .ok (.iconst 1, 1) := by decide +kernel
theorem dX7_readsTerm_16 : decode cX7_readsTerm 16 = .ok (.istore 5, 2) := by decide +kernel
theorem dX7_readsTerm_18 : decode cX7_readsTerm 18 = .ok (.iconst 0, 1) := by decide +kernel
theorem dX7_readsTerm_19 : decode cX7_readsTerm 19 = .ok (.istore 6, 2) := by decide +kernel
theorem dX7_readsTerm_21 : decode cX7_readsTerm 21 = .ok (.aload_n 0, 1) := by decide +kernel
theorem dX7_readsTerm_22 : decode cX7_readsTerm 22 = .ok (.getfield 28, 3) := by decide +kernel
theorem dX7_readsTerm_25 : decode cX7_readsTerm 25 = .ok (.iload_n 1, 1) := by decide +kernel
theorem dX7_readsTerm_26 : decode cX7_readsTerm 26 = .ok (.iconst 0, 1) := by decide +kernel
theorem dX7_readsTerm_27 : decode cX7_readsTerm 27 = .ok (.iastore, 1) := by decide +kernel
theorem dX7_readsTerm_28 : decode cX7_readsTerm 28 = .ok (.iconst 0, 1) := by decide +kernel
theorem dX7_readsTerm_29 : decode cX7_readsTerm 29 = .ok (.istore 7, 2) := by decide +kernel
theorem dX7_readsTerm_31 : decode cX7_readsTerm 31 = .ok (.iload 7, 2) := by decide +kernel
theorem dX7_readsTerm_33 : decode cX7_readsTerm 33 = .ok (.iload_n 2, 1) := by decide +kernel
theorem dX7_readsTerm_34 : decode cX7_readsTerm 34 = .ok (.if_icmp .ge 236, 3) := by decide +kernel
theorem dX7_readsTerm_37 : decode cX7_readsTerm 37 = .ok (.aload_n 0, 1) := by decide +kernel
theorem dX7_readsTerm_38 : decode cX7_readsTerm 38 = .ok (.getfield 22, 3) := by decide +kernel
theorem dX7_readsTerm_41 : decode cX7_readsTerm 41 = .ok (.bipush 30, 2) := by decide +kernel
theorem dX7_readsTerm_43 : decode cX7_readsTerm 43 = .ok (.iload_n 1, 1) := by decide +kernel
theorem dX7_readsTerm_44 : decode cX7_readsTerm 44 = .ok (.imul, 1) := by decide +kernel
theorem dX7_readsTerm_45 : decode cX7_readsTerm 45 = .ok (.iload 7, 2) := by decide +kernel
theorem dX7_readsTerm_47 : decode cX7_readsTerm 47 = .ok (.iadd, 1) := by decide +kernel
theorem dX7_readsTerm_48 : decode cX7_readsTerm 48 = .ok (.iaload, 1) := by decide +kernel
theorem dX7_readsTerm_49 : decode cX7_readsTerm 49 = .ok (.istore 8, 2) := by decide +kernel
theorem dX7_readsTerm_51 : decode cX7_readsTerm 51 = .ok (.iload 6, 2) := by decide +kernel
theorem dX7_readsTerm_53 : decode cX7_readsTerm 53 = .ok (.ifCond .le 11, 3) := by decide +kernel
theorem dX7_readsTerm_56 : decode cX7_readsTerm 56 = .ok (.iload 8, 2) := by decide +kernel
theorem dX7_readsTerm_58 : decode cX7_readsTerm 58 = .ok (.invokestatic 137, 3) := by decide +kernel
theorem dX7_readsTerm_61 : decode cX7_readsTerm 61 = .ok (.goto 18, 3) := by decide +kernel
theorem dX7_readsTerm_64 : decode cX7_readsTerm 64 = .ok (.iload 5, 2) := by decide +kernel
theorem dX7_readsTerm_66 : decode cX7_readsTerm 66 = .ok (.ifCond .le 11, 3) := by decide +kernel
theorem dX7_readsTerm_69 : decode cX7_readsTerm 69 = .ok (.iload 8, 2) := by decide +kernel
theorem dX7_readsTerm_71 : decode cX7_readsTerm 71 = .ok (.invokestatic 148, 3) := by decide +kernel
theorem dX7_readsTerm_74 : decode cX7_readsTerm 74 = .ok (.goto 5, 3) := by decide +kernel
theorem dX7_readsTerm_77 : decode cX7_readsTerm 77 = .ok (.bipush (-9), 2) := by decide +kernel
theorem dX7_readsTerm_79 : decode cX7_readsTerm 79 = .ok (.istore 9, 2) := by decide +kernel
theorem dX7_readsTerm_81 : decode cX7_readsTerm 81 = .ok (.iload 9, 2) := by decide +kernel
theorem dX7_readsTerm_83 : decode cX7_readsTerm 83 = .ok (.bipush (-9), 2) := by decide +kernel
theorem dX7_readsTerm_85 : decode cX7_readsTerm 85 = .ok (.if_icmp .ne 6, 3) := by decide +kernel
theorem dX7_readsTerm_88 : decode cX7_readsTerm 88 = .ok (.iload 7, 2) := by decide +kernel
theorem dX7_readsTerm_90 : decode cX7_readsTerm 90 = .ok (.ireturn, 1) := by decide +kernel
theorem dX7_readsTerm_91 : decode cX7_readsTerm 91 = .ok (.iload 6, 2) := by decide +kernel
theorem dX7_readsTerm_93 : decode cX7_readsTerm 93 = .ok (.ifCond .le 91, 3) := by decide +kernel
theorem dX7_readsTerm_96 : decode cX7_readsTerm 96 = .ok (.aload_n 0, 1) := by decide +kernel
theorem dX7_readsTerm_97 : decode cX7_readsTerm 97 = .ok (.getfield 31, 3) := by decide +kernel
theorem dX7_readsTerm_100 : decode cX7_readsTerm 100 = .ok (.iload_n 3, 1) := by decide +kernel
theorem dX7_readsTerm_101 : decode cX7_readsTerm 101 = .ok (.iload 4, 2) := by decide +kernel
theorem dX7_readsTerm_103 : decode cX7_readsTerm 103 = .ok (.iadd, 1) := by decide +kernel
theorem dX7_readsTerm_104 : decode cX7_readsTerm 104 = .ok (.iconst 1, 1) := by decide +kernel
theorem dX7_readsTerm_105 : decode cX7_readsTerm 105 = .ok (.isub, 1) := by decide +kernel
theorem dX7_readsTerm_106 : decode cX7_readsTerm 106 = .ok (.iaload, 1) := by decide +kernel
theorem dX7_readsTerm_107 : decode cX7_readsTerm 107 = .ok (.iconst 5, 1) := by decide +kernel
theorem dX7_readsTerm_108 : decode cX7_readsTerm 108 = .ok (.if_icmp .eq 9, 3) := by decide +kernel
theorem dX7_readsTerm_111 : decode cX7_readsTerm 111 = .ok (.iload 6, 2) := by decide +kernel
theorem dX7_readsTerm_113 : decode cX7_readsTerm 113 = .ok (.iconst 2, 1) := by decide +kernel
theorem dX7_readsTerm_114 : decode cX7_readsTerm 114 = .ok (.if_icmp .ne 7, 3) := by decide +kernel
theorem dX7_readsTerm_117 : decode cX7_readsTerm 117 = .ok (.iconst 1, 1) := by decide +kernel
theorem dX7_readsTerm_118 : decode cX7_readsTerm 118 = .ok (.goto 4, 3) := by decide +kernel
theorem dX7_readsTerm_121 : decode cX7_readsTerm 121 = .ok (.iconst 0, 1) := by decide +kernel
theorem dX7_readsTerm_122 : decode cX7_readsTerm 122 = .ok (.istore 10, 2) := by decide +kernel
theorem dX7_readsTerm_124 : decode cX7_readsTerm 124 = .ok (.aload_n 0, 1) := by decide +kernel
theorem dX7_readsTerm_125 : decode cX7_readsTerm 125 = .ok (.getfield 34, 3) := by decide +kernel
theorem dX7_readsTerm_128 : decode cX7_readsTerm 128 = .ok (.iload_n 3, 1) := by decide +kernel
theorem dX7_readsTerm_129 : decode cX7_readsTerm 129 = .ok (.iload 4, 2) := by decide +kernel
theorem dX7_readsTerm_131 : decode cX7_readsTerm 131 = .ok (.iadd, 1) := by decide +kernel
theorem dX7_readsTerm_132 : decode cX7_readsTerm 132 = .ok (.iconst 1, 1) := by decide +kernel
theorem dX7_readsTerm_133 : decode cX7_readsTerm 133 = .ok (.isub, 1) := by decide +kernel
theorem dX7_readsTerm_134 : decode cX7_readsTerm 134 = .ok (.iload 10, 2) := by decide +kernel
theorem dX7_readsTerm_136 : decode cX7_readsTerm 136 = .ok (.ifCond .eq 8, 3) := by decide +kernel
theorem dX7_readsTerm_139 : decode cX7_readsTerm 139 = .ok (.iload 9, 2) := by decide +kernel
theorem dX7_readsTerm_141 : decode cX7_readsTerm 141 = .ok (.goto 14, 3) := by decide +kernel
theorem dX7_readsTerm_144 : decode cX7_readsTerm 144 = .ok (.aload_n 0, 1) := by decide +kernel
theorem dX7_readsTerm_145 : decode cX7_readsTerm 145 = .ok (.getfield 34, 3) := by decide +kernel
theorem dX7_readsTerm_148 : decode cX7_readsTerm 148 = .ok (.iload_n 3, 1) := by decide +kernel
theorem dX7_readsTerm_149 : decode cX7_readsTerm 149 = .ok (.iload 4, 2) := by decide +kernel
theorem dX7_readsTerm_151 : decode cX7_readsTerm 151 = .ok (.iadd, 1) := by decide +kernel
theorem dX7_readsTerm_152 : decode cX7_readsTerm 152 = .ok (.iconst 1, 1) := by decide +kernel
theorem dX7_readsTerm_153 : decode cX7_readsTerm 153 = .ok (.isub, 1) := by decide +kernel
theorem dX7_readsTerm_154 : decode cX7_readsTerm 154 = .ok (.iaload, 1) := by decide +kernel
theorem dX7_readsTerm_155 : decode cX7_readsTerm 155 = .ok (.iastore, 1) := by decide +kernel
theorem dX7_readsTerm_156 : decode cX7_readsTerm 156 = .ok (.aload_n 0, 1) := by decide +kernel
theorem dX7_readsTerm_157 : decode cX7_readsTerm 157 = .ok (.getfield 37, 3) := by decide +kernel
theorem dX7_readsTerm_160 : decode cX7_readsTerm 160 = .ok (.iload_n 3, 1) := by decide +kernel
theorem dX7_readsTerm_161 : decode cX7_readsTerm 161 = .ok (.iload 4, 2) := by decide +kernel
theorem dX7_readsTerm_163 : decode cX7_readsTerm 163 = .ok (.iadd, 1) := by decide +kernel
theorem dX7_readsTerm_164 : decode cX7_readsTerm 164 = .ok (.iconst 1, 1) := by decide +kernel
theorem dX7_readsTerm_165 : decode cX7_readsTerm 165 = .ok (.isub, 1) := by decide +kernel
theorem dX7_readsTerm_166 : decode cX7_readsTerm 166 = .ok (.iload 10, 2) := by decide +kernel
theorem dX7_readsTerm_168 : decode cX7_readsTerm 168 = .ok (.ifCond .eq 7, 3) := by decide +kernel
theorem dX7_readsTerm_171 : decode cX7_readsTerm 171 = .ok (.iconst 0, 1) := by decide +kernel
theorem dX7_readsTerm_172 : decode cX7_readsTerm 172 = .ok (.goto 5, 3) := by decide +kernel
theorem dX7_readsTerm_175 : decode cX7_readsTerm 175 = .ok (.iload 9, 2) := by decide +kernel
theorem dX7_readsTerm_177 : decode cX7_readsTerm 177 = .ok (.iastore, 1) := by decide +kernel
theorem dX7_readsTerm_178 : decode cX7_readsTerm 178 = .ok (.iinc 6 (-1), 3) := by decide +kernel
theorem dX7_readsTerm_181 : decode cX7_readsTerm 181 = .ok (.goto 83, 3) := by decide +kernel
theorem dX7_readsTerm_184 : decode cX7_readsTerm 184 = .ok (.aload_n 0, 1) := by decide +kernel
theorem dX7_readsTerm_185 : decode cX7_readsTerm 185 = .ok (.getfield 31, 3) := by decide +kernel
theorem dX7_readsTerm_188 : decode cX7_readsTerm 188 = .ok (.iload_n 3, 1) := by decide +kernel
theorem dX7_readsTerm_189 : decode cX7_readsTerm 189 = .ok (.iload 4, 2) := by decide +kernel
theorem dX7_readsTerm_191 : decode cX7_readsTerm 191 = .ok (.iadd, 1) := by decide +kernel
theorem dX7_readsTerm_192 : decode cX7_readsTerm 192 = .ok (.iload 9, 2) := by decide +kernel
theorem dX7_readsTerm_194 : decode cX7_readsTerm 194 = .ok (.iastore, 1) := by decide +kernel
theorem dX7_readsTerm_195 : decode cX7_readsTerm 195 = .ok (.aload_n 0, 1) := by decide +kernel
theorem dX7_readsTerm_196 : decode cX7_readsTerm 196 = .ok (.getfield 34, 3) := by decide +kernel
theorem dX7_readsTerm_199 : decode cX7_readsTerm 199 = .ok (.iload_n 3, 1) := by decide +kernel
theorem dX7_readsTerm_200 : decode cX7_readsTerm 200 = .ok (.iload 4, 2) := by decide +kernel
theorem dX7_readsTerm_202 : decode cX7_readsTerm 202 = .ok (.iadd, 1) := by decide +kernel
theorem dX7_readsTerm_203 : decode cX7_readsTerm 203 = .ok (.iload 9, 2) := by decide +kernel
theorem dX7_readsTerm_205 : decode cX7_readsTerm 205 = .ok (.iload 8, 2) := by decide +kernel
theorem dX7_readsTerm_207 : decode cX7_readsTerm 207 = .ok (.invokestatic 151, 3) := by decide +kernel
theorem dX7_readsTerm_210 : decode cX7_readsTerm 210 = .ok (.iastore, 1) := by decide +kernel
theorem dX7_readsTerm_211 : decode cX7_readsTerm 211 = .ok (.iinc 4 1, 3) := by decide +kernel
theorem dX7_readsTerm_214 : decode cX7_readsTerm 214 = .ok (.iload 9, 2) := by decide +kernel
theorem dX7_readsTerm_216 : decode cX7_readsTerm 216 = .ok (.iconst 5, 1) := by decide +kernel
theorem dX7_readsTerm_217 : decode cX7_readsTerm 217 = .ok (.if_icmp .ne 7, 3) := by decide +kernel
theorem dX7_readsTerm_220 : decode cX7_readsTerm 220 = .ok (.iconst 1, 1) := by decide +kernel
theorem dX7_readsTerm_221 : decode cX7_readsTerm 221 = .ok (.goto 15, 3) := by decide +kernel
theorem dX7_readsTerm_224 : decode cX7_readsTerm 224 = .ok (.iload 9, 2) := by decide +kernel
theorem dX7_readsTerm_226 : decode cX7_readsTerm 226 = .ok (.bipush 6, 2) := by decide +kernel
theorem dX7_readsTerm_228 : decode cX7_readsTerm 228 = .ok (.if_icmp .ne 7, 3) := by decide +kernel
theorem dX7_readsTerm_231 : decode cX7_readsTerm 231 = .ok (.iconst 2, 1) := by decide +kernel
theorem dX7_readsTerm_232 : decode cX7_readsTerm 232 = .ok (.goto 4, 3) := by decide +kernel
theorem dX7_readsTerm_235 : decode cX7_readsTerm 235 = .ok (.iconst 0, 1) := by decide +kernel
theorem dX7_readsTerm_236 : decode cX7_readsTerm 236 = .ok (.istore 6, 2) := by decide +kernel
theorem dX7_readsTerm_238 : decode cX7_readsTerm 238 = .ok (.iload 5, 2) := by decide +kernel
theorem dX7_readsTerm_240 : decode cX7_readsTerm 240 = .ok (.iload 9, 2) := by decide +kernel
theorem dX7_readsTerm_242 : decode cX7_readsTerm 242 = .ok (.iconst 4, 1) := by decide +kernel
theorem dX7_readsTerm_243 : decode cX7_readsTerm 243 = .ok (.if_icmp .ne 7, 3) := by decide +kernel
theorem dX7_readsTerm_246 : decode cX7_readsTerm 246 = .ok (.iconst 1, 1) := by decide +kernel
theorem dX7_readsTerm_247 : decode cX7_readsTerm 247 = .ok (.goto 14, 3) := by decide +kernel
theorem dX7_readsTerm_250 : decode cX7_readsTerm 250 = .ok (.iload 9, 2) := by decide +kernel
theorem dX7_readsTerm_252 : decode cX7_readsTerm 252 = .ok (.iconst 3, 1) := by decide +kernel
theorem dX7_readsTerm_253 : decode cX7_readsTerm 253 = .ok (.if_icmp .ge 7, 3) := by decide +kernel
theorem dX7_readsTerm_256 : decode cX7_readsTerm 256 = .ok (.iconst (-1), 1) := by decide +kernel
theorem dX7_readsTerm_257 : decode cX7_readsTerm 257 = .ok (.goto 4, 3) := by decide +kernel
theorem dX7_readsTerm_260 : decode cX7_readsTerm 260 = .ok (.iconst 0, 1) := by decide +kernel
theorem dX7_readsTerm_261 : decode cX7_readsTerm 261 = .ok (.iadd, 1) := by decide +kernel
theorem dX7_readsTerm_262 : decode cX7_readsTerm 262 = .ok (.istore 5, 2) := by decide +kernel
theorem dX7_readsTerm_264 : decode cX7_readsTerm 264 = .ok (.iinc 7 1, 3) := by decide +kernel
theorem dX7_readsTerm_267 : decode cX7_readsTerm 267 = .ok (.goto (-236), 3) := by decide +kernel
theorem dX7_readsTerm_270 : decode cX7_readsTerm 270 = .ok (.iload_n 2, 1) := by decide +kernel
theorem dX7_readsTerm_271 : decode cX7_readsTerm 271 = .ok (.ifCond .le 15, 3) := by decide +kernel
theorem dX7_readsTerm_274 : decode cX7_readsTerm 274 = .ok (.iload 5, 2) := by decide +kernel
theorem dX7_readsTerm_276 : decode cX7_readsTerm 276 = .ok (.ifCond .gt 8, 3) := by decide +kernel
theorem dX7_readsTerm_279 : decode cX7_readsTerm 279 = .ok (.iload 6, 2) := by decide +kernel
theorem dX7_readsTerm_281 : decode cX7_readsTerm 281 = .ok (.ifCond .le 5, 3) := by decide +kernel
theorem dX7_readsTerm_284 : decode cX7_readsTerm 284 = .ok (.iload_n 2, 1) := by decide +kernel
theorem dX7_readsTerm_285 : decode cX7_readsTerm 285 = .ok (.ireturn, 1) := by decide +kernel
theorem dX7_readsTerm_286 : decode cX7_readsTerm 286 = .ok (.iload_n 3, 1) := by decide +kernel
theorem dX7_readsTerm_287 : decode cX7_readsTerm 287 = .ok (.iload 4, 2) := by decide +kernel
theorem dX7_readsTerm_289 : decode cX7_readsTerm 289 = .ok (.iadd, 1) := by decide +kernel
theorem dX7_readsTerm_290 : decode cX7_readsTerm 290 = .ok (.iconst 1, 1) := by decide +kernel
theorem dX7_readsTerm_291 : decode cX7_readsTerm 291 = .ok (.isub, 1) := by decide +kernel
theorem dX7_readsTerm_292 : decode cX7_readsTerm 292 = .ok (.istore 7, 2) := by decide +kernel
theorem dX7_readsTerm_294 : decode cX7_readsTerm 294 = .ok (.iload 7, 2) := by decide +kernel
theorem dX7_readsTerm_296 : decode cX7_readsTerm 296 = .ok (.iload_n 3, 1) := by decide +kernel
theorem dX7_readsTerm_297 : decode cX7_readsTerm 297 = .ok (.if_icmp .lt 71, 3) := by decide +kernel
theorem dX7_readsTerm_300 : decode cX7_readsTerm 300 = .ok (.aload_n 0, 1) := by decide +kernel
theorem dX7_readsTerm_301 : decode cX7_readsTerm 301 = .ok (.getfield 40, 3) := by decide +kernel
theorem dX7_readsTerm_304 : decode cX7_readsTerm 304 = .ok (.iload 7, 2) := by decide +kernel
theorem dX7_readsTerm_306 : decode cX7_readsTerm 306 = .ok (.aload_n 0, 1) := by decide +kernel
theorem dX7_readsTerm_307 : decode cX7_readsTerm 307 = .ok (.getfield 31, 3) := by decide +kernel
theorem dX7_readsTerm_310 : decode cX7_readsTerm 310 = .ok (.iload 7, 2) := by decide +kernel
theorem dX7_readsTerm_312 : decode cX7_readsTerm 312 = .ok (.iaload, 1) := by decide +kernel
theorem dX7_readsTerm_313 : decode cX7_readsTerm 313 = .ok (.iconst 3, 1) := by decide +kernel
theorem dX7_readsTerm_314 : decode cX7_readsTerm 314 = .ok (.if_icmp .ge 10, 3) := by decide +kernel
theorem dX7_readsTerm_317 : decode cX7_readsTerm 317 = .ok (.iload 7, 2) := by decide +kernel
theorem dX7_readsTerm_319 : decode cX7_readsTerm 319 = .ok (.iconst 1, 1) := by decide +kernel
theorem dX7_readsTerm_320 : decode cX7_readsTerm 320 = .ok (.iadd, 1) := by decide +kernel
theorem dX7_readsTerm_321 : decode cX7_readsTerm 321 = .ok (.goto 40, 3) := by decide +kernel
theorem dX7_readsTerm_324 : decode cX7_readsTerm 324 = .ok (.aload_n 0, 1) := by decide +kernel
theorem dX7_readsTerm_325 : decode cX7_readsTerm 325 = .ok (.getfield 31, 3) := by decide +kernel
theorem dX7_readsTerm_328 : decode cX7_readsTerm 328 = .ok (.iload 7, 2) := by decide +kernel
theorem dX7_readsTerm_330 : decode cX7_readsTerm 330 = .ok (.iaload, 1) := by decide +kernel
theorem dX7_readsTerm_331 : decode cX7_readsTerm 331 = .ok (.iconst 4, 1) := by decide +kernel
theorem dX7_readsTerm_332 : decode cX7_readsTerm 332 = .ok (.if_icmp .ne 20, 3) := by decide +kernel
theorem dX7_readsTerm_335 : decode cX7_readsTerm 335 = .ok (.aload_n 0, 1) := by decide +kernel
theorem dX7_readsTerm_336 : decode cX7_readsTerm 336 = .ok (.getfield 40, 3) := by decide +kernel
theorem dX7_readsTerm_339 : decode cX7_readsTerm 339 = .ok (.aload_n 0, 1) := by decide +kernel
theorem dX7_readsTerm_340 : decode cX7_readsTerm 340 = .ok (.getfield 40, 3) := by decide +kernel
theorem dX7_readsTerm_343 : decode cX7_readsTerm 343 = .ok (.iload 7, 2) := by decide +kernel
theorem dX7_readsTerm_345 : decode cX7_readsTerm 345 = .ok (.iconst 1, 1) := by decide +kernel
theorem dX7_readsTerm_346 : decode cX7_readsTerm 346 = .ok (.iadd, 1) := by decide +kernel
theorem dX7_readsTerm_347 : decode cX7_readsTerm 347 = .ok (.iaload, 1) := by decide +kernel
theorem dX7_readsTerm_348 : decode cX7_readsTerm 348 = .ok (.iaload, 1) := by decide +kernel
theorem dX7_readsTerm_349 : decode cX7_readsTerm 349 = .ok (.goto 12, 3) := by decide +kernel
theorem dX7_readsTerm_352 : decode cX7_readsTerm 352 = .ok (.aload_n 0, 1) := by decide +kernel
theorem dX7_readsTerm_353 : decode cX7_readsTerm 353 = .ok (.getfield 40, 3) := by decide +kernel
theorem dX7_readsTerm_356 : decode cX7_readsTerm 356 = .ok (.iload 7, 2) := by decide +kernel
theorem dX7_readsTerm_358 : decode cX7_readsTerm 358 = .ok (.iconst 1, 1) := by decide +kernel
theorem dX7_readsTerm_359 : decode cX7_readsTerm 359 = .ok (.iadd, 1) := by decide +kernel
theorem dX7_readsTerm_360 : decode cX7_readsTerm 360 = .ok (.iaload, 1) := by decide +kernel
theorem dX7_readsTerm_361 : decode cX7_readsTerm 361 = .ok (.iastore, 1) := by decide +kernel
theorem dX7_readsTerm_362 : decode cX7_readsTerm 362 = .ok (.iinc 7 (-1), 3) := by decide +kernel
theorem dX7_readsTerm_365 : decode cX7_readsTerm 365 = .ok (.goto (-71), 3) := by decide +kernel
theorem dX7_readsTerm_368 : decode cX7_readsTerm 368 = .ok (.aload_n 0, 1) := by decide +kernel
theorem dX7_readsTerm_369 : decode cX7_readsTerm 369 = .ok (.getfield 28, 3) := by decide +kernel
theorem dX7_readsTerm_372 : decode cX7_readsTerm 372 = .ok (.iload_n 1, 1) := by decide +kernel
theorem dX7_readsTerm_373 : decode cX7_readsTerm 373 = .ok (.iload 4, 2) := by decide +kernel
theorem dX7_readsTerm_375 : decode cX7_readsTerm 375 = .ok (.iastore, 1) := by decide +kernel
theorem dX7_readsTerm_376 : decode cX7_readsTerm 376 = .ok (.iconst (-1), 1) := by decide +kernel
theorem dX7_readsTerm_377 : decode cX7_readsTerm 377 = .ok (.ireturn, 1) := by decide +kernel
theorem dX7_readsFresh_0 : decode cX7_readsFresh 0 = .ok (.aload_n 0, 1) := by decide +kernel
theorem dX7_readsFresh_1 : decode cX7_readsFresh 1 = .ok (.getfield 25, 3) := by decide +kernel
theorem dX7_readsFresh_4 : decode cX7_readsFresh 4 = .ok (.bipush 8, 2) := by decide +kernel
theorem dX7_readsFresh_6 : decode cX7_readsFresh 6 = .ok (.iaload, 1) := by decide +kernel
theorem dX7_readsFresh_7 : decode cX7_readsFresh 7 = .ok (.istore_n 1, 1) := by decide +kernel
theorem dX7_readsFresh_8 : decode cX7_readsFresh 8 = .ok (.iconst 0, 1) := by decide +kernel
theorem dX7_readsFresh_9 : decode cX7_readsFresh 9 = .ok (.istore_n 2, 1) := by decide +kernel
theorem dX7_readsFresh_10 : decode cX7_readsFresh 10 = .ok (.iload_n 2, 1) := by decide +kernel
theorem dX7_readsFresh_11 : decode cX7_readsFresh 11 = .ok (.bipush 6, 2) := by decide +kernel
theorem dX7_readsFresh_13 : decode cX7_readsFresh 13 = .ok (.if_icmp .ge 16, 3) := by decide +kernel
theorem dX7_readsFresh_16 : decode cX7_readsFresh 16 = .ok (.aload_n 0, 1) := by decide +kernel
theorem dX7_readsFresh_17 : decode cX7_readsFresh 17 = .ok (.getfield 43, 3) := by decide +kernel
theorem dX7_readsFresh_20 : decode cX7_readsFresh 20 = .ok (.iload_n 2, 1) := by decide +kernel
theorem dX7_readsFresh_21 : decode cX7_readsFresh 21 = .ok (.iconst 0, 1) := by decide +kernel
theorem dX7_readsFresh_22 : decode cX7_readsFresh 22 = .ok (.iastore, 1) := by decide +kernel
theorem dX7_readsFresh_23 : decode cX7_readsFresh 23 = .ok (.iinc 2 1, 3) := by decide +kernel
theorem dX7_readsFresh_26 : decode cX7_readsFresh 26 = .ok (.goto (-16), 3) := by decide +kernel
theorem dX7_readsFresh_29 : decode cX7_readsFresh 29 = .ok (.iconst 0, 1) := by decide +kernel
theorem dX7_readsFresh_30 : decode cX7_readsFresh 30 = .ok (.istore_n 2, 1) := by decide +kernel
theorem dX7_readsFresh_31 : decode cX7_readsFresh 31 = .ok (.iload_n 2, 1) := by decide +kernel
theorem dX7_readsFresh_32 : decode cX7_readsFresh 32 = .ok (.iload_n 1, 1) := by decide +kernel
theorem dX7_readsFresh_33 : decode cX7_readsFresh 33 = .ok (.if_icmp .ge 54, 3) := by decide +kernel
theorem dX7_readsFresh_36 : decode cX7_readsFresh 36 = .ok (.aload_n 0, 1) := by decide +kernel
theorem dX7_readsFresh_37 : decode cX7_readsFresh 37 = .ok (.getfield 22, 3) := by decide +kernel
theorem dX7_readsFresh_40 : decode cX7_readsFresh 40 = .ok (.sipush 240, 3) := by decide +kernel
theorem dX7_readsFresh_43 : decode cX7_readsFresh 43 = .ok (.iload_n 2, 1) := by decide +kernel
theorem dX7_readsFresh_44 : decode cX7_readsFresh 44 = .ok (.iadd, 1) := by decide +kernel
theorem dX7_readsFresh_45 : decode cX7_readsFresh 45 = .ok (.iaload, 1) := by decide +kernel
theorem dX7_readsFresh_46 : decode cX7_readsFresh 46 = .ok (.istore_n 3, 1) := by decide +kernel
theorem dX7_readsFresh_47 : decode cX7_readsFresh 47 = .ok (.iload_n 2, 1) := by decide +kernel
theorem dX7_readsFresh_48 : decode cX7_readsFresh 48 = .ok (.iconst 2, 1) := by decide +kernel
theorem dX7_readsFresh_49 : decode cX7_readsFresh 49 = .ok (.irem, 1) := by decide +kernel
theorem dX7_readsFresh_50 : decode cX7_readsFresh 50 = .ok (.ifCond .ne 15, 3) := by decide +kernel
theorem dX7_readsFresh_53 : decode cX7_readsFresh 53 = .ok (.iload_n 3, 1) := by decide +kernel
theorem dX7_readsFresh_54 : decode cX7_readsFresh 54 = .ok (.invokestatic 137, 3) := by decide +kernel
theorem dX7_readsFresh_57 : decode cX7_readsFresh 57 = .ok (.bipush (-9), 2) := by decide +kernel
theorem dX7_readsFresh_59 : decode cX7_readsFresh 59 = .ok (.if_icmp .ne 22, 3) := by decide +kernel
theorem dX7_readsFresh_62 : decode cX7_readsFresh 62 = .ok (.goto 17, 3) := by decide +kernel
theorem dX7_readsFresh_65 : decode cX7_readsFresh 65 = .ok (.iload_n 3, 1) := by decide +kernel
theorem dX7_readsFresh_66 : decode cX7_readsFresh 66 = .ok (.i2l, 1) := by decide +kernel
theorem dX7_readsFresh_67 : decode cX7_readsFresh 67 = .ok (.ldc2_w 140, 3) := by decide +kernel
theorem dX7_readsFresh_70 : decode cX7_readsFresh 70 = .ok (.ldc2_w 142, 3) := by decide +kernel
theorem dX7_readsFresh_73 : decode cX7_readsFresh 73 = .ok (.invokestatic 94, 3) := by decide +kernel
theorem dX7_readsFresh_76 : decode cX7_readsFresh 76 = .ok (.ifCond .ne 5, 3) := by decide +kernel
theorem dX7_readsFresh_79 : decode cX7_readsFresh 79 = .ok (.iload_n 2, 1) := by decide +kernel
theorem dX7_readsFresh_80 : decode cX7_readsFresh 80 = .ok (.ireturn, 1) := by decide +kernel
theorem dX7_readsFresh_81 : decode cX7_readsFresh 81 = .ok (.iinc 2 1, 3) := by decide +kernel
theorem dX7_readsFresh_84 : decode cX7_readsFresh 84 = .ok (.goto (-53), 3) := by decide +kernel
theorem dX7_readsFresh_87 : decode cX7_readsFresh 87 = .ok (.iload_n 1, 1) := by decide +kernel
theorem dX7_readsFresh_88 : decode cX7_readsFresh 88 = .ok (.iconst 2, 1) := by decide +kernel
theorem dX7_readsFresh_89 : decode cX7_readsFresh 89 = .ok (.irem, 1) := by decide +kernel
theorem dX7_readsFresh_90 : decode cX7_readsFresh 90 = .ok (.iconst 1, 1) := by decide +kernel
theorem dX7_readsFresh_91 : decode cX7_readsFresh 91 = .ok (.if_icmp .ne 5, 3) := by decide +kernel
theorem dX7_readsFresh_94 : decode cX7_readsFresh 94 = .ok (.iload_n 1, 1) := by decide +kernel
theorem dX7_readsFresh_95 : decode cX7_readsFresh 95 = .ok (.ireturn, 1) := by decide +kernel
theorem dX7_readsFresh_96 : decode cX7_readsFresh 96 = .ok (.iconst 0, 1) := by decide +kernel
theorem dX7_readsFresh_97 : decode cX7_readsFresh 97 = .ok (.istore_n 2, 1) := by decide +kernel
theorem dX7_readsFresh_98 : decode cX7_readsFresh 98 = .ok (.iload_n 2, 1) := by decide +kernel
theorem dX7_readsFresh_99 : decode cX7_readsFresh 99 = .ok (.iload_n 1, 1) := by decide +kernel
theorem dX7_readsFresh_100 : decode cX7_readsFresh 100 = .ok (.if_icmp .ge 45, 3) := by decide +kernel
theorem dX7_readsFresh_103 : decode cX7_readsFresh 103 = .ok (.aload_n 0, 1) := by decide +kernel
theorem dX7_readsFresh_104 : decode cX7_readsFresh 104 = .ok (.getfield 43, 3) := by decide +kernel
theorem dX7_readsFresh_107 : decode cX7_readsFresh 107 = .ok (.aload_n 0, 1) := by decide +kernel
theorem dX7_readsFresh_108 : decode cX7_readsFresh 108 = .ok (.getfield 22, 3) := by decide +kernel
theorem dX7_readsFresh_111 : decode cX7_readsFresh 111 = .ok (.sipush 241, 3) := by decide +kernel
theorem dX7_readsFresh_114 : decode cX7_readsFresh 114 = .ok (.iload_n 2, 1) := by decide +kernel
theorem dX7_readsFresh_115 : decode cX7_readsFresh 115 = .ok (.iadd, 1) := by decide +kernel
theorem dX7_readsFresh_116 : decode cX7_readsFresh 116 = .ok (.iaload, 1) := by decide +kernel
theorem dX7_readsFresh_117 : decode cX7_readsFresh 117 = .ok (.bipush 80, 2) := by decide +kernel
theorem dX7_readsFresh_119 : decode cX7_readsFresh 119 = .ok (.isub, 1) := by decide +kernel
theorem dX7_readsFresh_120 : decode cX7_readsFresh 120 = .ok (.dup2, 1) := by decide +kernel
theorem dX7_readsFresh_121 : decode cX7_readsFresh 121 = .ok (.iaload, 1) := by decide +kernel
theorem dX7_readsFresh_122 : decode cX7_readsFresh 122 = .ok (.iconst 1, 1) := by decide +kernel
theorem dX7_readsFresh_123 : decode cX7_readsFresh 123 = .ok (.aload_n 0, 1) := by decide +kernel
theorem dX7_readsFresh_124 : decode cX7_readsFresh 124 = .ok (.getfield 22, 3) := by decide +kernel
theorem dX7_readsFresh_127 : decode cX7_readsFresh 127 = .ok (.sipush 240, 3) := by decide +kernel
theorem dX7_readsFresh_130 : decode cX7_readsFresh 130 = .ok (.iload_n 2, 1) := by decide +kernel
theorem dX7_readsFresh_131 : decode cX7_readsFresh 131 = .ok (.iadd, 1) := by decide +kernel
theorem dX7_readsFresh_132 : decode cX7_readsFresh 132 = .ok (.iaload, 1) := by decide +kernel
theorem dX7_readsFresh_133 : decode cX7_readsFresh 133 = .ok (.bipush 97, 2) := by decide +kernel
theorem dX7_readsFresh_135 : decode cX7_readsFresh 135 = .ok (.isub, 1) := by decide +kernel
theorem dX7_readsFresh_136 : decode cX7_readsFresh 136 = .ok (.ishl, 1) := by decide +kernel
theorem dX7_readsFresh_137 : decode cX7_readsFresh 137 = .ok (.ior, 1) := by decide +kernel
theorem dX7_readsFresh_138 : decode cX7_readsFresh 138 = .ok (.iastore, 1) := by decide +kernel
theorem dX7_readsFresh_139 : decode cX7_readsFresh 139 = .ok (.iinc 2 2, 3) := by decide +kernel
theorem dX7_readsFresh_142 : decode cX7_readsFresh 142 = .ok (.goto (-44), 3) := by decide +kernel
theorem dX7_readsFresh_145 : decode cX7_readsFresh 145 = .ok (.iconst (-1), 1) := by decide +kernel
theorem dX7_readsFresh_146 : decode cX7_readsFresh 146 = .ok (.ireturn, 1) := by decide +kernel
theorem dX7_readsTurn_0 : decode cX7_readsTurn 0 = .ok (.aload_n 0, 1) := by decide +kernel
theorem dX7_readsTurn_1 : decode cX7_readsTurn 1 = .ok (.getfield 25, 3) := by decide +kernel
theorem dX7_readsTurn_4 : decode cX7_readsTurn 4 = .ok (.bipush 9, 2) := by decide +kernel
theorem dX7_readsTurn_6 : decode cX7_readsTurn 6 = .ok (.iaload, 1) := by decide +kernel
theorem dX7_readsTurn_7 : decode cX7_readsTurn 7 = .ok (.istore_n 1, 1) := by decide +kernel
theorem dX7_readsTurn_8 : decode cX7_readsTurn 8 = .ok (.aload_n 0, 1) := by decide +kernel
theorem dX7_readsTurn_9 : decode cX7_readsTurn 9 = .ok (.ldc 154, 2) := by decide +kernel
theorem dX7_readsTurn_11 : decode cX7_readsTurn 11 = .ok (.putfield 155, 3) := by decide +kernel
theorem dX7_readsTurn_14 : decode cX7_readsTurn 14 = .ok (.iconst 0, 1) := by decide +kernel
theorem dX7_readsTurn_15 : decode cX7_readsTurn 15 = .ok (.istore_n 2, 1) := by decide +kernel
theorem dX7_readsTurn_16 : decode cX7_readsTurn 16 = .ok (.iload_n 2, 1) := by decide +kernel
theorem dX7_readsTurn_17 : decode cX7_readsTurn 17 = .ok (.iload_n 1, 1) := by decide +kernel
theorem dX7_readsTurn_18 : decode cX7_readsTurn 18 = .ok (.if_icmp .ge 29, 3) := by decide +kernel
theorem dX7_readsTurn_21 : decode cX7_readsTurn 21 = .ok (.aload_n 0, 1) := by decide +kernel
theorem dX7_readsTurn_22 : decode cX7_readsTurn 22 = .ok (.getfield 22, 3) := by decide +kernel
theorem dX7_readsTurn_25 : decode cX7_readsTurn 25 = .ok (.sipush 270, 3) := by decide +kernel
theorem dX7_readsTurn_28 : decode cX7_readsTurn 28 = .ok (.iload_n 2, 1) := by decide +kernel
theorem dX7_readsTurn_29 : decode cX7_readsTurn 29 = .ok (.iadd, 1) := by decide +kernel
theorem dX7_readsTurn_30 : decode cX7_readsTurn 30 = .ok (.iaload, 1) := by decide +kernel
theorem dX7_readsTurn_31 : decode cX7_readsTurn 31 = .ok (.invokestatic 137, 3) := by decide +kernel
theorem dX7_readsTurn_34 : decode cX7_readsTurn 34 = .ok (.bipush (-9), 2) := by decide +kernel
theorem dX7_readsTurn_36 : decode cX7_readsTurn 36 = .ok (.if_icmp .ne 5, 3) := by decide +kernel
theorem dX7_readsTurn_39 : decode cX7_readsTurn 39 = .ok (.iload_n 2, 1) := by decide +kernel
theorem dX7_readsTurn_40 : decode cX7_readsTurn 40 = .ok (.ireturn, 1) := by decide +kernel
theorem dX7_readsTurn_41 : decode cX7_readsTurn 41 = .ok (.iinc 2 1, 3) := by decide +kernel
theorem dX7_readsTurn_44 : decode cX7_readsTurn 44 = .ok (.goto (-28), 3) := by decide +kernel
theorem dX7_readsTurn_47 : decode cX7_readsTurn 47 = .ok (.iload_n 1, 1) := by decide +kernel
theorem dX7_readsTurn_48 : decode cX7_readsTurn 48 = .ok (.iconst 2, 1) := by decide +kernel
theorem dX7_readsTurn_49 : decode cX7_readsTurn 49 = .ok (.irem, 1) := by decide +kernel
theorem dX7_readsTurn_50 : decode cX7_readsTurn 50 = .ok (.iconst 1, 1) := by decide +kernel
theorem dX7_readsTurn_51 : decode cX7_readsTurn 51 = .ok (.if_icmp .ne 5, 3) := by decide +kernel
theorem dX7_readsTurn_54 : decode cX7_readsTurn 54 = .ok (.iload_n 1, 1) := by decide +kernel
theorem dX7_readsTurn_55 : decode cX7_readsTurn 55 = .ok (.ireturn, 1) := by decide +kernel
theorem dX7_readsTurn_56 : decode cX7_readsTurn 56 = .ok (.iconst 0, 1) := by decide +kernel
theorem dX7_readsTurn_57 : decode cX7_readsTurn 57 = .ok (.istore_n 2, 1) := by decide +kernel
theorem dX7_readsTurn_58 : decode cX7_readsTurn 58 = .ok (.iload_n 2, 1) := by decide +kernel
theorem dX7_readsTurn_59 : decode cX7_readsTurn 59 = .ok (.iload_n 1, 1) := by decide +kernel
theorem dX7_readsTurn_60 : decode cX7_readsTurn 60 = .ok (.if_icmp .ge 49, 3) := by decide +kernel
theorem dX7_readsTurn_63 : decode cX7_readsTurn 63 = .ok (.aload_n 0, 1) := by decide +kernel
theorem dX7_readsTurn_64 : decode cX7_readsTurn 64 = .ok (.aload_n 0, 1) := by decide +kernel
theorem dX7_readsTurn_65 : decode cX7_readsTurn 65 = .ok (.getfield 155, 3) := by decide +kernel
theorem dX7_readsTurn_68 : decode cX7_readsTurn 68 = .ok (.aload_n 0, 1) := by decide +kernel
theorem dX7_readsTurn_69 : decode cX7_readsTurn 69 = .ok (.getfield 22, 3) := by decide +kernel
theorem dX7_readsTurn_72 : decode cX7_readsTurn 72 = .ok (.sipush 270, 3) := by decide +kernel
theorem dX7_readsTurn_75 : decode cX7_readsTurn 75 = .ok (.iload_n 2, 1) := by decide +kernel
theorem dX7_readsTurn_76 : decode cX7_readsTurn 76 = .ok (.iadd, 1) := by decide +kernel
theorem dX7_readsTurn_77 : decode cX7_readsTurn 77 = .ok (.iaload, 1) := by decide +kernel
theorem dX7_readsTurn_78 : decode cX7_readsTurn 78 = .ok (.bipush 97, 2) := by decide +kernel
theorem dX7_readsTurn_80 : decode cX7_readsTurn 80 = .ok (.isub, 1) := by decide +kernel
theorem dX7_readsTurn_81 : decode cX7_readsTurn 81 = .ok (.aload_n 0, 1) := by decide +kernel
theorem dX7_readsTurn_82 : decode cX7_readsTurn 82 = .ok (.getfield 22, 3) := by decide +kernel
theorem dX7_readsTurn_85 : decode cX7_readsTurn 85 = .ok (.sipush 271, 3) := by decide +kernel
theorem dX7_readsTurn_88 : decode cX7_readsTurn 88 = .ok (.iload_n 2, 1) := by decide +kernel
theorem dX7_readsTurn_89 : decode cX7_readsTurn 89 = .ok (.iadd, 1) := by decide +kernel
theorem dX7_readsTurn_90 : decode cX7_readsTurn 90 = .ok (.iaload, 1) := by decide +kernel
theorem dX7_readsTurn_91 : decode cX7_readsTurn 91 = .ok (.bipush 97, 2) := by decide +kernel
theorem dX7_readsTurn_93 : decode cX7_readsTurn 93 = .ok (.isub, 1) := by decide +kernel
theorem dX7_readsTurn_94 : decode cX7_readsTurn 94 = .ok (.invokestatic 158, 3) := by decide +kernel
theorem dX7_readsTurn_97 : decode cX7_readsTurn 97 = .ok (.invokestatic 161, 3) := by decide +kernel
theorem dX7_readsTurn_100 : decode cX7_readsTurn 100 = .ok (.putfield 155, 3) := by decide +kernel
theorem dX7_readsTurn_103 : decode cX7_readsTurn 103 = .ok (.iinc 2 2, 3) := by decide +kernel
theorem dX7_readsTurn_106 : decode cX7_readsTurn 106 = .ok (.goto (-48), 3) := by decide +kernel
theorem dX7_readsTurn_109 : decode cX7_readsTurn 109 = .ok (.iconst (-1), 1) := by decide +kernel
theorem dX7_readsTurn_110 : decode cX7_readsTurn 110 = .ok (.ireturn, 1) := by decide +kernel
theorem dX7_readsText_0 : decode cX7_readsText 0 = .ok (.iload_n 1, 1) := by decide +kernel
theorem dX7_readsText_1 : decode cX7_readsText 1 = .ok (.bipush 8, 2) := by decide +kernel
theorem dX7_readsText_3 : decode cX7_readsText 3 = .ok (.if_icmp .ge 11, 3) := by decide +kernel
theorem dX7_readsText_6 : decode cX7_readsText 6 = .ok (.aload_n 0, 1) := by decide +kernel
theorem dX7_readsText_7 : decode cX7_readsText 7 = .ok (.iload_n 1, 1) := by decide +kernel
theorem dX7_readsText_8 : decode cX7_readsText 8 = .ok (.invokevirtual 164, 3) := by decide +kernel
theorem dX7_readsText_11 : decode cX7_readsText 11 = .ok (.goto 20, 3) := by decide +kernel
theorem dX7_readsText_14 : decode cX7_readsText 14 = .ok (.iload_n 1, 1) := by decide +kernel
theorem dX7_readsText_15 : decode cX7_readsText 15 = .ok (.bipush 8, 2) := by decide +kernel
theorem dX7_readsText_17 : decode cX7_readsText 17 = .ok (.if_icmp .ne 10, 3) := by decide +kernel
theorem dX7_readsText_20 : decode cX7_readsText 20 = .ok (.aload_n 0, 1) := by decide +kernel
theorem dX7_readsText_21 : decode cX7_readsText 21 = .ok (.invokevirtual 167, 3) := by decide +kernel
theorem dX7_readsText_24 : decode cX7_readsText 24 = .ok (.goto 7, 3) := by decide +kernel
theorem dX7_readsText_27 : decode cX7_readsText 27 = .ok (.aload_n 0, 1) := by decide +kernel
theorem dX7_readsText_28 : decode cX7_readsText 28 = .ok (.invokevirtual 171, 3) := by decide +kernel
theorem dX7_readsText_31 : decode cX7_readsText 31 = .ok (.ireturn, 1) := by decide +kernel
theorem dX7_readsAll_0 : decode cX7_readsAll 0 = .ok (.iconst 0, 1) := by decide +kernel
theorem dX7_readsAll_1 : decode cX7_readsAll 1 = .ok (.istore_n 1, 1) := by decide +kernel
theorem dX7_readsAll_2 : decode cX7_readsAll 2 = .ok (.iload_n 1, 1) := by decide +kernel
theorem dX7_readsAll_3 : decode cX7_readsAll 3 = .ok (.bipush 10, 2) := by decide +kernel
theorem dX7_readsAll_5 : decode cX7_readsAll 5 = .ok (.if_icmp .ge 15, 3) := by decide +kernel
theorem dX7_readsAll_8 : decode cX7_readsAll 8 = .ok (.aload_n 0, 1) := by decide +kernel
theorem dX7_readsAll_9 : decode cX7_readsAll 9 = .ok (.iload_n 1, 1) := by decide +kernel
theorem dX7_readsAll_10 : decode cX7_readsAll 10 = .ok (.invokevirtual 174, 3) := by decide +kernel
theorem dX7_readsAll_13 : decode cX7_readsAll 13 = .ok (.pop, 1) := by decide +kernel
theorem dX7_readsAll_14 : decode cX7_readsAll 14 = .ok (.iinc 1 1, 3) := by decide +kernel
theorem dX7_readsAll_17 : decode cX7_readsAll 17 = .ok (.goto (-15), 3) := by decide +kernel
theorem dX7_readsAll_20 : decode cX7_readsAll 20 = .ok (.return_, 1) := by decide +kernel
theorem dX7_fault_0 : decode cX7_fault 0 = .ok (.iload_n 1, 1) := by decide +kernel
theorem dX7_fault_1 : decode cX7_fault 1 = .ok (.invokestatic 128, 3) := by decide +kernel
theorem dX7_fault_4 : decode cX7_fault 4 = .ok (.ifCond .eq 11, 3) := by decide +kernel
theorem dX7_fault_7 : decode cX7_fault 7 = .ok (.aload_n 0, 1) := by decide +kernel
theorem dX7_fault_8 : decode cX7_fault 8 = .ok (.iload_n 1, 1) := by decide +kernel
theorem dX7_fault_9 : decode cX7_fault 9 = .ok (.invokevirtual 174, 3) := by decide +kernel
theorem dX7_fault_12 : decode cX7_fault 12 = .ok (.goto 5, 3) := by decide +kernel
theorem dX7_fault_15 : decode cX7_fault 15 = .ok (.bipush (-2), 2) := by decide +kernel
theorem dX7_fault_17 : decode cX7_fault 17 = .ok (.ireturn, 1) := by decide +kernel
theorem dX7_read_0 : decode cX7_read 0 = .ok (.iload_n 1, 1) := by decide +kernel
theorem dX7_read_1 : decode cX7_read 1 = .ok (.invokestatic 128, 3) := by decide +kernel
theorem dX7_read_4 : decode cX7_read 4 = .ok (.ifCond .eq 10, 3) := by decide +kernel
theorem dX7_read_7 : decode cX7_read 7 = .ok (.iload_n 2, 1) := by decide +kernel
theorem dX7_read_8 : decode cX7_read 8 = .ok (.invokestatic 104, 3) := by decide +kernel
theorem dX7_read_11 : decode cX7_read 11 = .ok (.ifCond .ne 6, 3) := by decide +kernel
theorem dX7_read_14 : decode cX7_read 14 = .ok (.bipush (-2), 2) := by decide +kernel
theorem dX7_read_16 : decode cX7_read 16 = .ok (.ireturn, 1) := by decide +kernel
theorem dX7_read_17 : decode cX7_read 17 = .ok (.aload_n 0, 1) := by decide +kernel
theorem dX7_read_18 : decode cX7_read 18 = .ok (.getfield 7, 3) := by decide +kernel
theorem dX7_read_21 : decode cX7_read 21 = .ok (.iload_n 2, 1) := by decide +kernel
theorem dX7_read_22 : decode cX7_read 22 = .ok (.iaload, 1) := by decide +kernel
theorem dX7_read_23 : decode cX7_read 23 = .ok (.ifCond .ge 9, 3) := by decide +kernel
theorem dX7_read_26 : decode cX7_read 26 = .ok (.aload_n 0, 1) := by decide +kernel
theorem dX7_read_27 : decode cX7_read 27 = .ok (.iconst 1, 1) := by decide +kernel
theorem dX7_read_28 : decode cX7_read 28 = .ok (.invokevirtual 110, 3) := by decide +kernel
theorem dX7_read_31 : decode cX7_read 31 = .ok (.ireturn, 1) := by decide +kernel
theorem dX7_read_32 : decode cX7_read 32 = .ok (.iconst 0, 1) := by decide +kernel
theorem dX7_read_33 : decode cX7_read 33 = .ok (.istore_n 3, 1) := by decide +kernel
theorem dX7_read_34 : decode cX7_read 34 = .ok (.iload_n 3, 1) := by decide +kernel
theorem dX7_read_35 : decode cX7_read 35 = .ok (.aload_n 0, 1) := by decide +kernel
theorem dX7_read_36 : decode cX7_read 36 = .ok (.getfield 13, 3) := by decide +kernel
theorem dX7_read_39 : decode cX7_read 39 = .ok (.iload_n 2, 1) := by decide +kernel
theorem dX7_read_40 : decode cX7_read 40 = .ok (.iaload, 1) := by decide +kernel
theorem dX7_read_41 : decode cX7_read 41 = .ok (.if_icmp .ge 28, 3) := by decide +kernel
theorem dX7_read_44 : decode cX7_read 44 = .ok (.aload_n 0, 1) := by decide +kernel
theorem dX7_read_45 : decode cX7_read 45 = .ok (.iload_n 1, 1) := by decide +kernel
theorem dX7_read_46 : decode cX7_read 46 = .ok (.aload_n 0, 1) := by decide +kernel
theorem dX7_read_47 : decode cX7_read 47 = .ok (.getfield 16, 3) := by decide +kernel
theorem dX7_read_50 : decode cX7_read 50 = .ok (.bipush 60, 2) := by decide +kernel
theorem dX7_read_52 : decode cX7_read 52 = .ok (.iload_n 2, 1) := by decide +kernel
theorem dX7_read_53 : decode cX7_read 53 = .ok (.imul, 1) := by decide +kernel
theorem dX7_read_54 : decode cX7_read 54 = .ok (.iload_n 3, 1) := by decide +kernel
theorem dX7_read_55 : decode cX7_read 55 = .ok (.iadd, 1) := by decide +kernel
theorem dX7_read_56 : decode cX7_read 56 = .ok (.iaload, 1) := by decide +kernel
theorem dX7_read_57 : decode cX7_read 57 = .ok (.invokevirtual 177, 3) := by decide +kernel
theorem dX7_read_60 : decode cX7_read 60 = .ok (.ifCond .lt 9, 3) := by decide +kernel
theorem dX7_read_63 : decode cX7_read 63 = .ok (.iinc 3 1, 3) := by decide +kernel
theorem dX7_read_66 : decode cX7_read 66 = .ok (.goto (-32), 3) := by decide +kernel
theorem dX7_read_69 : decode cX7_read 69 = .ok (.iload_n 3, 1) := by decide +kernel
theorem dX7_read_70 : decode cX7_read 70 = .ok (.ireturn, 1) := by decide +kernel
theorem dX7_isName_0 : decode cX7_isName 0 = .ok (.iload_n 0, 1) := by decide +kernel
theorem dX7_isName_1 : decode cX7_isName 1 = .ok (.i2l, 1) := by decide +kernel
theorem dX7_isName_2 : decode cX7_isName 2 = .ok (.lconst 0, 1) := by decide +kernel
theorem dX7_isName_3 : decode cX7_isName 3 = .ok (.ldc2_w 180, 3) := by decide +kernel
theorem dX7_isName_6 : decode cX7_isName 6 = .ok (.invokestatic 94, 3) := by decide +kernel
theorem dX7_isName_9 : decode cX7_isName 9 = .ok (.ireturn, 1) := by decide +kernel
theorem dX7_turnBy_0 : decode cX7_turnBy 0 = .ok (.iload_n 2, 1) := by decide +kernel
theorem dX7_turnBy_1 : decode cX7_turnBy 1 = .ok (.ifCond .ne 10, 3) := by decide +kernel
theorem dX7_turnBy_4 : decode cX7_turnBy 4 = .ok (.aload_n 0, 1) := by decide +kernel
theorem dX7_turnBy_5 : decode cX7_turnBy 5 = .ok (.getfield 155, 3) := by decide +kernel
theorem dX7_turnBy_8 : decode cX7_turnBy 8 = .ok (.goto 10, 3) := by decide +kernel
theorem dX7_turnBy_11 : decode cX7_turnBy 11 = .ok (.aload_n 0, 1) := by decide +kernel
theorem dX7_turnBy_12 : decode cX7_turnBy 12 = .ok (.getfield 155, 3) := by decide +kernel
theorem dX7_turnBy_15 : decode cX7_turnBy 15 = .ok (.invokestatic 182, 3) := by decide +kernel
theorem dX7_turnBy_18 : decode cX7_turnBy 18 = .ok (.iload_n 1, 1) := by decide +kernel
theorem dX7_turnBy_19 : decode cX7_turnBy 19 = .ok (.invokestatic 123, 3) := by decide +kernel
theorem dX7_turnBy_22 : decode cX7_turnBy 22 = .ok (.ireturn, 1) := by decide +kernel
theorem dX7_turn_0 : decode cX7_turn 0 = .ok (.aload_n 0, 1) := by decide +kernel
theorem dX7_turn_1 : decode cX7_turn 1 = .ok (.invokevirtual 171, 3) := by decide +kernel
theorem dX7_turn_4 : decode cX7_turn 4 = .ok (.pop, 1) := by decide +kernel
theorem dX7_turn_5 : decode cX7_turn 5 = .ok (.iload_n 1, 1) := by decide +kernel
theorem dX7_turn_6 : decode cX7_turn 6 = .ok (.invokestatic 185, 3) := by decide +kernel
theorem dX7_turn_9 : decode cX7_turn 9 = .ok (.ifCond .eq 19, 3) := by decide +kernel
theorem dX7_turn_12 : decode cX7_turn 12 = .ok (.iload_n 2, 1) := by decide +kernel
theorem dX7_turn_13 : decode cX7_turn 13 = .ok (.invokestatic 188, 3) := by decide +kernel
theorem dX7_turn_16 : decode cX7_turn 16 = .ok (.ifCond .eq 12, 3) := by decide +kernel
theorem dX7_turn_19 : decode cX7_turn 19 = .ok (.aload_n 0, 1) := by decide +kernel
theorem dX7_turn_20 : decode cX7_turn 20 = .ok (.iload_n 1, 1) := by decide +kernel
theorem dX7_turn_21 : decode cX7_turn 21 = .ok (.iload_n 2, 1) := by decide +kernel
theorem dX7_turn_22 : decode cX7_turn 22 = .ok (.invokevirtual 191, 3) := by decide +kernel
theorem dX7_turn_25 : decode cX7_turn 25 = .ok (.goto 5, 3) := by decide +kernel
theorem dX7_turn_28 : decode cX7_turn 28 = .ok (.bipush (-2), 2) := by decide +kernel
theorem dX7_turn_30 : decode cX7_turn 30 = .ok (.ireturn, 1) := by decide +kernel
theorem dX7_powerBy_0 : decode cX7_powerBy 0 = .ok (.iload_n 2, 1) := by decide +kernel
theorem dX7_powerBy_1 : decode cX7_powerBy 1 = .ok (.bipush 60, 2) := by decide +kernel
theorem dX7_powerBy_3 : decode cX7_powerBy 3 = .ok (.irem, 1) := by decide +kernel
theorem dX7_powerBy_4 : decode cX7_powerBy 4 = .ok (.bipush 60, 2) := by decide +kernel
theorem dX7_powerBy_6 : decode cX7_powerBy 6 = .ok (.iadd, 1) := by decide +kernel
theorem dX7_powerBy_7 : decode cX7_powerBy 7 = .ok (.bipush 60, 2) := by decide +kernel
theorem dX7_powerBy_9 : decode cX7_powerBy 9 = .ok (.irem, 1) := by decide +kernel
theorem dX7_powerBy_10 : decode cX7_powerBy 10 = .ok (.istore_n 3, 1) := by decide +kernel
theorem dX7_powerBy_11 : decode cX7_powerBy 11 = .ok (.iload_n 1, 1) := by decide +kernel
theorem dX7_powerBy_12 : decode cX7_powerBy 12 = .ok (.istore 4, 2) := by decide +kernel
theorem dX7_powerBy_14 : decode cX7_powerBy 14 = .ok (.iconst 0, 1) := by decide +kernel
theorem dX7_powerBy_15 : decode cX7_powerBy 15 = .ok (.istore 5, 2) := by decide +kernel
theorem dX7_powerBy_17 : decode cX7_powerBy 17 = .ok (.iload 5, 2) := by decide +kernel
theorem dX7_powerBy_19 : decode cX7_powerBy 19 = .ok (.iload_n 3, 1) := by decide +kernel
theorem dX7_powerBy_20 : decode cX7_powerBy 20 = .ok (.if_icmp .ge 20, 3) := by decide +kernel
theorem dX7_powerBy_23 : decode cX7_powerBy 23 = .ok (.aload_n 0, 1) := by decide +kernel
theorem dX7_powerBy_24 : decode cX7_powerBy 24 = .ok (.getfield 155, 3) := by decide +kernel
theorem dX7_powerBy_27 : decode cX7_powerBy 27 = .ok (.iload 4, 2) := by decide +kernel
theorem dX7_powerBy_29 : decode cX7_powerBy 29 = .ok (.invokestatic 123, 3) := by decide +kernel
theorem dX7_powerBy_32 : decode cX7_powerBy 32 = .ok (.istore 4, 2) := by decide +kernel
theorem dX7_powerBy_34 : decode cX7_powerBy 34 = .ok (.iinc 5 1, 3) := by decide +kernel
theorem dX7_powerBy_37 : decode cX7_powerBy 37 = .ok (.goto (-20), 3) := by decide +kernel
theorem dX7_powerBy_40 : decode cX7_powerBy 40 = .ok (.iload 4, 2) := by decide +kernel
theorem dX7_powerBy_42 : decode cX7_powerBy 42 = .ok (.ireturn, 1) := by decide +kernel
theorem dX7_power_0 : decode cX7_power 0 = .ok (.aload_n 0, 1) := by decide +kernel
theorem dX7_power_1 : decode cX7_power 1 = .ok (.invokevirtual 171, 3) := by decide +kernel
theorem dX7_power_4 : decode cX7_power 4 = .ok (.pop, 1) := by decide +kernel
theorem dX7_power_5 : decode cX7_power 5 = .ok (.iload_n 1, 1) := by decide +kernel
theorem dX7_power_6 : decode cX7_power 6 = .ok (.invokestatic 185, 3) := by decide +kernel
theorem dX7_power_9 : decode cX7_power 9 = .ok (.ifCond .eq 12, 3) := by decide +kernel
theorem dX7_power_12 : decode cX7_power 12 = .ok (.aload_n 0, 1) := by decide +kernel
theorem dX7_power_13 : decode cX7_power 13 = .ok (.iload_n 1, 1) := by decide +kernel
theorem dX7_power_14 : decode cX7_power 14 = .ok (.iload_n 2, 1) := by decide +kernel
theorem dX7_power_15 : decode cX7_power 15 = .ok (.invokevirtual 194, 3) := by decide +kernel
theorem dX7_power_18 : decode cX7_power 18 = .ok (.goto 5, 3) := by decide +kernel
theorem dX7_power_21 : decode cX7_power 21 = .ok (.bipush (-2), 2) := by decide +kernel
theorem dX7_power_23 : decode cX7_power 23 = .ok (.ireturn, 1) := by decide +kernel
theorem dX7_orderNow_0 : decode cX7_orderNow 0 = .ok (.iconst 1, 1) := by decide +kernel
theorem dX7_orderNow_1 : decode cX7_orderNow 1 = .ok (.istore_n 1, 1) := by decide +kernel
theorem dX7_orderNow_2 : decode cX7_orderNow 2 = .ok (.aload_n 0, 1) := by decide +kernel
theorem dX7_orderNow_3 : decode cX7_orderNow 3 = .ok (.getfield 155, 3) := by decide +kernel
theorem dX7_orderNow_6 : decode cX7_orderNow 6 = .ok (.istore_n 2, 1) := by decide +kernel
theorem dX7_orderNow_7 : decode cX7_orderNow 7 = .ok (.iload_n 2, 1) := by decide +kernel
theorem dX7_orderNow_8 : decode cX7_orderNow 8 = .ok (.ldc 154, 2) := by decide +kernel
theorem dX7_orderNow_10 : decode cX7_orderNow 10 = .ok (.if_icmp .eq 18, 3) := by decide +kernel
theorem dX7_orderNow_13 : decode cX7_orderNow 13 = .ok (.aload_n 0, 1) := by decide +kernel
theorem dX7_orderNow_14 : decode cX7_orderNow 14 = .ok (.getfield 155, 3) := by decide +kernel
theorem dX7_orderNow_17 : decode cX7_orderNow 17 = .ok (.iload_n 2, 1) := by decide +kernel
theorem dX7_orderNow_18 : decode cX7_orderNow 18 = .ok (.invokestatic 161, 3) := by decide +kernel
theorem dX7_orderNow_21 : decode cX7_orderNow 21 = .ok (.istore_n 2, 1) := by decide +kernel
theorem dX7_orderNow_22 : decode cX7_orderNow 22 = .ok (.iinc 1 1, 3) := by decide +kernel
theorem dX7_orderNow_25 : decode cX7_orderNow 25 = .ok (.goto (-18), 3) := by decide +kernel
theorem dX7_orderNow_28 : decode cX7_orderNow 28 = .ok (.iload_n 1, 1) := by decide +kernel
theorem dX7_orderNow_29 : decode cX7_orderNow 29 = .ok (.ireturn, 1) := by decide +kernel
theorem dX7_stays_0 : decode cX7_stays 0 = .ok (.iconst 0, 1) := by decide +kernel
theorem dX7_stays_1 : decode cX7_stays 1 = .ok (.istore_n 1, 1) := by decide +kernel
theorem dX7_stays_2 : decode cX7_stays 2 = .ok (.iconst 0, 1) := by decide +kernel
theorem dX7_stays_3 : decode cX7_stays 3 = .ok (.istore_n 2, 1) := by decide +kernel
theorem dX7_stays_4 : decode cX7_stays 4 = .ok (.iload_n 2, 1) := by decide +kernel
theorem dX7_stays_5 : decode cX7_stays 5 = .ok (.bipush 6, 2) := by decide +kernel
theorem dX7_stays_7 : decode cX7_stays 7 = .ok (.if_icmp .ge 31, 3) := by decide +kernel
theorem dX7_stays_10 : decode cX7_stays 10 = .ok (.iload_n 1, 1) := by decide +kernel
theorem dX7_stays_11 : decode cX7_stays 11 = .ok (.aload_n 0, 1) := by decide +kernel
theorem dX7_stays_12 : decode cX7_stays 12 = .ok (.getfield 155, 3) := by decide +kernel
theorem dX7_stays_15 : decode cX7_stays 15 = .ok (.iload_n 2, 1) := by decide +kernel
theorem dX7_stays_16 : decode cX7_stays 16 = .ok (.invokestatic 123, 3) := by decide +kernel
theorem dX7_stays_19 : decode cX7_stays 19 = .ok (.iload_n 2, 1) := by decide +kernel
theorem dX7_stays_20 : decode cX7_stays 20 = .ok (.if_icmp .ne 9, 3) := by decide +kernel
theorem dX7_stays_23 : decode cX7_stays 23 = .ok (.iconst 1, 1) := by decide +kernel
theorem dX7_stays_24 : decode cX7_stays 24 = .ok (.iload_n 2, 1) := by decide +kernel
theorem dX7_stays_25 : decode cX7_stays 25 = .ok (.ishl, 1) := by decide +kernel
theorem dX7_stays_26 : decode cX7_stays 26 = .ok (.goto 4, 3) := by decide +kernel
theorem dX7_stays_29 : decode cX7_stays 29 = .ok (.iconst 0, 1) := by decide +kernel
theorem dX7_stays_30 : decode cX7_stays 30 = .ok (.ior, 1) := by decide +kernel
theorem dX7_stays_31 : decode cX7_stays 31 = .ok (.istore_n 1, 1) := by decide +kernel
theorem dX7_stays_32 : decode cX7_stays 32 = .ok (.iinc 2 1, 3) := by decide +kernel
theorem dX7_stays_35 : decode cX7_stays 35 = .ok (.goto (-31), 3) := by decide +kernel
theorem dX7_stays_38 : decode cX7_stays 38 = .ok (.iload_n 1, 1) := by decide +kernel
theorem dX7_stays_39 : decode cX7_stays 39 = .ok (.ireturn, 1) := by decide +kernel
theorem dX7_rings_0 : decode cX7_rings 0 = .ok (.aload_n 0, 1) := by decide +kernel
theorem dX7_rings_1 : decode cX7_rings 1 = .ok (.invokevirtual 197, 3) := by decide +kernel
theorem dX7_rings_4 : decode cX7_rings 4 = .ok (.istore_n 1, 1) := by decide +kernel
theorem dX7_rings_5 : decode cX7_rings 5 = .ok (.iconst 0, 1) := by decide +kernel
theorem dX7_rings_6 : decode cX7_rings 6 = .ok (.istore_n 2, 1) := by decide +kernel
theorem dX7_rings_7 : decode cX7_rings 7 = .ok (.iconst 0, 1) := by decide +kernel
theorem dX7_rings_8 : decode cX7_rings 8 = .ok (.istore_n 3, 1) := by decide +kernel
theorem dX7_rings_9 : decode cX7_rings 9 = .ok (.iload_n 3, 1) := by decide +kernel
theorem dX7_rings_10 : decode cX7_rings 10 = .ok (.bipush 6, 2) := by decide +kernel
theorem dX7_rings_12 : decode cX7_rings 12 = .ok (.if_icmp .ge 58, 3) := by decide +kernel
theorem dX7_rings_15 : decode cX7_rings 15 = .ok (.iload_n 2, 1) := by decide +kernel
theorem dX7_rings_16 : decode cX7_rings 16 = .ok (.iload_n 1, 1) := by decide +kernel
theorem dX7_rings_17 : decode cX7_rings 17 = .ok (.iload_n 3, 1) := by decide +kernel
theorem dX7_rings_18 : decode cX7_rings 18 = .ok (.invokestatic 200, 3) := by decide +kernel
theorem dX7_rings_21 : decode cX7_rings 21 = .ok (.ifCond .eq 7, 3) := by decide +kernel
theorem dX7_rings_24 : decode cX7_rings 24 = .ok (.iconst 0, 1) := by decide +kernel
theorem dX7_rings_25 : decode cX7_rings 25 = .ok (.goto 4, 3) := by decide +kernel
theorem dX7_rings_28 : decode cX7_rings 28 = .ok (.iconst 1, 1) := by decide +kernel
theorem dX7_rings_29 : decode cX7_rings 29 = .ok (.iadd, 1) := by decide +kernel
theorem dX7_rings_30 : decode cX7_rings 30 = .ok (.istore_n 2, 1) := by decide +kernel
theorem dX7_rings_31 : decode cX7_rings 31 = .ok (.iload_n 3, 1) := by decide +kernel
theorem dX7_rings_32 : decode cX7_rings 32 = .ok (.istore 4, 2) := by decide +kernel
theorem dX7_rings_34 : decode cX7_rings 34 = .ok (.iload_n 1, 1) := by decide +kernel
theorem dX7_rings_35 : decode cX7_rings 35 = .ok (.iload 4, 2) := by decide +kernel
theorem dX7_rings_37 : decode cX7_rings 37 = .ok (.invokestatic 200, 3) := by decide +kernel
theorem dX7_rings_40 : decode cX7_rings 40 = .ok (.ifCond .ne 24, 3) := by decide +kernel
theorem dX7_rings_43 : decode cX7_rings 43 = .ok (.iload_n 1, 1) := by decide +kernel
theorem dX7_rings_44 : decode cX7_rings 44 = .ok (.iconst 1, 1) := by decide +kernel
theorem dX7_rings_45 : decode cX7_rings 45 = .ok (.iload 4, 2) := by decide +kernel
theorem dX7_rings_47 : decode cX7_rings 47 = .ok (.ishl, 1) := by decide +kernel
theorem dX7_rings_48 : decode cX7_rings 48 = .ok (.ior, 1) := by decide +kernel
theorem dX7_rings_49 : decode cX7_rings 49 = .ok (.istore_n 1, 1) := by decide +kernel
theorem dX7_rings_50 : decode cX7_rings 50 = .ok (.aload_n 0, 1) := by decide +kernel
theorem dX7_rings_51 : decode cX7_rings 51 = .ok (.getfield 155, 3) := by decide +kernel
theorem dX7_rings_54 : decode cX7_rings 54 = .ok (.iload 4, 2) := by decide +kernel
theorem dX7_rings_56 : decode cX7_rings 56 = .ok (.invokestatic 123, 3) := by decide +kernel
theorem dX7_rings_59 : decode cX7_rings 59 = .ok (.istore 4, 2) := by decide +kernel
theorem dX7_rings_61 : decode cX7_rings 61 = .ok (.goto (-27), 3) := by decide +kernel
theorem dX7_rings_64 : decode cX7_rings 64 = .ok (.iinc 3 1, 3) := by decide +kernel
theorem dX7_rings_67 : decode cX7_rings 67 = .ok (.goto (-58), 3) := by decide +kernel
theorem dX7_rings_70 : decode cX7_rings 70 = .ok (.iload_n 2, 1) := by decide +kernel
theorem dX7_rings_71 : decode cX7_rings 71 = .ok (.ireturn, 1) := by decide +kernel
theorem dX7_tells_0 : decode cX7_tells 0 = .ok (.aload_n 0, 1) := by decide +kernel
theorem dX7_tells_1 : decode cX7_tells 1 = .ok (.getfield 204, 3) := by decide +kernel
theorem dX7_tells_4 : decode cX7_tells 4 = .ok (.bipush 60, 2) := by decide +kernel
theorem dX7_tells_6 : decode cX7_tells 6 = .ok (.if_icmp .ge 23, 3) := by decide +kernel
theorem dX7_tells_9 : decode cX7_tells 9 = .ok (.aload_n 0, 1) := by decide +kernel
theorem dX7_tells_10 : decode cX7_tells 10 = .ok (.getfield 46, 3) := by decide +kernel
theorem dX7_tells_13 : decode cX7_tells 13 = .ok (.aload_n 0, 1) := by decide +kernel
theorem dX7_tells_14 : decode cX7_tells 14 = .ok (.getfield 204, 3) := by decide +kernel
theorem dX7_tells_17 : decode cX7_tells 17 = .ok (.iload_n 1, 1) := by decide +kernel
theorem dX7_tells_18 : decode cX7_tells 18 = .ok (.iastore, 1) := by decide +kernel
theorem dX7_tells_19 : decode cX7_tells 19 = .ok (.aload_n 0, 1) := by decide +kernel
theorem dX7_tells_20 : decode cX7_tells 20 = .ok (.dup, 1) := by decide +kernel
theorem dX7_tells_21 : decode cX7_tells 21 = .ok (.getfield 204, 3) := by decide +kernel
theorem dX7_tells_24 : decode cX7_tells 24 = .ok (.iconst 1, 1) := by decide +kernel
theorem dX7_tells_25 : decode cX7_tells 25 = .ok (.iadd, 1) := by decide +kernel
theorem dX7_tells_26 : decode cX7_tells 26 = .ok (.putfield 204, 3) := by decide +kernel
theorem dX7_tells_29 : decode cX7_tells 29 = .ok (.return_, 1) := by decide +kernel
theorem dX7_tellsTurn_0 : decode cX7_tellsTurn 0 = .ok (.iload_n 1, 1) := by decide +kernel
theorem dX7_tellsTurn_1 : decode cX7_tellsTurn 1 = .ok (.istore_n 2, 1) := by decide +kernel
theorem dX7_tellsTurn_2 : decode cX7_tellsTurn 2 = .ok (.iconst 0, 1) := by decide +kernel
theorem dX7_tellsTurn_3 : decode cX7_tellsTurn 3 = .ok (.istore_n 3, 1) := by decide +kernel
theorem dX7_tellsTurn_4 : decode cX7_tellsTurn 4 = .ok (.iconst 0, 1) := by decide +kernel
theorem dX7_tellsTurn_5 : decode cX7_tellsTurn 5 = .ok (.istore 4, 2) := by decide +kernel
theorem dX7_tellsTurn_7 : decode cX7_tellsTurn 7 = .ok (.iload 4, 2) := by decide +kernel
theorem dX7_tellsTurn_9 : decode cX7_tellsTurn 9 = .ok (.bipush 6, 2) := by decide +kernel
theorem dX7_tellsTurn_11 : decode cX7_tellsTurn 11 = .ok (.if_icmp .ge 63, 3) := by decide +kernel
theorem dX7_tellsTurn_14 : decode cX7_tellsTurn 14 = .ok (.iload_n 2, 1) := by decide +kernel
theorem dX7_tellsTurn_15 : decode cX7_tellsTurn 15 = .ok (.iload 4, 2) := by decide +kernel
theorem dX7_tellsTurn_17 : decode cX7_tellsTurn 17 = .ok (.invokestatic 123, 3) := by decide +kernel
theorem dX7_tellsTurn_20 : decode cX7_tellsTurn 20 = .ok (.istore 5, 2) := by decide +kernel
theorem dX7_tellsTurn_22 : decode cX7_tellsTurn 22 = .ok (.iload 5, 2) := by decide +kernel
theorem dX7_tellsTurn_24 : decode cX7_tellsTurn 24 = .ok (.iload 4, 2) := by decide +kernel
theorem dX7_tellsTurn_26 : decode cX7_tellsTurn 26 = .ok (.if_icmp .eq 42, 3) := by decide +kernel
theorem dX7_tellsTurn_29 : decode cX7_tellsTurn 29 = .ok (.aload_n 0, 1) := by decide +kernel
theorem dX7_tellsTurn_30 : decode cX7_tellsTurn 30 = .ok (.bipush 33, 2) := by decide +kernel
theorem dX7_tellsTurn_32 : decode cX7_tellsTurn 32 = .ok (.invokevirtual 207, 3) := by decide +kernel
theorem dX7_tellsTurn_35 : decode cX7_tellsTurn 35 = .ok (.aload_n 0, 1) := by decide +kernel
theorem dX7_tellsTurn_36 : decode cX7_tellsTurn 36 = .ok (.bipush 97, 2) := by decide +kernel
theorem dX7_tellsTurn_38 : decode cX7_tellsTurn 38 = .ok (.iload 4, 2) := by decide +kernel
theorem dX7_tellsTurn_40 : decode cX7_tellsTurn 40 = .ok (.iadd, 1) := by decide +kernel
theorem dX7_tellsTurn_41 : decode cX7_tellsTurn 41 = .ok (.invokevirtual 207, 3) := by decide +kernel
theorem dX7_tellsTurn_44 : decode cX7_tellsTurn 44 = .ok (.aload_n 0, 1) := by decide +kernel
theorem dX7_tellsTurn_45 : decode cX7_tellsTurn 45 = .ok (.bipush 97, 2) := by decide +kernel
theorem dX7_tellsTurn_47 : decode cX7_tellsTurn 47 = .ok (.iload 5, 2) := by decide +kernel
theorem dX7_tellsTurn_49 : decode cX7_tellsTurn 49 = .ok (.iadd, 1) := by decide +kernel
theorem dX7_tellsTurn_50 : decode cX7_tellsTurn 50 = .ok (.invokevirtual 207, 3) := by decide +kernel
theorem dX7_tellsTurn_53 : decode cX7_tellsTurn 53 = .ok (.iload 4, 2) := by decide +kernel
theorem dX7_tellsTurn_55 : decode cX7_tellsTurn 55 = .ok (.iload 5, 2) := by decide +kernel
theorem dX7_tellsTurn_57 : decode cX7_tellsTurn 57 = .ok (.invokestatic 158, 3) := by decide +kernel
theorem dX7_tellsTurn_60 : decode cX7_tellsTurn 60 = .ok (.iload_n 2, 1) := by decide +kernel
theorem dX7_tellsTurn_61 : decode cX7_tellsTurn 61 = .ok (.invokestatic 161, 3) := by decide +kernel
theorem dX7_tellsTurn_64 : decode cX7_tellsTurn 64 = .ok (.istore_n 2, 1) := by decide +kernel
theorem dX7_tellsTurn_65 : decode cX7_tellsTurn 65 = .ok (.iinc 3 1, 3) := by decide +kernel
theorem dX7_tellsTurn_68 : decode cX7_tellsTurn 68 = .ok (.iinc 4 1, 3) := by decide +kernel
theorem dX7_tellsTurn_71 : decode cX7_tellsTurn 71 = .ok (.goto (-64), 3) := by decide +kernel
theorem dX7_tellsTurn_74 : decode cX7_tellsTurn 74 = .ok (.iload_n 3, 1) := by decide +kernel
theorem dX7_tellsTurn_75 : decode cX7_tellsTurn 75 = .ok (.ireturn, 1) := by decide +kernel
theorem dX7_manySwaps_0 : decode cX7_manySwaps 0 = .ok (.aload_n 0, 1) := by decide +kernel
theorem dX7_manySwaps_1 : decode cX7_manySwaps 1 = .ok (.iconst 0, 1) := by decide +kernel
theorem dX7_manySwaps_2 : decode cX7_manySwaps 2 = .ok (.putfield 204, 3) := by decide +kernel
theorem dX7_manySwaps_5 : decode cX7_manySwaps 5 = .ok (.aload_n 0, 1) := by decide +kernel
theorem dX7_manySwaps_6 : decode cX7_manySwaps 6 = .ok (.aload_n 0, 1) := by decide +kernel
theorem dX7_manySwaps_7 : decode cX7_manySwaps 7 = .ok (.getfield 155, 3) := by decide +kernel
theorem dX7_manySwaps_10 : decode cX7_manySwaps 10 = .ok (.invokevirtual 211, 3) := by decide +kernel
theorem dX7_manySwaps_13 : decode cX7_manySwaps 13 = .ok (.ireturn, 1) := by decide +kernel
theorem dX7_roundsBy_0 : decode cX7_roundsBy 0 = .ok (.iload_n 1, 1) := by decide +kernel
theorem dX7_roundsBy_1 : decode cX7_roundsBy 1 = .ok (.ifCond .ne 10, 3) := by decide +kernel
theorem dX7_roundsBy_4 : decode cX7_roundsBy 4 = .ok (.aload_n 0, 1) := by decide +kernel
theorem dX7_roundsBy_5 : decode cX7_roundsBy 5 = .ok (.invokevirtual 214, 3) := by decide +kernel
theorem dX7_roundsBy_8 : decode cX7_roundsBy 8 = .ok (.goto 35, 3) := by decide +kernel
theorem dX7_roundsBy_11 : decode cX7_roundsBy 11 = .ok (.iload_n 1, 1) := by decide +kernel
theorem dX7_roundsBy_12 : decode cX7_roundsBy 12 = .ok (.iconst 1, 1) := by decide +kernel
theorem dX7_roundsBy_13 : decode cX7_roundsBy 13 = .ok (.if_icmp .ne 14, 3) := by decide +kernel
theorem dX7_roundsBy_16 : decode cX7_roundsBy 16 = .ok (.iconst 1, 1) := by decide +kernel
theorem dX7_roundsBy_17 : decode cX7_roundsBy 17 = .ok (.aload_n 0, 1) := by decide +kernel
theorem dX7_roundsBy_18 : decode cX7_roundsBy 18 = .ok (.invokevirtual 217, 3) := by decide +kernel
theorem dX7_roundsBy_21 : decode cX7_roundsBy 21 = .ok (.iconst 2, 1) := by decide +kernel
theorem dX7_roundsBy_22 : decode cX7_roundsBy 22 = .ok (.irem, 1) := by decide +kernel
theorem dX7_roundsBy_23 : decode cX7_roundsBy 23 = .ok (.isub, 1) := by decide +kernel
theorem dX7_roundsBy_24 : decode cX7_roundsBy 24 = .ok (.goto 19, 3) := by decide +kernel
theorem dX7_roundsBy_27 : decode cX7_roundsBy 27 = .ok (.iload_n 1, 1) := by decide +kernel
theorem dX7_roundsBy_28 : decode cX7_roundsBy 28 = .ok (.iconst 2, 1) := by decide +kernel
theorem dX7_roundsBy_29 : decode cX7_roundsBy 29 = .ok (.if_icmp .ne 10, 3) := by decide +kernel
theorem dX7_roundsBy_32 : decode cX7_roundsBy 32 = .ok (.aload_n 0, 1) := by decide +kernel
theorem dX7_roundsBy_33 : decode cX7_roundsBy 33 = .ok (.invokevirtual 220, 3) := by decide +kernel
theorem dX7_roundsBy_36 : decode cX7_roundsBy 36 = .ok (.goto 7, 3) := by decide +kernel
theorem dX7_roundsBy_39 : decode cX7_roundsBy 39 = .ok (.aload_n 0, 1) := by decide +kernel
theorem dX7_roundsBy_40 : decode cX7_roundsBy 40 = .ok (.invokevirtual 197, 3) := by decide +kernel
theorem dX7_roundsBy_43 : decode cX7_roundsBy 43 = .ok (.ireturn, 1) := by decide +kernel
theorem dX7_rounds_0 : decode cX7_rounds 0 = .ok (.aload_n 0, 1) := by decide +kernel
theorem dX7_rounds_1 : decode cX7_rounds 1 = .ok (.invokevirtual 171, 3) := by decide +kernel
theorem dX7_rounds_4 : decode cX7_rounds 4 = .ok (.pop, 1) := by decide +kernel
theorem dX7_rounds_5 : decode cX7_rounds 5 = .ok (.iload_n 1, 1) := by decide +kernel
theorem dX7_rounds_6 : decode cX7_rounds 6 = .ok (.i2l, 1) := by decide +kernel
theorem dX7_rounds_7 : decode cX7_rounds 7 = .ok (.lconst 0, 1) := by decide +kernel
theorem dX7_rounds_8 : decode cX7_rounds 8 = .ok (.ldc2_w 102, 3) := by decide +kernel
theorem dX7_rounds_11 : decode cX7_rounds 11 = .ok (.invokestatic 94, 3) := by decide +kernel
theorem dX7_rounds_14 : decode cX7_rounds 14 = .ok (.ifCond .eq 11, 3) := by decide +kernel
theorem dX7_rounds_17 : decode cX7_rounds 17 = .ok (.aload_n 0, 1) := by decide +kernel
theorem dX7_rounds_18 : decode cX7_rounds 18 = .ok (.iload_n 1, 1) := by decide +kernel
theorem dX7_rounds_19 : decode cX7_rounds 19 = .ok (.invokevirtual 223, 3) := by decide +kernel
theorem dX7_rounds_22 : decode cX7_rounds 22 = .ok (.goto 5, 3) := by decide +kernel
theorem dX7_rounds_25 : decode cX7_rounds 25 = .ok (.bipush (-2), 2) := by decide +kernel
theorem dX7_rounds_27 : decode cX7_rounds 27 = .ok (.ireturn, 1) := by decide +kernel
theorem dX7_toldAt_0 : decode cX7_toldAt 0 = .ok (.iload_n 1, 1) := by decide +kernel
theorem dX7_toldAt_1 : decode cX7_toldAt 1 = .ok (.iconst (-1), 1) := by decide +kernel
theorem dX7_toldAt_2 : decode cX7_toldAt 2 = .ok (.if_icmp .ne 10, 3) := by decide +kernel
theorem dX7_toldAt_5 : decode cX7_toldAt 5 = .ok (.aload_n 0, 1) := by decide +kernel
theorem dX7_toldAt_6 : decode cX7_toldAt 6 = .ok (.getfield 204, 3) := by decide +kernel
theorem dX7_toldAt_9 : decode cX7_toldAt 9 = .ok (.goto 21, 3) := by decide +kernel
theorem dX7_toldAt_12 : decode cX7_toldAt 12 = .ok (.iload_n 1, 1) := by decide +kernel
theorem dX7_toldAt_13 : decode cX7_toldAt 13 = .ok (.aload_n 0, 1) := by decide +kernel
theorem dX7_toldAt_14 : decode cX7_toldAt 14 = .ok (.getfield 204, 3) := by decide +kernel
theorem dX7_toldAt_17 : decode cX7_toldAt 17 = .ok (.if_icmp .ge 12, 3) := by decide +kernel
theorem dX7_toldAt_20 : decode cX7_toldAt 20 = .ok (.aload_n 0, 1) := by decide +kernel
theorem dX7_toldAt_21 : decode cX7_toldAt 21 = .ok (.getfield 46, 3) := by decide +kernel
theorem dX7_toldAt_24 : decode cX7_toldAt 24 = .ok (.iload_n 1, 1) := by decide +kernel
theorem dX7_toldAt_25 : decode cX7_toldAt 25 = .ok (.iaload, 1) := by decide +kernel
theorem dX7_toldAt_26 : decode cX7_toldAt 26 = .ok (.goto 4, 3) := by decide +kernel
theorem dX7_toldAt_29 : decode cX7_toldAt 29 = .ok (.iconst (-1), 1) := by decide +kernel
theorem dX7_toldAt_30 : decode cX7_toldAt 30 = .ok (.ireturn, 1) := by decide +kernel
theorem dX7_showsBy_0 : decode cX7_showsBy 0 = .ok (.aload_n 0, 1) := by decide +kernel
theorem dX7_showsBy_1 : decode cX7_showsBy 1 = .ok (.iconst 0, 1) := by decide +kernel
theorem dX7_showsBy_2 : decode cX7_showsBy 2 = .ok (.putfield 204, 3) := by decide +kernel
theorem dX7_showsBy_5 : decode cX7_showsBy 5 = .ok (.aload_n 0, 1) := by decide +kernel
theorem dX7_showsBy_6 : decode cX7_showsBy 6 = .ok (.aload_n 0, 1) := by decide +kernel
theorem dX7_showsBy_7 : decode cX7_showsBy 7 = .ok (.getfield 155, 3) := by decide +kernel
theorem dX7_showsBy_10 : decode cX7_showsBy 10 = .ok (.invokevirtual 211, 3) := by decide +kernel
theorem dX7_showsBy_13 : decode cX7_showsBy 13 = .ok (.pop, 1) := by decide +kernel
theorem dX7_showsBy_14 : decode cX7_showsBy 14 = .ok (.aload_n 0, 1) := by decide +kernel
theorem dX7_showsBy_15 : decode cX7_showsBy 15 = .ok (.iload_n 1, 1) := by decide +kernel
theorem dX7_showsBy_16 : decode cX7_showsBy 16 = .ok (.invokevirtual 226, 3) := by decide +kernel
theorem dX7_showsBy_19 : decode cX7_showsBy 19 = .ok (.ireturn, 1) := by decide +kernel
theorem dX7_shows_0 : decode cX7_shows 0 = .ok (.aload_n 0, 1) := by decide +kernel
theorem dX7_shows_1 : decode cX7_shows 1 = .ok (.invokevirtual 171, 3) := by decide +kernel
theorem dX7_shows_4 : decode cX7_shows 4 = .ok (.pop, 1) := by decide +kernel
theorem dX7_shows_5 : decode cX7_shows 5 = .ok (.iload_n 1, 1) := by decide +kernel
theorem dX7_shows_6 : decode cX7_shows 6 = .ok (.i2l, 1) := by decide +kernel
theorem dX7_shows_7 : decode cX7_shows 7 = .ok (.ldc2_w 229, 3) := by decide +kernel
theorem dX7_shows_10 : decode cX7_shows 10 = .ok (.ldc2_w 231, 3) := by decide +kernel
theorem dX7_shows_13 : decode cX7_shows 13 = .ok (.invokestatic 94, 3) := by decide +kernel
theorem dX7_shows_16 : decode cX7_shows 16 = .ok (.ifCond .eq 11, 3) := by decide +kernel
theorem dX7_shows_19 : decode cX7_shows 19 = .ok (.aload_n 0, 1) := by decide +kernel
theorem dX7_shows_20 : decode cX7_shows 20 = .ok (.iload_n 1, 1) := by decide +kernel
theorem dX7_shows_21 : decode cX7_shows 21 = .ok (.invokevirtual 233, 3) := by decide +kernel
theorem dX7_shows_24 : decode cX7_shows 24 = .ok (.goto 5, 3) := by decide +kernel
theorem dX7_shows_27 : decode cX7_shows 27 = .ok (.bipush (-2), 2) := by decide +kernel
theorem dX7_shows_29 : decode cX7_shows 29 = .ok (.ireturn, 1) := by decide +kernel
theorem dX7_puts_0 : decode cX7_puts 0 = .ok (.aload_n 0, 1) := by decide +kernel
theorem dX7_puts_1 : decode cX7_puts 1 = .ok (.getfield 49, 3) := by decide +kernel
theorem dX7_puts_4 : decode cX7_puts 4 = .ok (.aload_n 0, 1) := by decide +kernel
theorem dX7_puts_5 : decode cX7_puts 5 = .ok (.getfield 236, 3) := by decide +kernel
theorem dX7_puts_8 : decode cX7_puts 8 = .ok (.iload_n 1, 1) := by decide +kernel
theorem dX7_puts_9 : decode cX7_puts 9 = .ok (.iastore, 1) := by decide +kernel
theorem dX7_puts_10 : decode cX7_puts 10 = .ok (.aload_n 0, 1) := by decide +kernel
theorem dX7_puts_11 : decode cX7_puts 11 = .ok (.getfield 52, 3) := by decide +kernel
theorem dX7_puts_14 : decode cX7_puts 14 = .ok (.aload_n 0, 1) := by decide +kernel
theorem dX7_puts_15 : decode cX7_puts 15 = .ok (.getfield 236, 3) := by decide +kernel
theorem dX7_puts_18 : decode cX7_puts 18 = .ok (.iload_n 2, 1) := by decide +kernel
theorem dX7_puts_19 : decode cX7_puts 19 = .ok (.iastore, 1) := by decide +kernel
theorem dX7_puts_20 : decode cX7_puts 20 = .ok (.aload_n 0, 1) := by decide +kernel
theorem dX7_puts_21 : decode cX7_puts 21 = .ok (.dup, 1) := by decide +kernel
theorem dX7_puts_22 : decode cX7_puts 22 = .ok (.getfield 236, 3) := by decide +kernel
theorem dX7_puts_25 : decode cX7_puts 25 = .ok (.iconst 1, 1) := by decide +kernel
theorem dX7_puts_26 : decode cX7_puts 26 = .ok (.iadd, 1) := by decide +kernel
theorem dX7_puts_27 : decode cX7_puts 27 = .ok (.putfield 236, 3) := by decide +kernel
theorem dX7_puts_30 : decode cX7_puts 30 = .ok (.return_, 1) := by decide +kernel
theorem dX7_showing_0 : decode cX7_showing 0 = .ok (.aload_n 0, 1) := by decide +kernel
theorem dX7_showing_1 : decode cX7_showing 1 = .ok (.iconst 0, 1) := by decide +kernel
theorem dX7_showing_2 : decode cX7_showing 2 = .ok (.putfield 204, 3) := by decide +kernel
theorem dX7_showing_5 : decode cX7_showing 5 = .ok (.aload_n 0, 1) := by decide +kernel
theorem dX7_showing_6 : decode cX7_showing 6 = .ok (.iconst 0, 1) := by decide +kernel
theorem dX7_showing_7 : decode cX7_showing 7 = .ok (.putfield 236, 3) := by decide +kernel
theorem dX7_showing_10 : decode cX7_showing 10 = .ok (.aload_n 0, 1) := by decide +kernel
theorem dX7_showing_11 : decode cX7_showing 11 = .ok (.iload_n 1, 1) := by decide +kernel
theorem dX7_showing_12 : decode cX7_showing 12 = .ok (.iload_n 2, 1) := by decide +kernel
theorem dX7_showing_13 : decode cX7_showing 13 = .ok (.invokevirtual 239, 3) := by decide +kernel
theorem dX7_showing_16 : decode cX7_showing 16 = .ok (.aload_n 0, 1) := by decide +kernel
theorem dX7_showing_17 : decode cX7_showing 17 = .ok (.getfield 236, 3) := by decide +kernel
theorem dX7_showing_20 : decode cX7_showing 20 = .ok (.ifCond .le 179, 3) := by decide +kernel
theorem dX7_showing_23 : decode cX7_showing 23 = .ok (.aload_n 0, 1) := by decide +kernel
theorem dX7_showing_24 : decode cX7_showing 24 = .ok (.getfield 204, 3) := by decide +kernel
theorem dX7_showing_27 : decode cX7_showing 27 = .ok (.bipush 60, 2) := by decide +kernel
theorem dX7_showing_29 : decode cX7_showing 29 = .ok (.if_icmp .ge 170, 3) := by decide +kernel
theorem dX7_showing_32 : decode cX7_showing 32 = .ok (.aload_n 0, 1) := by decide +kernel
theorem dX7_showing_33 : decode cX7_showing 33 = .ok (.dup, 1) := by decide +kernel
theorem dX7_showing_34 : decode cX7_showing 34 = .ok (.getfield 236, 3) := by decide +kernel
theorem dX7_showing_37 : decode cX7_showing 37 = .ok (.iconst 1, 1) := by decide +kernel
theorem dX7_showing_38 : decode cX7_showing 38 = .ok (.isub, 1) := by decide +kernel
theorem dX7_showing_39 : decode cX7_showing 39 = .ok (.putfield 236, 3) := by decide +kernel
theorem dX7_showing_42 : decode cX7_showing 42 = .ok (.aload_n 0, 1) := by decide +kernel
theorem dX7_showing_43 : decode cX7_showing 43 = .ok (.getfield 49, 3) := by decide +kernel
theorem dX7_showing_46 : decode cX7_showing 46 = .ok (.aload_n 0, 1) := by decide +kernel
theorem dX7_showing_47 : decode cX7_showing 47 = .ok (.getfield 236, 3) := by decide +kernel
theorem dX7_showing_50 : decode cX7_showing 50 = .ok (.iaload, 1) := by decide +kernel
theorem dX7_showing_51 : decode cX7_showing 51 = .ok (.istore 4, 2) := by decide +kernel
theorem dX7_showing_53 : decode cX7_showing 53 = .ok (.aload_n 0, 1) := by decide +kernel
theorem dX7_showing_54 : decode cX7_showing 54 = .ok (.getfield 52, 3) := by decide +kernel
theorem dX7_showing_57 : decode cX7_showing 57 = .ok (.aload_n 0, 1) := by decide +kernel
theorem dX7_showing_58 : decode cX7_showing 58 = .ok (.getfield 236, 3) := by decide +kernel
theorem dX7_showing_61 : decode cX7_showing 61 = .ok (.iaload, 1) := by decide +kernel
theorem dX7_showing_62 : decode cX7_showing 62 = .ok (.istore 5, 2) := by decide +kernel
theorem dX7_showing_64 : decode cX7_showing 64 = .ok (.aload_n 0, 1) := by decide +kernel
theorem dX7_showing_65 : decode cX7_showing 65 = .ok (.getfield 31, 3) := by decide +kernel
theorem dX7_showing_68 : decode cX7_showing 68 = .ok (.iload 4, 2) := by decide +kernel
theorem dX7_showing_70 : decode cX7_showing 70 = .ok (.iaload, 1) := by decide +kernel
theorem dX7_showing_71 : decode cX7_showing 71 = .ok (.iconst 1, 1) := by decide +kernel
theorem dX7_showing_72 : decode cX7_showing 72 = .ok (.if_icmp .ne 27, 3) := by decide +kernel
theorem dX7_showing_75 : decode cX7_showing 75 = .ok (.iload_n 3, 1) := by decide +kernel
theorem dX7_showing_76 : decode cX7_showing 76 = .ok (.ifCond .eq 23, 3) := by decide +kernel
theorem dX7_showing_79 : decode cX7_showing 79 = .ok (.aload_n 0, 1) := by decide +kernel
theorem dX7_showing_80 : decode cX7_showing 80 = .ok (.getfield 55, 3) := by decide +kernel
theorem dX7_showing_83 : decode cX7_showing 83 = .ok (.aload_n 0, 1) := by decide +kernel
theorem dX7_showing_84 : decode cX7_showing 84 = .ok (.getfield 34, 3) := by decide +kernel
theorem dX7_showing_87 : decode cX7_showing 87 = .ok (.iload 4, 2) := by decide +kernel
theorem dX7_showing_89 : decode cX7_showing 89 = .ok (.iaload, 1) := by decide +kernel
theorem dX7_showing_90 : decode cX7_showing 90 = .ok (.iaload, 1) := by decide +kernel
theorem dX7_showing_91 : decode cX7_showing 91 = .ok (.iconst (-1), 1) := by decide +kernel
theorem dX7_showing_92 : decode cX7_showing 92 = .ok (.if_icmp .eq 7, 3) := by decide +kernel
theorem dX7_showing_95 : decode cX7_showing 95 = .ok (.iconst 1, 1) := by decide +kernel
theorem dX7_showing_96 : decode cX7_showing 96 = .ok (.goto 4, 3) := by decide +kernel
theorem dX7_showing_99 : decode cX7_showing 99 = .ok (.iconst 0, 1) := by decide +kernel
theorem dX7_showing_100 : decode cX7_showing 100 = .ok (.istore 6, 2) := by decide +kernel
theorem dX7_showing_102 : decode cX7_showing 102 = .ok (.iload 6, 2) := by decide +kernel
theorem dX7_showing_104 : decode cX7_showing 104 = .ok (.ifCond .eq 39, 3) := by decide +kernel
theorem dX7_showing_107 : decode cX7_showing 107 = .ok (.aload_n 0, 1) := by decide +kernel
theorem dX7_showing_108 : decode cX7_showing 108 = .ok (.aload_n 0, 1) := by decide +kernel
theorem dX7_showing_109 : decode cX7_showing 109 = .ok (.getfield 55, 3) := by decide +kernel
theorem dX7_showing_112 : decode cX7_showing 112 = .ok (.aload_n 0, 1) := by decide +kernel
theorem dX7_showing_113 : decode cX7_showing 113 = .ok (.getfield 34, 3) := by decide +kernel
theorem dX7_showing_116 : decode cX7_showing 116 = .ok (.iload 4, 2) := by decide +kernel
theorem dX7_showing_118 : decode cX7_showing 118 = .ok (.iaload, 1) := by decide +kernel
theorem dX7_showing_119 : decode cX7_showing 119 = .ok (.iaload, 1) := by decide +kernel
theorem dX7_showing_120 : decode cX7_showing 120 = .ok (.iload 5, 2) := by decide +kernel
theorem dX7_showing_122 : decode cX7_showing 122 = .ok (.aload_n 0, 1) := by decide +kernel
theorem dX7_showing_123 : decode cX7_showing 123 = .ok (.getfield 58, 3) := by decide +kernel
theorem dX7_showing_126 : decode cX7_showing 126 = .ok (.aload_n 0, 1) := by decide +kernel
theorem dX7_showing_127 : decode cX7_showing 127 = .ok (.getfield 34, 3) := by decide +kernel
theorem dX7_showing_130 : decode cX7_showing 130 = .ok (.iload 4, 2) := by decide +kernel
theorem dX7_showing_132 : decode cX7_showing 132 = .ok (.iaload, 1) := by decide +kernel
theorem dX7_showing_133 : decode cX7_showing 133 = .ok (.iaload, 1) := by decide +kernel
theorem dX7_showing_134 : decode cX7_showing 134 = .ok (.invokestatic 161, 3) := by decide +kernel
theorem dX7_showing_137 : decode cX7_showing 137 = .ok (.invokevirtual 239, 3) := by decide +kernel
theorem dX7_showing_140 : decode cX7_showing 140 = .ok (.goto 56, 3) := by decide +kernel
theorem dX7_showing_143 : decode cX7_showing 143 = .ok (.aload_n 0, 1) := by decide +kernel
theorem dX7_showing_144 : decode cX7_showing 144 = .ok (.getfield 31, 3) := by decide +kernel
theorem dX7_showing_147 : decode cX7_showing 147 = .ok (.iload 4, 2) := by decide +kernel
theorem dX7_showing_149 : decode cX7_showing 149 = .ok (.iaload, 1) := by decide +kernel
theorem dX7_showing_150 : decode cX7_showing 150 = .ok (.bipush 6, 2) := by decide +kernel
theorem dX7_showing_152 : decode cX7_showing 152 = .ok (.if_icmp .ne 36, 3) := by decide +kernel
theorem dX7_showing_155 : decode cX7_showing 155 = .ok (.aload_n 0, 1) := by decide +kernel
theorem dX7_showing_156 : decode cX7_showing 156 = .ok (.iload 4, 2) := by decide +kernel
theorem dX7_showing_158 : decode cX7_showing 158 = .ok (.iconst 1, 1) := by decide +kernel
theorem dX7_showing_159 : decode cX7_showing 159 = .ok (.iadd, 1) := by decide +kernel
theorem dX7_showing_160 : decode cX7_showing 160 = .ok (.iload 5, 2) := by decide +kernel
theorem dX7_showing_162 : decode cX7_showing 162 = .ok (.aload_n 0, 1) := by decide +kernel
theorem dX7_showing_163 : decode cX7_showing 163 = .ok (.getfield 34, 3) := by decide +kernel
theorem dX7_showing_166 : decode cX7_showing 166 = .ok (.iload 4, 2) := by decide +kernel
theorem dX7_showing_168 : decode cX7_showing 168 = .ok (.iaload, 1) := by decide +kernel
theorem dX7_showing_169 : decode cX7_showing 169 = .ok (.aload_n 0, 1) := by decide +kernel
theorem dX7_showing_170 : decode cX7_showing 170 = .ok (.getfield 37, 3) := by decide +kernel
theorem dX7_showing_173 : decode cX7_showing 173 = .ok (.iload 4, 2) := by decide +kernel
theorem dX7_showing_175 : decode cX7_showing 175 = .ok (.iaload, 1) := by decide +kernel
theorem dX7_showing_176 : decode cX7_showing 176 = .ok (.invokestatic 158, 3) := by decide +kernel
theorem dX7_showing_179 : decode cX7_showing 179 = .ok (.invokestatic 161, 3) := by decide +kernel
theorem dX7_showing_182 : decode cX7_showing 182 = .ok (.invokevirtual 239, 3) := by decide +kernel
theorem dX7_showing_185 : decode cX7_showing 185 = .ok (.goto 11, 3) := by decide +kernel
theorem dX7_showing_188 : decode cX7_showing 188 = .ok (.aload_n 0, 1) := by decide +kernel
theorem dX7_showing_189 : decode cX7_showing 189 = .ok (.iload 4, 2) := by decide +kernel
theorem dX7_showing_191 : decode cX7_showing 191 = .ok (.iload 5, 2) := by decide +kernel
theorem dX7_showing_193 : decode cX7_showing 193 = .ok (.invokevirtual 243, 3) := by decide +kernel
theorem dX7_showing_196 : decode cX7_showing 196 = .ok (.goto (-180), 3) := by decide +kernel
theorem dX7_showing_199 : decode cX7_showing 199 = .ok (.return_, 1) := by decide +kernel
theorem dX7_tellsPart_0 : decode cX7_tellsPart 0 = .ok (.aload_n 0, 1) := by decide +kernel
theorem dX7_tellsPart_1 : decode cX7_tellsPart 1 = .ok (.getfield 31, 3) := by decide +kernel
theorem dX7_tellsPart_4 : decode cX7_tellsPart 4 = .ok (.iload_n 1, 1) := by decide +kernel
theorem dX7_tellsPart_5 : decode cX7_tellsPart 5 = .ok (.iaload, 1) := by decide +kernel
theorem dX7_tellsPart_6 : decode cX7_tellsPart 6 = .ok (.tableswitch 139 0 4 #[34, 54, 76, 85, 109], 34) := by decide +kernel
theorem dX7_tellsPart_40 : decode cX7_tellsPart 40 = .ok (.aload_n 0, 1) := by decide +kernel
theorem dX7_tellsPart_41 : decode cX7_tellsPart 41 = .ok (.bipush 97, 2) := by decide +kernel
theorem dX7_tellsPart_43 : decode cX7_tellsPart 43 = .ok (.iload_n 2, 1) := by decide +kernel
theorem dX7_tellsPart_44 : decode cX7_tellsPart 44 = .ok (.aload_n 0, 1) := by decide +kernel
theorem dX7_tellsPart_45 : decode cX7_tellsPart 45 = .ok (.getfield 34, 3) := by decide +kernel
theorem dX7_tellsPart_48 : decode cX7_tellsPart 48 = .ok (.iload_n 1, 1) := by decide +kernel
theorem dX7_tellsPart_49 : decode cX7_tellsPart 49 = .ok (.iaload, 1) := by decide +kernel
theorem dX7_tellsPart_50 : decode cX7_tellsPart 50 = .ok (.invokestatic 123, 3) := by decide +kernel
theorem dX7_tellsPart_53 : decode cX7_tellsPart 53 = .ok (.iadd, 1) := by decide +kernel
theorem dX7_tellsPart_54 : decode cX7_tellsPart 54 = .ok (.invokevirtual 207, 3) := by decide +kernel
theorem dX7_tellsPart_57 : decode cX7_tellsPart 57 = .ok (.goto 119, 3) := by decide +kernel
theorem dX7_tellsPart_60 : decode cX7_tellsPart 60 = .ok (.aload_n 0, 1) := by decide +kernel
theorem dX7_tellsPart_61 : decode cX7_tellsPart 61 = .ok (.iload_n 2, 1) := by decide +kernel
theorem dX7_tellsPart_62 : decode cX7_tellsPart 62 = .ok (.invokevirtual 211, 3) := by decide +kernel
theorem dX7_tellsPart_65 : decode cX7_tellsPart 65 = .ok (.pop, 1) := by decide +kernel
theorem dX7_tellsPart_66 : decode cX7_tellsPart 66 = .ok (.aload_n 0, 1) := by decide +kernel
theorem dX7_tellsPart_67 : decode cX7_tellsPart 67 = .ok (.bipush 80, 2) := by decide +kernel
theorem dX7_tellsPart_69 : decode cX7_tellsPart 69 = .ok (.aload_n 0, 1) := by decide +kernel
theorem dX7_tellsPart_70 : decode cX7_tellsPart 70 = .ok (.getfield 34, 3) := by decide +kernel
theorem dX7_tellsPart_73 : decode cX7_tellsPart 73 = .ok (.iload_n 1, 1) := by decide +kernel
theorem dX7_tellsPart_74 : decode cX7_tellsPart 74 = .ok (.iaload, 1) := by decide +kernel
theorem dX7_tellsPart_75 : decode cX7_tellsPart 75 = .ok (.iadd, 1) := by decide +kernel
theorem dX7_tellsPart_76 : decode cX7_tellsPart 76 = .ok (.invokevirtual 207, 3) := by decide +kernel
theorem dX7_tellsPart_79 : decode cX7_tellsPart 79 = .ok (.goto 97, 3) := by decide +kernel
theorem dX7_tellsPart_82 : decode cX7_tellsPart 82 = .ok (.aload_n 0, 1) := by decide +kernel
theorem dX7_tellsPart_83 : decode cX7_tellsPart 83 = .ok (.bipush 42, 2) := by decide +kernel
theorem dX7_tellsPart_85 : decode cX7_tellsPart 85 = .ok (.invokevirtual 207, 3) := by decide +kernel
theorem dX7_tellsPart_88 : decode cX7_tellsPart 88 = .ok (.goto 88, 3) := by decide +kernel
theorem dX7_tellsPart_91 : decode cX7_tellsPart 91 = .ok (.aload_n 0, 1) := by decide +kernel
theorem dX7_tellsPart_92 : decode cX7_tellsPart 92 = .ok (.bipush 48, 2) := by decide +kernel
theorem dX7_tellsPart_94 : decode cX7_tellsPart 94 = .ok (.aload_n 0, 1) := by decide +kernel
theorem dX7_tellsPart_95 : decode cX7_tellsPart 95 = .ok (.getfield 34, 3) := by decide +kernel
theorem dX7_tellsPart_98 : decode cX7_tellsPart 98 = .ok (.iload_n 1, 1) := by decide +kernel
theorem dX7_tellsPart_99 : decode cX7_tellsPart 99 = .ok (.iaload, 1) := by decide +kernel
theorem dX7_tellsPart_100 : decode cX7_tellsPart 100 = .ok (.iadd, 1) := by decide +kernel
theorem dX7_tellsPart_101 : decode cX7_tellsPart 101 = .ok (.invokevirtual 207, 3) := by decide +kernel
theorem dX7_tellsPart_104 : decode cX7_tellsPart 104 = .ok (.aload_n 0, 1) := by decide +kernel
theorem dX7_tellsPart_105 : decode cX7_tellsPart 105 = .ok (.iload_n 1, 1) := by decide +kernel
theorem dX7_tellsPart_106 : decode cX7_tellsPart 106 = .ok (.iconst 1, 1) := by decide +kernel
theorem dX7_tellsPart_107 : decode cX7_tellsPart 107 = .ok (.iadd, 1) := by decide +kernel
theorem dX7_tellsPart_108 : decode cX7_tellsPart 108 = .ok (.iload_n 2, 1) := by decide +kernel
theorem dX7_tellsPart_109 : decode cX7_tellsPart 109 = .ok (.invokevirtual 239, 3) := by decide +kernel
theorem dX7_tellsPart_112 : decode cX7_tellsPart 112 = .ok (.goto 64, 3) := by decide +kernel
theorem dX7_tellsPart_115 : decode cX7_tellsPart 115 = .ok (.aload_n 0, 1) := by decide +kernel
theorem dX7_tellsPart_116 : decode cX7_tellsPart 116 = .ok (.bipush 44, 2) := by decide +kernel
theorem dX7_tellsPart_118 : decode cX7_tellsPart 118 = .ok (.invokevirtual 207, 3) := by decide +kernel
theorem dX7_tellsPart_121 : decode cX7_tellsPart 121 = .ok (.aload_n 0, 1) := by decide +kernel
theorem dX7_tellsPart_122 : decode cX7_tellsPart 122 = .ok (.aload_n 0, 1) := by decide +kernel
theorem dX7_tellsPart_123 : decode cX7_tellsPart 123 = .ok (.getfield 40, 3) := by decide +kernel
theorem dX7_tellsPart_126 : decode cX7_tellsPart 126 = .ok (.iload_n 1, 1) := by decide +kernel
theorem dX7_tellsPart_127 : decode cX7_tellsPart 127 = .ok (.iconst 1, 1) := by decide +kernel
theorem dX7_tellsPart_128 : decode cX7_tellsPart 128 = .ok (.iadd, 1) := by decide +kernel
theorem dX7_tellsPart_129 : decode cX7_tellsPart 129 = .ok (.iaload, 1) := by decide +kernel
theorem dX7_tellsPart_130 : decode cX7_tellsPart 130 = .ok (.iload_n 2, 1) := by decide +kernel
theorem dX7_tellsPart_131 : decode cX7_tellsPart 131 = .ok (.invokevirtual 239, 3) := by decide +kernel
theorem dX7_tellsPart_134 : decode cX7_tellsPart 134 = .ok (.aload_n 0, 1) := by decide +kernel
theorem dX7_tellsPart_135 : decode cX7_tellsPart 135 = .ok (.iload_n 1, 1) := by decide +kernel
theorem dX7_tellsPart_136 : decode cX7_tellsPart 136 = .ok (.iconst 1, 1) := by decide +kernel
theorem dX7_tellsPart_137 : decode cX7_tellsPart 137 = .ok (.iadd, 1) := by decide +kernel
theorem dX7_tellsPart_138 : decode cX7_tellsPart 138 = .ok (.iload_n 2, 1) := by decide +kernel
theorem dX7_tellsPart_139 : decode cX7_tellsPart 139 = .ok (.invokevirtual 239, 3) := by decide +kernel
theorem dX7_tellsPart_142 : decode cX7_tellsPart 142 = .ok (.goto 34, 3) := by decide +kernel
theorem dX7_tellsPart_145 : decode cX7_tellsPart 145 = .ok (.aload_n 0, 1) := by decide +kernel
theorem dX7_tellsPart_146 : decode cX7_tellsPart 146 = .ok (.bipush 46, 2) := by decide +kernel
theorem dX7_tellsPart_148 : decode cX7_tellsPart 148 = .ok (.invokevirtual 207, 3) := by decide +kernel
theorem dX7_tellsPart_151 : decode cX7_tellsPart 151 = .ok (.aload_n 0, 1) := by decide +kernel
theorem dX7_tellsPart_152 : decode cX7_tellsPart 152 = .ok (.bipush 97, 2) := by decide +kernel
theorem dX7_tellsPart_154 : decode cX7_tellsPart 154 = .ok (.iload_n 2, 1) := by decide +kernel
theorem dX7_tellsPart_155 : decode cX7_tellsPart 155 = .ok (.aload_n 0, 1) := by decide +kernel
theorem dX7_tellsPart_156 : decode cX7_tellsPart 156 = .ok (.getfield 34, 3) := by decide +kernel
theorem dX7_tellsPart_159 : decode cX7_tellsPart 159 = .ok (.iload_n 1, 1) := by decide +kernel
theorem dX7_tellsPart_160 : decode cX7_tellsPart 160 = .ok (.iaload, 1) := by decide +kernel
theorem dX7_tellsPart_161 : decode cX7_tellsPart 161 = .ok (.invokestatic 123, 3) := by decide +kernel
theorem dX7_tellsPart_164 : decode cX7_tellsPart 164 = .ok (.iadd, 1) := by decide +kernel
theorem dX7_tellsPart_165 : decode cX7_tellsPart 165 = .ok (.invokevirtual 207, 3) := by decide +kernel
theorem dX7_tellsPart_168 : decode cX7_tellsPart 168 = .ok (.aload_n 0, 1) := by decide +kernel
theorem dX7_tellsPart_169 : decode cX7_tellsPart 169 = .ok (.iload_n 1, 1) := by decide +kernel
theorem dX7_tellsPart_170 : decode cX7_tellsPart 170 = .ok (.iconst 1, 1) := by decide +kernel
theorem dX7_tellsPart_171 : decode cX7_tellsPart 171 = .ok (.iadd, 1) := by decide +kernel
theorem dX7_tellsPart_172 : decode cX7_tellsPart 172 = .ok (.iload_n 2, 1) := by decide +kernel
theorem dX7_tellsPart_173 : decode cX7_tellsPart 173 = .ok (.invokevirtual 239, 3) := by decide +kernel
theorem dX7_tellsPart_176 : decode cX7_tellsPart 176 = .ok (.return_, 1) := by decide +kernel
theorem dX7_manyParts_0 : decode cX7_manyParts 0 = .ok (.iconst 0, 1) := by decide +kernel
theorem dX7_manyParts_1 : decode cX7_manyParts 1 = .ok (.istore_n 2, 1) := by decide +kernel
theorem dX7_manyParts_2 : decode cX7_manyParts 2 = .ok (.bipush 30, 2) := by decide +kernel
theorem dX7_manyParts_4 : decode cX7_manyParts 4 = .ok (.iload_n 1, 1) := by decide +kernel
theorem dX7_manyParts_5 : decode cX7_manyParts 5 = .ok (.imul, 1) := by decide +kernel
theorem dX7_manyParts_6 : decode cX7_manyParts 6 = .ok (.istore_n 3, 1) := by decide +kernel
theorem dX7_manyParts_7 : decode cX7_manyParts 7 = .ok (.iload_n 3, 1) := by decide +kernel
theorem dX7_manyParts_8 : decode cX7_manyParts 8 = .ok (.bipush 30, 2) := by decide +kernel
theorem dX7_manyParts_10 : decode cX7_manyParts 10 = .ok (.iload_n 1, 1) := by decide +kernel
theorem dX7_manyParts_11 : decode cX7_manyParts 11 = .ok (.imul, 1) := by decide +kernel
theorem dX7_manyParts_12 : decode cX7_manyParts 12 = .ok (.aload_n 0, 1) := by decide +kernel
theorem dX7_manyParts_13 : decode cX7_manyParts 13 = .ok (.getfield 28, 3) := by decide +kernel
theorem dX7_manyParts_16 : decode cX7_manyParts 16 = .ok (.iload_n 1, 1) := by decide +kernel
theorem dX7_manyParts_17 : decode cX7_manyParts 17 = .ok (.iaload, 1) := by decide +kernel
theorem dX7_manyParts_18 : decode cX7_manyParts 18 = .ok (.iadd, 1) := by decide +kernel
theorem dX7_manyParts_19 : decode cX7_manyParts 19 = .ok (.if_icmp .ge 28, 3) := by decide +kernel
theorem dX7_manyParts_22 : decode cX7_manyParts 22 = .ok (.iload_n 2, 1) := by decide +kernel
theorem dX7_manyParts_23 : decode cX7_manyParts 23 = .ok (.aload_n 0, 1) := by decide +kernel
theorem dX7_manyParts_24 : decode cX7_manyParts 24 = .ok (.getfield 31, 3) := by decide +kernel
theorem dX7_manyParts_27 : decode cX7_manyParts 27 = .ok (.iload_n 3, 1) := by decide +kernel
theorem dX7_manyParts_28 : decode cX7_manyParts 28 = .ok (.iaload, 1) := by decide +kernel
theorem dX7_manyParts_29 : decode cX7_manyParts 29 = .ok (.bipush 6, 2) := by decide +kernel
theorem dX7_manyParts_31 : decode cX7_manyParts 31 = .ok (.if_icmp .ne 7, 3) := by decide +kernel
theorem dX7_manyParts_34 : decode cX7_manyParts 34 = .ok (.iconst 0, 1) := by decide +kernel
theorem dX7_manyParts_35 : decode cX7_manyParts 35 = .ok (.goto 4, 3) := by decide +kernel
theorem dX7_manyParts_38 : decode cX7_manyParts 38 = .ok (.iconst 1, 1) := by decide +kernel
theorem dX7_manyParts_39 : decode cX7_manyParts 39 = .ok (.iadd, 1) := by decide +kernel
theorem dX7_manyParts_40 : decode cX7_manyParts 40 = .ok (.istore_n 2, 1) := by decide +kernel
theorem dX7_manyParts_41 : decode cX7_manyParts 41 = .ok (.iinc 3 1, 3) := by decide +kernel
theorem dX7_manyParts_44 : decode cX7_manyParts 44 = .ok (.goto (-37), 3) := by decide +kernel
theorem dX7_manyParts_47 : decode cX7_manyParts 47 = .ok (.iload_n 2, 1) := by decide +kernel
theorem dX7_manyParts_48 : decode cX7_manyParts 48 = .ok (.ireturn, 1) := by decide +kernel
theorem dX7_longest_0 : decode cX7_longest 0 = .ok (.bipush 30, 2) := by decide +kernel
theorem dX7_longest_2 : decode cX7_longest 2 = .ok (.iload_n 1, 1) := by decide +kernel
theorem dX7_longest_3 : decode cX7_longest 3 = .ok (.imul, 1) := by decide +kernel
theorem dX7_longest_4 : decode cX7_longest 4 = .ok (.aload_n 0, 1) := by decide +kernel
theorem dX7_longest_5 : decode cX7_longest 5 = .ok (.getfield 28, 3) := by decide +kernel
theorem dX7_longest_8 : decode cX7_longest 8 = .ok (.iload_n 1, 1) := by decide +kernel
theorem dX7_longest_9 : decode cX7_longest 9 = .ok (.iaload, 1) := by decide +kernel
theorem dX7_longest_10 : decode cX7_longest 10 = .ok (.iadd, 1) := by decide +kernel
theorem dX7_longest_11 : decode cX7_longest 11 = .ok (.iconst 1, 1) := by decide +kernel
theorem dX7_longest_12 : decode cX7_longest 12 = .ok (.isub, 1) := by decide +kernel
theorem dX7_longest_13 : decode cX7_longest 13 = .ok (.istore_n 2, 1) := by decide +kernel
theorem dX7_longest_14 : decode cX7_longest 14 = .ok (.iload_n 2, 1) := by decide +kernel
theorem dX7_longest_15 : decode cX7_longest 15 = .ok (.bipush 30, 2) := by decide +kernel
theorem dX7_longest_17 : decode cX7_longest 17 = .ok (.iload_n 1, 1) := by decide +kernel
theorem dX7_longest_18 : decode cX7_longest 18 = .ok (.imul, 1) := by decide +kernel
theorem dX7_longest_19 : decode cX7_longest 19 = .ok (.if_icmp .lt 93, 3) := by decide +kernel
theorem dX7_longest_22 : decode cX7_longest 22 = .ok (.aload_n 0, 1) := by decide +kernel
theorem dX7_longest_23 : decode cX7_longest 23 = .ok (.getfield 31, 3) := by decide +kernel
theorem dX7_longest_26 : decode cX7_longest 26 = .ok (.iload_n 2, 1) := by decide +kernel
theorem dX7_longest_27 : decode cX7_longest 27 = .ok (.iaload, 1) := by decide +kernel
theorem dX7_longest_28 : decode cX7_longest 28 = .ok (.iconst 3, 1) := by decide +kernel
theorem dX7_longest_29 : decode cX7_longest 29 = .ok (.if_icmp .ge 7, 3) := by decide +kernel
theorem dX7_longest_32 : decode cX7_longest 32 = .ok (.iconst 0, 1) := by decide +kernel
theorem dX7_longest_33 : decode cX7_longest 33 = .ok (.goto 48, 3) := by decide +kernel
theorem dX7_longest_36 : decode cX7_longest 36 = .ok (.aload_n 0, 1) := by decide +kernel
theorem dX7_longest_37 : decode cX7_longest 37 = .ok (.getfield 31, 3) := by decide +kernel
theorem dX7_longest_40 : decode cX7_longest 40 = .ok (.iload_n 2, 1) := by decide +kernel
theorem dX7_longest_41 : decode cX7_longest 41 = .ok (.iaload, 1) := by decide +kernel
theorem dX7_longest_42 : decode cX7_longest 42 = .ok (.iconst 4, 1) := by decide +kernel
theorem dX7_longest_43 : decode cX7_longest 43 = .ok (.if_icmp .ne 30, 3) := by decide +kernel
theorem dX7_longest_46 : decode cX7_longest 46 = .ok (.aload_n 0, 1) := by decide +kernel
theorem dX7_longest_47 : decode cX7_longest 47 = .ok (.getfield 61, 3) := by decide +kernel
theorem dX7_longest_50 : decode cX7_longest 50 = .ok (.iload_n 2, 1) := by decide +kernel
theorem dX7_longest_51 : decode cX7_longest 51 = .ok (.iconst 1, 1) := by decide +kernel
theorem dX7_longest_52 : decode cX7_longest 52 = .ok (.iadd, 1) := by decide +kernel
theorem dX7_longest_53 : decode cX7_longest 53 = .ok (.iaload, 1) := by decide +kernel
theorem dX7_longest_54 : decode cX7_longest 54 = .ok (.aload_n 0, 1) := by decide +kernel
theorem dX7_longest_55 : decode cX7_longest 55 = .ok (.getfield 61, 3) := by decide +kernel
theorem dX7_longest_58 : decode cX7_longest 58 = .ok (.aload_n 0, 1) := by decide +kernel
theorem dX7_longest_59 : decode cX7_longest 59 = .ok (.getfield 40, 3) := by decide +kernel
theorem dX7_longest_62 : decode cX7_longest 62 = .ok (.iload_n 2, 1) := by decide +kernel
theorem dX7_longest_63 : decode cX7_longest 63 = .ok (.iconst 1, 1) := by decide +kernel
theorem dX7_longest_64 : decode cX7_longest 64 = .ok (.iadd, 1) := by decide +kernel
theorem dX7_longest_65 : decode cX7_longest 65 = .ok (.iaload, 1) := by decide +kernel
theorem dX7_longest_66 : decode cX7_longest 66 = .ok (.iaload, 1) := by decide +kernel
theorem dX7_longest_67 : decode cX7_longest 67 = .ok (.invokestatic 246, 3) := by decide +kernel
theorem dX7_longest_70 : decode cX7_longest 70 = .ok (.goto 11, 3) := by decide +kernel
theorem dX7_longest_73 : decode cX7_longest 73 = .ok (.aload_n 0, 1) := by decide +kernel
theorem dX7_longest_74 : decode cX7_longest 74 = .ok (.getfield 61, 3) := by decide +kernel
theorem dX7_longest_77 : decode cX7_longest 77 = .ok (.iload_n 2, 1) := by decide +kernel
theorem dX7_longest_78 : decode cX7_longest 78 = .ok (.iconst 1, 1) := by decide +kernel
theorem dX7_longest_79 : decode cX7_longest 79 = .ok (.iadd, 1) := by decide +kernel
theorem dX7_longest_80 : decode cX7_longest 80 = .ok (.iaload, 1) := by decide +kernel
theorem dX7_longest_81 : decode cX7_longest 81 = .ok (.istore_n 3, 1) := by decide +kernel
theorem dX7_longest_82 : decode cX7_longest 82 = .ok (.aload_n 0, 1) := by decide +kernel
theorem dX7_longest_83 : decode cX7_longest 83 = .ok (.getfield 61, 3) := by decide +kernel
theorem dX7_longest_86 : decode cX7_longest 86 = .ok (.iload_n 2, 1) := by decide +kernel
theorem dX7_longest_87 : decode cX7_longest 87 = .ok (.iload_n 3, 1) := by decide +kernel
theorem dX7_longest_88 : decode cX7_longest 88 = .ok (.aload_n 0, 1) := by decide +kernel
theorem dX7_longest_89 : decode cX7_longest 89 = .ok (.getfield 31, 3) := by decide +kernel
theorem dX7_longest_92 : decode cX7_longest 92 = .ok (.iload_n 2, 1) := by decide +kernel
theorem dX7_longest_93 : decode cX7_longest 93 = .ok (.iaload, 1) := by decide +kernel
theorem dX7_longest_94 : decode cX7_longest 94 = .ok (.bipush 6, 2) := by decide +kernel
theorem dX7_longest_96 : decode cX7_longest 96 = .ok (.if_icmp .ne 7, 3) := by decide +kernel
theorem dX7_longest_99 : decode cX7_longest 99 = .ok (.iconst 0, 1) := by decide +kernel
theorem dX7_longest_100 : decode cX7_longest 100 = .ok (.goto 4, 3) := by decide +kernel
theorem dX7_longest_103 : decode cX7_longest 103 = .ok (.iconst 1, 1) := by decide +kernel
theorem dX7_longest_104 : decode cX7_longest 104 = .ok (.iadd, 1) := by decide +kernel
theorem dX7_longest_105 : decode cX7_longest 105 = .ok (.iastore, 1) := by decide +kernel
theorem dX7_longest_106 : decode cX7_longest 106 = .ok (.iinc 2 (-1), 3) := by decide +kernel
theorem dX7_longest_109 : decode cX7_longest 109 = .ok (.goto (-95), 3) := by decide +kernel
theorem dX7_longest_112 : decode cX7_longest 112 = .ok (.aload_n 0, 1) := by decide +kernel
theorem dX7_longest_113 : decode cX7_longest 113 = .ok (.getfield 28, 3) := by decide +kernel
theorem dX7_longest_116 : decode cX7_longest 116 = .ok (.iload_n 1, 1) := by decide +kernel
theorem dX7_longest_117 : decode cX7_longest 117 = .ok (.iaload, 1) := by decide +kernel
theorem dX7_longest_118 : decode cX7_longest 118 = .ok (.ifCond .ne 7, 3) := by decide +kernel
theorem dX7_longest_121 : decode cX7_longest 121 = .ok (.iconst 0, 1) := by decide +kernel
theorem dX7_longest_122 : decode cX7_longest 122 = .ok (.goto 12, 3) := by decide +kernel
theorem dX7_longest_125 : decode cX7_longest 125 = .ok (.aload_n 0, 1) := by decide +kernel
theorem dX7_longest_126 : decode cX7_longest 126 = .ok (.getfield 61, 3) := by decide +kernel
theorem dX7_longest_129 : decode cX7_longest 129 = .ok (.bipush 30, 2) := by decide +kernel
theorem dX7_longest_131 : decode cX7_longest 131 = .ok (.iload_n 1, 1) := by decide +kernel
theorem dX7_longest_132 : decode cX7_longest 132 = .ok (.imul, 1) := by decide +kernel
theorem dX7_longest_133 : decode cX7_longest 133 = .ok (.iaload, 1) := by decide +kernel
theorem dX7_longest_134 : decode cX7_longest 134 = .ok (.ireturn, 1) := by decide +kernel
theorem dX7_unknownsIn_0 : decode cX7_unknownsIn 0 = .ok (.iconst 0, 1) := by decide +kernel
theorem dX7_unknownsIn_1 : decode cX7_unknownsIn 1 = .ok (.istore_n 2, 1) := by decide +kernel
theorem dX7_unknownsIn_2 : decode cX7_unknownsIn 2 = .ok (.iload_n 1, 1) := by decide +kernel
theorem dX7_unknownsIn_3 : decode cX7_unknownsIn 3 = .ok (.istore_n 3, 1) := by decide +kernel
theorem dX7_unknownsIn_4 : decode cX7_unknownsIn 4 = .ok (.iload_n 3, 1) := by decide +kernel
theorem dX7_unknownsIn_5 : decode cX7_unknownsIn 5 = .ok (.aload_n 0, 1) := by decide +kernel
theorem dX7_unknownsIn_6 : decode cX7_unknownsIn 6 = .ok (.getfield 40, 3) := by decide +kernel
theorem dX7_unknownsIn_9 : decode cX7_unknownsIn 9 = .ok (.iload_n 1, 1) := by decide +kernel
theorem dX7_unknownsIn_10 : decode cX7_unknownsIn 10 = .ok (.iaload, 1) := by decide +kernel
theorem dX7_unknownsIn_11 : decode cX7_unknownsIn 11 = .ok (.if_icmp .ge 34, 3) := by decide +kernel
theorem dX7_unknownsIn_14 : decode cX7_unknownsIn 14 = .ok (.iload_n 2, 1) := by decide +kernel
theorem dX7_unknownsIn_15 : decode cX7_unknownsIn 15 = .ok (.aload_n 0, 1) := by decide +kernel
theorem dX7_unknownsIn_16 : decode cX7_unknownsIn 16 = .ok (.getfield 31, 3) := by decide +kernel
theorem dX7_unknownsIn_19 : decode cX7_unknownsIn 19 = .ok (.iload_n 3, 1) := by decide +kernel
theorem dX7_unknownsIn_20 : decode cX7_unknownsIn 20 = .ok (.iaload, 1) := by decide +kernel
theorem dX7_unknownsIn_21 : decode cX7_unknownsIn 21 = .ok (.iconst 1, 1) := by decide +kernel
theorem dX7_unknownsIn_22 : decode cX7_unknownsIn 22 = .ok (.if_icmp .ne 14, 3) := by decide +kernel
theorem dX7_unknownsIn_25 : decode cX7_unknownsIn 25 = .ok (.iconst 1, 1) := by decide +kernel
theorem dX7_unknownsIn_26 : decode cX7_unknownsIn 26 = .ok (.aload_n 0, 1) := by decide +kernel
theorem dX7_unknownsIn_27 : decode cX7_unknownsIn 27 = .ok (.getfield 34, 3) := by decide +kernel
theorem dX7_unknownsIn_30 : decode cX7_unknownsIn 30 = .ok (.iload_n 3, 1) := by decide +kernel
theorem dX7_unknownsIn_31 : decode cX7_unknownsIn 31 = .ok (.iaload, 1) := by decide +kernel
theorem dX7_unknownsIn_32 : decode cX7_unknownsIn 32 = .ok (.ishl, 1) := by decide +kernel
theorem dX7_unknownsIn_33 : decode cX7_unknownsIn 33 = .ok (.goto 4, 3) := by decide +kernel
theorem dX7_unknownsIn_36 : decode cX7_unknownsIn 36 = .ok (.iconst 0, 1) := by decide +kernel
theorem dX7_unknownsIn_37 : decode cX7_unknownsIn 37 = .ok (.ior, 1) := by decide +kernel
theorem dX7_unknownsIn_38 : decode cX7_unknownsIn 38 = .ok (.istore_n 2, 1) := by decide +kernel
theorem dX7_unknownsIn_39 : decode cX7_unknownsIn 39 = .ok (.iinc 3 1, 3) := by decide +kernel
theorem dX7_unknownsIn_42 : decode cX7_unknownsIn 42 = .ok (.goto (-38), 3) := by decide +kernel
theorem dX7_unknownsIn_45 : decode cX7_unknownsIn 45 = .ok (.iload_n 2, 1) := by decide +kernel
theorem dX7_unknownsIn_46 : decode cX7_unknownsIn 46 = .ok (.ireturn, 1) := by decide +kernel
theorem dX7_asks_0 : decode cX7_asks 0 = .ok (.aload_n 0, 1) := by decide +kernel
theorem dX7_asks_1 : decode cX7_asks 1 = .ok (.iconst 0, 1) := by decide +kernel
theorem dX7_asks_2 : decode cX7_asks 2 = .ok (.putfield 236, 3) := by decide +kernel
theorem dX7_asks_5 : decode cX7_asks 5 = .ok (.aload_n 0, 1) := by decide +kernel
theorem dX7_asks_6 : decode cX7_asks 6 = .ok (.iload_n 2, 1) := by decide +kernel
theorem dX7_asks_7 : decode cX7_asks 7 = .ok (.iload_n 3, 1) := by decide +kernel
theorem dX7_asks_8 : decode cX7_asks 8 = .ok (.invokevirtual 239, 3) := by decide +kernel
theorem dX7_asks_11 : decode cX7_asks 11 = .ok (.aload_n 0, 1) := by decide +kernel
theorem dX7_asks_12 : decode cX7_asks 12 = .ok (.getfield 236, 3) := by decide +kernel
theorem dX7_asks_15 : decode cX7_asks 15 = .ok (.ifCond .le 255, 3) := by decide +kernel
theorem dX7_asks_18 : decode cX7_asks 18 = .ok (.aload_n 0, 1) := by decide +kernel
theorem dX7_asks_19 : decode cX7_asks 19 = .ok (.dup, 1) := by decide +kernel
theorem dX7_asks_20 : decode cX7_asks 20 = .ok (.getfield 236, 3) := by decide +kernel
theorem dX7_asks_23 : decode cX7_asks 23 = .ok (.iconst 1, 1) := by decide +kernel
theorem dX7_asks_24 : decode cX7_asks 24 = .ok (.isub, 1) := by decide +kernel
theorem dX7_asks_25 : decode cX7_asks 25 = .ok (.putfield 236, 3) := by decide +kernel
theorem dX7_asks_28 : decode cX7_asks 28 = .ok (.aload_n 0, 1) := by decide +kernel
theorem dX7_asks_29 : decode cX7_asks 29 = .ok (.getfield 49, 3) := by decide +kernel
theorem dX7_asks_32 : decode cX7_asks 32 = .ok (.aload_n 0, 1) := by decide +kernel
theorem dX7_asks_33 : decode cX7_asks 33 = .ok (.getfield 236, 3) := by decide +kernel
theorem dX7_asks_36 : decode cX7_asks 36 = .ok (.iaload, 1) := by decide +kernel
theorem dX7_asks_37 : decode cX7_asks 37 = .ok (.istore 4, 2) := by decide +kernel
theorem dX7_asks_39 : decode cX7_asks 39 = .ok (.aload_n 0, 1) := by decide +kernel
theorem dX7_asks_40 : decode cX7_asks 40 = .ok (.getfield 52, 3) := by decide +kernel
theorem dX7_asks_43 : decode cX7_asks 43 = .ok (.aload_n 0, 1) := by decide +kernel
theorem dX7_asks_44 : decode cX7_asks 44 = .ok (.getfield 236, 3) := by decide +kernel
theorem dX7_asks_47 : decode cX7_asks 47 = .ok (.iaload, 1) := by decide +kernel
theorem dX7_asks_48 : decode cX7_asks 48 = .ok (.istore 5, 2) := by decide +kernel
theorem dX7_asks_50 : decode cX7_asks 50 = .ok (.aload_n 0, 1) := by decide +kernel
theorem dX7_asks_51 : decode cX7_asks 51 = .ok (.getfield 31, 3) := by decide +kernel
theorem dX7_asks_54 : decode cX7_asks 54 = .ok (.iload 4, 2) := by decide +kernel
theorem dX7_asks_56 : decode cX7_asks 56 = .ok (.iaload, 1) := by decide +kernel
theorem dX7_asks_57 : decode cX7_asks 57 = .ok (.tableswitch 210 0 6 #[43, 78, 210, 107, 120, 148, 177], 43) := by decide +kernel
theorem dX7_asks_100 : decode cX7_asks 100 = .ok (.aload_n 0, 1) := by decide +kernel
theorem dX7_asks_101 : decode cX7_asks 101 = .ok (.aload_n 0, 1) := by decide +kernel
theorem dX7_asks_102 : decode cX7_asks 102 = .ok (.getfield 249, 3) := by decide +kernel
theorem dX7_asks_105 : decode cX7_asks 105 = .ok (.ifCond .ne 19, 3) := by decide +kernel
theorem dX7_asks_108 : decode cX7_asks 108 = .ok (.iload 5, 2) := by decide +kernel
theorem dX7_asks_110 : decode cX7_asks 110 = .ok (.aload_n 0, 1) := by decide +kernel
theorem dX7_asks_111 : decode cX7_asks 111 = .ok (.getfield 34, 3) := by decide +kernel
theorem dX7_asks_114 : decode cX7_asks 114 = .ok (.iload 4, 2) := by decide +kernel
theorem dX7_asks_116 : decode cX7_asks 116 = .ok (.iaload, 1) := by decide +kernel
theorem dX7_asks_117 : decode cX7_asks 117 = .ok (.invokestatic 123, 3) := by decide +kernel
theorem dX7_asks_120 : decode cX7_asks 120 = .ok (.iload_n 1, 1) := by decide +kernel
theorem dX7_asks_121 : decode cX7_asks 121 = .ok (.if_icmp .ne 7, 3) := by decide +kernel
theorem dX7_asks_124 : decode cX7_asks 124 = .ok (.iconst 1, 1) := by decide +kernel
theorem dX7_asks_125 : decode cX7_asks 125 = .ok (.goto 4, 3) := by decide +kernel
theorem dX7_asks_128 : decode cX7_asks 128 = .ok (.iconst 0, 1) := by decide +kernel
theorem dX7_asks_129 : decode cX7_asks 129 = .ok (.putfield 249, 3) := by decide +kernel
theorem dX7_asks_132 : decode cX7_asks 132 = .ok (.goto 135, 3) := by decide +kernel
theorem dX7_asks_135 : decode cX7_asks 135 = .ok (.aload_n 0, 1) := by decide +kernel
theorem dX7_asks_136 : decode cX7_asks 136 = .ok (.getfield 64, 3) := by decide +kernel
theorem dX7_asks_139 : decode cX7_asks 139 = .ok (.aload_n 0, 1) := by decide +kernel
theorem dX7_asks_140 : decode cX7_asks 140 = .ok (.getfield 34, 3) := by decide +kernel
theorem dX7_asks_143 : decode cX7_asks 143 = .ok (.iload 4, 2) := by decide +kernel
theorem dX7_asks_145 : decode cX7_asks 145 = .ok (.iaload, 1) := by decide +kernel
theorem dX7_asks_146 : decode cX7_asks 146 = .ok (.dup2, 1) := by decide +kernel
theorem dX7_asks_147 : decode cX7_asks 147 = .ok (.iaload, 1) := by decide +kernel
theorem dX7_asks_148 : decode cX7_asks 148 = .ok (.iconst 1, 1) := by decide +kernel
theorem dX7_asks_149 : decode cX7_asks 149 = .ok (.iload 5, 2) := by decide +kernel
theorem dX7_asks_151 : decode cX7_asks 151 = .ok (.invokestatic 182, 3) := by decide +kernel
theorem dX7_asks_154 : decode cX7_asks 154 = .ok (.iload_n 1, 1) := by decide +kernel
theorem dX7_asks_155 : decode cX7_asks 155 = .ok (.invokestatic 123, 3) := by decide +kernel
theorem dX7_asks_158 : decode cX7_asks 158 = .ok (.ishl, 1) := by decide +kernel
theorem dX7_asks_159 : decode cX7_asks 159 = .ok (.ior, 1) := by decide +kernel
theorem dX7_asks_160 : decode cX7_asks 160 = .ok (.iastore, 1) := by decide +kernel
theorem dX7_asks_161 : decode cX7_asks 161 = .ok (.goto 106, 3) := by decide +kernel
theorem dX7_asks_164 : decode cX7_asks 164 = .ok (.aload_n 0, 1) := by decide +kernel
theorem dX7_asks_165 : decode cX7_asks 165 = .ok (.iload 4, 2) := by decide +kernel
theorem dX7_asks_167 : decode cX7_asks 167 = .ok (.iconst 1, 1) := by decide +kernel
theorem dX7_asks_168 : decode cX7_asks 168 = .ok (.iadd, 1) := by decide +kernel
theorem dX7_asks_169 : decode cX7_asks 169 = .ok (.iload 5, 2) := by decide +kernel
theorem dX7_asks_171 : decode cX7_asks 171 = .ok (.invokevirtual 239, 3) := by decide +kernel
theorem dX7_asks_174 : decode cX7_asks 174 = .ok (.goto 93, 3) := by decide +kernel
theorem dX7_asks_177 : decode cX7_asks 177 = .ok (.aload_n 0, 1) := by decide +kernel
theorem dX7_asks_178 : decode cX7_asks 178 = .ok (.iload 4, 2) := by decide +kernel
theorem dX7_asks_180 : decode cX7_asks 180 = .ok (.iconst 1, 1) := by decide +kernel
theorem dX7_asks_181 : decode cX7_asks 181 = .ok (.iadd, 1) := by decide +kernel
theorem dX7_asks_182 : decode cX7_asks 182 = .ok (.iload 5, 2) := by decide +kernel
theorem dX7_asks_184 : decode cX7_asks 184 = .ok (.invokevirtual 239, 3) := by decide +kernel
theorem dX7_asks_187 : decode cX7_asks 187 = .ok (.aload_n 0, 1) := by decide +kernel
theorem dX7_asks_188 : decode cX7_asks 188 = .ok (.aload_n 0, 1) := by decide +kernel
theorem dX7_asks_189 : decode cX7_asks 189 = .ok (.getfield 40, 3) := by decide +kernel
theorem dX7_asks_192 : decode cX7_asks 192 = .ok (.iload 4, 2) := by decide +kernel
theorem dX7_asks_194 : decode cX7_asks 194 = .ok (.iconst 1, 1) := by decide +kernel
theorem dX7_asks_195 : decode cX7_asks 195 = .ok (.iadd, 1) := by decide +kernel
theorem dX7_asks_196 : decode cX7_asks 196 = .ok (.iaload, 1) := by decide +kernel
theorem dX7_asks_197 : decode cX7_asks 197 = .ok (.iload 5, 2) := by decide +kernel
theorem dX7_asks_199 : decode cX7_asks 199 = .ok (.invokevirtual 239, 3) := by decide +kernel
theorem dX7_asks_202 : decode cX7_asks 202 = .ok (.goto 65, 3) := by decide +kernel
theorem dX7_asks_205 : decode cX7_asks 205 = .ok (.iload 5, 2) := by decide +kernel
theorem dX7_asks_207 : decode cX7_asks 207 = .ok (.aload_n 0, 1) := by decide +kernel
theorem dX7_asks_208 : decode cX7_asks 208 = .ok (.getfield 34, 3) := by decide +kernel
theorem dX7_asks_211 : decode cX7_asks 211 = .ok (.iload 4, 2) := by decide +kernel
theorem dX7_asks_213 : decode cX7_asks 213 = .ok (.iaload, 1) := by decide +kernel
theorem dX7_asks_214 : decode cX7_asks 214 = .ok (.invokestatic 123, 3) := by decide +kernel
theorem dX7_asks_217 : decode cX7_asks 217 = .ok (.iload_n 1, 1) := by decide +kernel
theorem dX7_asks_218 : decode cX7_asks 218 = .ok (.if_icmp .eq 49, 3) := by decide +kernel
theorem dX7_asks_221 : decode cX7_asks 221 = .ok (.aload_n 0, 1) := by decide +kernel
theorem dX7_asks_222 : decode cX7_asks 222 = .ok (.iload 4, 2) := by decide +kernel
theorem dX7_asks_224 : decode cX7_asks 224 = .ok (.iconst 1, 1) := by decide +kernel
theorem dX7_asks_225 : decode cX7_asks 225 = .ok (.iadd, 1) := by decide +kernel
theorem dX7_asks_226 : decode cX7_asks 226 = .ok (.iload 5, 2) := by decide +kernel
theorem dX7_asks_228 : decode cX7_asks 228 = .ok (.invokevirtual 239, 3) := by decide +kernel
theorem dX7_asks_231 : decode cX7_asks 231 = .ok (.goto 36, 3) := by decide +kernel
theorem dX7_asks_234 : decode cX7_asks 234 = .ok (.aload_n 0, 1) := by decide +kernel
theorem dX7_asks_235 : decode cX7_asks 235 = .ok (.iload 4, 2) := by decide +kernel
theorem dX7_asks_237 : decode cX7_asks 237 = .ok (.iconst 1, 1) := by decide +kernel
theorem dX7_asks_238 : decode cX7_asks 238 = .ok (.iadd, 1) := by decide +kernel
theorem dX7_asks_239 : decode cX7_asks 239 = .ok (.iload 5, 2) := by decide +kernel
theorem dX7_asks_241 : decode cX7_asks 241 = .ok (.aload_n 0, 1) := by decide +kernel
theorem dX7_asks_242 : decode cX7_asks 242 = .ok (.getfield 34, 3) := by decide +kernel
theorem dX7_asks_245 : decode cX7_asks 245 = .ok (.iload 4, 2) := by decide +kernel
theorem dX7_asks_247 : decode cX7_asks 247 = .ok (.iaload, 1) := by decide +kernel
theorem dX7_asks_248 : decode cX7_asks 248 = .ok (.aload_n 0, 1) := by decide +kernel
theorem dX7_asks_249 : decode cX7_asks 249 = .ok (.getfield 37, 3) := by decide +kernel
theorem dX7_asks_252 : decode cX7_asks 252 = .ok (.iload 4, 2) := by decide +kernel
theorem dX7_asks_254 : decode cX7_asks 254 = .ok (.iaload, 1) := by decide +kernel
theorem dX7_asks_255 : decode cX7_asks 255 = .ok (.invokestatic 158, 3) := by decide +kernel
theorem dX7_asks_258 : decode cX7_asks 258 = .ok (.invokestatic 161, 3) := by decide +kernel
theorem dX7_asks_261 : decode cX7_asks 261 = .ok (.invokevirtual 239, 3) := by decide +kernel
theorem dX7_asks_264 : decode cX7_asks 264 = .ok (.goto 3, 3) := by decide +kernel
theorem dX7_asks_267 : decode cX7_asks 267 = .ok (.goto (-256), 3) := by decide +kernel
theorem dX7_asks_270 : decode cX7_asks 270 = .ok (.return_, 1) := by decide +kernel
theorem dX7_freeIn_0 : decode cX7_freeIn 0 = .ok (.iconst 0, 1) := by decide +kernel
theorem dX7_freeIn_1 : decode cX7_freeIn 1 = .ok (.istore_n 2, 1) := by decide +kernel
theorem dX7_freeIn_2 : decode cX7_freeIn 2 = .ok (.iconst 0, 1) := by decide +kernel
theorem dX7_freeIn_3 : decode cX7_freeIn 3 = .ok (.istore_n 3, 1) := by decide +kernel
theorem dX7_freeIn_4 : decode cX7_freeIn 4 = .ok (.iload_n 3, 1) := by decide +kernel
theorem dX7_freeIn_5 : decode cX7_freeIn 5 = .ok (.bipush 6, 2) := by decide +kernel
theorem dX7_freeIn_7 : decode cX7_freeIn 7 = .ok (.if_icmp .ge 51, 3) := by decide +kernel
theorem dX7_freeIn_10 : decode cX7_freeIn 10 = .ok (.aload_n 0, 1) := by decide +kernel
theorem dX7_freeIn_11 : decode cX7_freeIn 11 = .ok (.getfield 28, 3) := by decide +kernel
theorem dX7_freeIn_14 : decode cX7_freeIn 14 = .ok (.iload_n 1, 1) := by decide +kernel
theorem dX7_freeIn_15 : decode cX7_freeIn 15 = .ok (.iaload, 1) := by decide +kernel
theorem dX7_freeIn_16 : decode cX7_freeIn 16 = .ok (.ifCond .le 42, 3) := by decide +kernel
theorem dX7_freeIn_19 : decode cX7_freeIn 19 = .ok (.aload_n 0, 1) := by decide +kernel
theorem dX7_freeIn_20 : decode cX7_freeIn 20 = .ok (.iconst 0, 1) := by decide +kernel
theorem dX7_freeIn_21 : decode cX7_freeIn 21 = .ok (.putfield 249, 3) := by decide +kernel
theorem dX7_freeIn_24 : decode cX7_freeIn 24 = .ok (.aload_n 0, 1) := by decide +kernel
theorem dX7_freeIn_25 : decode cX7_freeIn 25 = .ok (.iload_n 3, 1) := by decide +kernel
theorem dX7_freeIn_26 : decode cX7_freeIn 26 = .ok (.bipush 30, 2) := by decide +kernel
theorem dX7_freeIn_28 : decode cX7_freeIn 28 = .ok (.iload_n 1, 1) := by decide +kernel
theorem dX7_freeIn_29 : decode cX7_freeIn 29 = .ok (.imul, 1) := by decide +kernel
theorem dX7_freeIn_30 : decode cX7_freeIn 30 = .ok (.ldc 154, 2) := by decide +kernel
theorem dX7_freeIn_32 : decode cX7_freeIn 32 = .ok (.invokevirtual 253, 3) := by decide +kernel
theorem dX7_freeIn_35 : decode cX7_freeIn 35 = .ok (.iload_n 2, 1) := by decide +kernel
theorem dX7_freeIn_36 : decode cX7_freeIn 36 = .ok (.aload_n 0, 1) := by decide +kernel
theorem dX7_freeIn_37 : decode cX7_freeIn 37 = .ok (.getfield 249, 3) := by decide +kernel
theorem dX7_freeIn_40 : decode cX7_freeIn 40 = .ok (.ifCond .eq 9, 3) := by decide +kernel
theorem dX7_freeIn_43 : decode cX7_freeIn 43 = .ok (.iconst 1, 1) := by decide +kernel
theorem dX7_freeIn_44 : decode cX7_freeIn 44 = .ok (.iload_n 3, 1) := by decide +kernel
theorem dX7_freeIn_45 : decode cX7_freeIn 45 = .ok (.ishl, 1) := by decide +kernel
theorem dX7_freeIn_46 : decode cX7_freeIn 46 = .ok (.goto 4, 3) := by decide +kernel
theorem dX7_freeIn_49 : decode cX7_freeIn 49 = .ok (.iconst 0, 1) := by decide +kernel
theorem dX7_freeIn_50 : decode cX7_freeIn 50 = .ok (.ior, 1) := by decide +kernel
theorem dX7_freeIn_51 : decode cX7_freeIn 51 = .ok (.istore_n 2, 1) := by decide +kernel
theorem dX7_freeIn_52 : decode cX7_freeIn 52 = .ok (.iinc 3 1, 3) := by decide +kernel
theorem dX7_freeIn_55 : decode cX7_freeIn 55 = .ok (.goto (-51), 3) := by decide +kernel
theorem dX7_freeIn_58 : decode cX7_freeIn 58 = .ok (.iload_n 2, 1) := by decide +kernel
theorem dX7_freeIn_59 : decode cX7_freeIn 59 = .ok (.ireturn, 1) := by decide +kernel
theorem dX7_termBy_0 : decode cX7_termBy 0 = .ok (.iload_n 2, 1) := by decide +kernel
theorem dX7_termBy_1 : decode cX7_termBy 1 = .ok (.tableswitch 45 0 2 #[27, 33, 39], 27) := by decide +kernel
theorem dX7_termBy_28 : decode cX7_termBy 28 = .ok (.aload_n 0, 1) := by decide +kernel
theorem dX7_termBy_29 : decode cX7_termBy 29 = .ok (.iload_n 1, 1) := by decide +kernel
theorem dX7_termBy_30 : decode cX7_termBy 30 = .ok (.invokevirtual 257, 3) := by decide +kernel
theorem dX7_termBy_33 : decode cX7_termBy 33 = .ok (.ireturn, 1) := by decide +kernel
theorem dX7_termBy_34 : decode cX7_termBy 34 = .ok (.aload_n 0, 1) := by decide +kernel
theorem dX7_termBy_35 : decode cX7_termBy 35 = .ok (.iload_n 1, 1) := by decide +kernel
theorem dX7_termBy_36 : decode cX7_termBy 36 = .ok (.invokevirtual 260, 3) := by decide +kernel
theorem dX7_termBy_39 : decode cX7_termBy 39 = .ok (.ireturn, 1) := by decide +kernel
theorem dX7_termBy_40 : decode cX7_termBy 40 = .ok (.aload_n 0, 1) := by decide +kernel
theorem dX7_termBy_41 : decode cX7_termBy 41 = .ok (.iload_n 1, 1) := by decide +kernel
theorem dX7_termBy_42 : decode cX7_termBy 42 = .ok (.invokevirtual 263, 3) := by decide +kernel
theorem dX7_termBy_45 : decode cX7_termBy 45 = .ok (.ireturn, 1) := by decide +kernel
theorem dX7_termBy_46 : decode cX7_termBy 46 = .ok (.aload_n 0, 1) := by decide +kernel
theorem dX7_termBy_47 : decode cX7_termBy 47 = .ok (.getfield 28, 3) := by decide +kernel
theorem dX7_termBy_50 : decode cX7_termBy 50 = .ok (.iload_n 1, 1) := by decide +kernel
theorem dX7_termBy_51 : decode cX7_termBy 51 = .ok (.iaload, 1) := by decide +kernel
theorem dX7_termBy_52 : decode cX7_termBy 52 = .ok (.ifCond .ne 7, 3) := by decide +kernel
theorem dX7_termBy_55 : decode cX7_termBy 55 = .ok (.iconst 0, 1) := by decide +kernel
theorem dX7_termBy_56 : decode cX7_termBy 56 = .ok (.goto 11, 3) := by decide +kernel
theorem dX7_termBy_59 : decode cX7_termBy 59 = .ok (.aload_n 0, 1) := by decide +kernel
theorem dX7_termBy_60 : decode cX7_termBy 60 = .ok (.bipush 30, 2) := by decide +kernel
theorem dX7_termBy_62 : decode cX7_termBy 62 = .ok (.iload_n 1, 1) := by decide +kernel
theorem dX7_termBy_63 : decode cX7_termBy 63 = .ok (.imul, 1) := by decide +kernel
theorem dX7_termBy_64 : decode cX7_termBy 64 = .ok (.invokevirtual 266, 3) := by decide +kernel
theorem dX7_termBy_67 : decode cX7_termBy 67 = .ok (.ireturn, 1) := by decide +kernel
theorem dX7_isTerm_0 : decode cX7_isTerm 0 = .ok (.iload_n 0, 1) := by decide +kernel
theorem dX7_isTerm_1 : decode cX7_isTerm 1 = .ok (.i2l, 1) := by decide +kernel
theorem dX7_isTerm_2 : decode cX7_isTerm 2 = .ok (.lconst 0, 1) := by decide +kernel
theorem dX7_isTerm_3 : decode cX7_isTerm 3 = .ok (.ldc2_w 269, 3) := by decide +kernel
theorem dX7_isTerm_6 : decode cX7_isTerm 6 = .ok (.invokestatic 94, 3) := by decide +kernel
theorem dX7_isTerm_9 : decode cX7_isTerm 9 = .ok (.ireturn, 1) := by decide +kernel
theorem dX7_term_0 : decode cX7_term 0 = .ok (.aload_n 0, 1) := by decide +kernel
theorem dX7_term_1 : decode cX7_term 1 = .ok (.invokevirtual 271, 3) := by decide +kernel
theorem dX7_term_4 : decode cX7_term 4 = .ok (.iload_n 1, 1) := by decide +kernel
theorem dX7_term_5 : decode cX7_term 5 = .ok (.invokestatic 274, 3) := by decide +kernel
theorem dX7_term_8 : decode cX7_term 8 = .ok (.ifCond .eq 24, 3) := by decide +kernel
theorem dX7_term_11 : decode cX7_term 11 = .ok (.iload_n 2, 1) := by decide +kernel
theorem dX7_term_12 : decode cX7_term 12 = .ok (.i2l, 1) := by decide +kernel
theorem dX7_term_13 : decode cX7_term 13 = .ok (.lconst 0, 1) := by decide +kernel
theorem dX7_term_14 : decode cX7_term 14 = .ok (.ldc2_w 102, 3) := by decide +kernel
theorem dX7_term_17 : decode cX7_term 17 = .ok (.invokestatic 94, 3) := by decide +kernel
theorem dX7_term_20 : decode cX7_term 20 = .ok (.ifCond .eq 12, 3) := by decide +kernel
theorem dX7_term_23 : decode cX7_term 23 = .ok (.aload_n 0, 1) := by decide +kernel
theorem dX7_term_24 : decode cX7_term 24 = .ok (.iload_n 1, 1) := by decide +kernel
theorem dX7_term_25 : decode cX7_term 25 = .ok (.iload_n 2, 1) := by decide +kernel
theorem dX7_term_26 : decode cX7_term 26 = .ok (.invokevirtual 277, 3) := by decide +kernel
theorem dX7_term_29 : decode cX7_term 29 = .ok (.goto 5, 3) := by decide +kernel
theorem dX7_term_32 : decode cX7_term 32 = .ok (.bipush (-2), 2) := by decide +kernel
theorem dX7_term_34 : decode cX7_term 34 = .ok (.ireturn, 1) := by decide +kernel
theorem dX7_shownBy_0 : decode cX7_shownBy 0 = .ok (.aload_n 0, 1) := by decide +kernel
theorem dX7_shownBy_1 : decode cX7_shownBy 1 = .ok (.iconst 0, 1) := by decide +kernel
theorem dX7_shownBy_2 : decode cX7_shownBy 2 = .ok (.putfield 204, 3) := by decide +kernel
theorem dX7_shownBy_5 : decode cX7_shownBy 5 = .ok (.aload_n 0, 1) := by decide +kernel
theorem dX7_shownBy_6 : decode cX7_shownBy 6 = .ok (.getfield 28, 3) := by decide +kernel
theorem dX7_shownBy_9 : decode cX7_shownBy 9 = .ok (.iload_n 1, 1) := by decide +kernel
theorem dX7_shownBy_10 : decode cX7_shownBy 10 = .ok (.iaload, 1) := by decide +kernel
theorem dX7_shownBy_11 : decode cX7_shownBy 11 = .ok (.ifCond .le 13, 3) := by decide +kernel
theorem dX7_shownBy_14 : decode cX7_shownBy 14 = .ok (.aload_n 0, 1) := by decide +kernel
theorem dX7_shownBy_15 : decode cX7_shownBy 15 = .ok (.bipush 30, 2) := by decide +kernel
theorem dX7_shownBy_17 : decode cX7_shownBy 17 = .ok (.iload_n 1, 1) := by decide +kernel
theorem dX7_shownBy_18 : decode cX7_shownBy 18 = .ok (.imul, 1) := by decide +kernel
theorem dX7_shownBy_19 : decode cX7_shownBy 19 = .ok (.iload_n 2, 1) := by decide +kernel
theorem dX7_shownBy_20 : decode cX7_shownBy 20 = .ok (.iconst 0, 1) := by decide +kernel
theorem dX7_shownBy_21 : decode cX7_shownBy 21 = .ok (.invokevirtual 280, 3) := by decide +kernel
theorem dX7_shownBy_24 : decode cX7_shownBy 24 = .ok (.aload_n 0, 1) := by decide +kernel
theorem dX7_shownBy_25 : decode cX7_shownBy 25 = .ok (.iload_n 3, 1) := by decide +kernel
theorem dX7_shownBy_26 : decode cX7_shownBy 26 = .ok (.invokevirtual 226, 3) := by decide +kernel
theorem dX7_shownBy_29 : decode cX7_shownBy 29 = .ok (.ireturn, 1) := by decide +kernel
theorem dX7_shown_0 : decode cX7_shown 0 = .ok (.aload_n 0, 1) := by decide +kernel
theorem dX7_shown_1 : decode cX7_shown 1 = .ok (.invokevirtual 271, 3) := by decide +kernel
theorem dX7_shown_4 : decode cX7_shown 4 = .ok (.iload_n 1, 1) := by decide +kernel
theorem dX7_shown_5 : decode cX7_shown 5 = .ok (.invokestatic 274, 3) := by decide +kernel
theorem dX7_shown_8 : decode cX7_shown 8 = .ok (.ifCond .eq 28, 3) := by decide +kernel
theorem dX7_shown_11 : decode cX7_shown 11 = .ok (.iload_n 2, 1) := by decide +kernel
theorem dX7_shown_12 : decode cX7_shown 12 = .ok (.i2l, 1) := by decide +kernel
theorem dX7_shown_13 : decode cX7_shown 13 = .ok (.ldc2_w 229, 3) := by decide +kernel
theorem dX7_shown_16 : decode cX7_shown 16 = .ok (.ldc2_w 231, 3) := by decide +kernel
theorem dX7_shown_19 : decode cX7_shown 19 = .ok (.invokestatic 94, 3) := by decide +kernel
theorem dX7_shown_22 : decode cX7_shown 22 = .ok (.ifCond .eq 14, 3) := by decide +kernel
theorem dX7_shown_25 : decode cX7_shown 25 = .ok (.aload_n 0, 1) := by decide +kernel
theorem dX7_shown_26 : decode cX7_shown 26 = .ok (.iload_n 1, 1) := by decide +kernel
theorem dX7_shown_27 : decode cX7_shown 27 = .ok (.ldc 154, 2) := by decide +kernel
theorem dX7_shown_29 : decode cX7_shown 29 = .ok (.iload_n 2, 1) := by decide +kernel
theorem dX7_shown_30 : decode cX7_shown 30 = .ok (.invokevirtual 284, 3) := by decide +kernel
theorem dX7_shown_33 : decode cX7_shown 33 = .ok (.goto 5, 3) := by decide +kernel
theorem dX7_shown_36 : decode cX7_shown 36 = .ok (.bipush (-2), 2) := by decide +kernel
theorem dX7_shown_38 : decode cX7_shown 38 = .ok (.ireturn, 1) := by decide +kernel
theorem dX7_turned_0 : decode cX7_turned 0 = .ok (.aload_n 0, 1) := by decide +kernel
theorem dX7_turned_1 : decode cX7_turned 1 = .ok (.invokevirtual 271, 3) := by decide +kernel
theorem dX7_turned_4 : decode cX7_turned 4 = .ok (.iload_n 1, 1) := by decide +kernel
theorem dX7_turned_5 : decode cX7_turned 5 = .ok (.invokestatic 274, 3) := by decide +kernel
theorem dX7_turned_8 : decode cX7_turned 8 = .ok (.ifCond .eq 30, 3) := by decide +kernel
theorem dX7_turned_11 : decode cX7_turned 11 = .ok (.iload_n 2, 1) := by decide +kernel
theorem dX7_turned_12 : decode cX7_turned 12 = .ok (.i2l, 1) := by decide +kernel
theorem dX7_turned_13 : decode cX7_turned 13 = .ok (.ldc2_w 229, 3) := by decide +kernel
theorem dX7_turned_16 : decode cX7_turned 16 = .ok (.ldc2_w 231, 3) := by decide +kernel
theorem dX7_turned_19 : decode cX7_turned 19 = .ok (.invokestatic 94, 3) := by decide +kernel
theorem dX7_turned_22 : decode cX7_turned 22 = .ok (.ifCond .eq 16, 3) := by decide +kernel
theorem dX7_turned_25 : decode cX7_turned 25 = .ok (.aload_n 0, 1) := by decide +kernel
theorem dX7_turned_26 : decode cX7_turned 26 = .ok (.iload_n 1, 1) := by decide +kernel
theorem dX7_turned_27 : decode cX7_turned 27 = .ok (.aload_n 0, 1) := by decide +kernel
theorem dX7_turned_28 : decode cX7_turned 28 = .ok (.getfield 155, 3) := by decide +kernel
theorem dX7_turned_31 : decode cX7_turned 31 = .ok (.iload_n 2, 1) := by decide +kernel
theorem dX7_turned_32 : decode cX7_turned 32 = .ok (.invokevirtual 284, 3) := by decide +kernel
theorem dX7_turned_35 : decode cX7_turned 35 = .ok (.goto 5, 3) := by decide +kernel
theorem dX7_turned_38 : decode cX7_turned 38 = .ok (.bipush (-2), 2) := by decide +kernel
theorem dX7_turned_40 : decode cX7_turned 40 = .ok (.ireturn, 1) := by decide +kernel
theorem dX7_piles_0 : decode cX7_piles 0 = .ok (.aload_n 0, 1) := by decide +kernel
theorem dX7_piles_1 : decode cX7_piles 1 = .ok (.getfield 67, 3) := by decide +kernel
theorem dX7_piles_4 : decode cX7_piles 4 = .ok (.aload_n 0, 1) := by decide +kernel
theorem dX7_piles_5 : decode cX7_piles 5 = .ok (.getfield 287, 3) := by decide +kernel
theorem dX7_piles_8 : decode cX7_piles 8 = .ok (.iload_n 1, 1) := by decide +kernel
theorem dX7_piles_9 : decode cX7_piles 9 = .ok (.iastore, 1) := by decide +kernel
theorem dX7_piles_10 : decode cX7_piles 10 = .ok (.aload_n 0, 1) := by decide +kernel
theorem dX7_piles_11 : decode cX7_piles 11 = .ok (.getfield 70, 3) := by decide +kernel
theorem dX7_piles_14 : decode cX7_piles 14 = .ok (.aload_n 0, 1) := by decide +kernel
theorem dX7_piles_15 : decode cX7_piles 15 = .ok (.getfield 287, 3) := by decide +kernel
theorem dX7_piles_18 : decode cX7_piles 18 = .ok (.iload_n 2, 1) := by decide +kernel
theorem dX7_piles_19 : decode cX7_piles 19 = .ok (.iastore, 1) := by decide +kernel
theorem dX7_piles_20 : decode cX7_piles 20 = .ok (.aload_n 0, 1) := by decide +kernel
theorem dX7_piles_21 : decode cX7_piles 21 = .ok (.getfield 73, 3) := by decide +kernel
theorem dX7_piles_24 : decode cX7_piles 24 = .ok (.aload_n 0, 1) := by decide +kernel
theorem dX7_piles_25 : decode cX7_piles 25 = .ok (.getfield 287, 3) := by decide +kernel
theorem dX7_piles_28 : decode cX7_piles 28 = .ok (.iload_n 3, 1) := by decide +kernel
theorem dX7_piles_29 : decode cX7_piles 29 = .ok (.iastore, 1) := by decide +kernel
theorem dX7_piles_30 : decode cX7_piles 30 = .ok (.aload_n 0, 1) := by decide +kernel
theorem dX7_piles_31 : decode cX7_piles 31 = .ok (.getfield 76, 3) := by decide +kernel
theorem dX7_piles_34 : decode cX7_piles 34 = .ok (.aload_n 0, 1) := by decide +kernel
theorem dX7_piles_35 : decode cX7_piles 35 = .ok (.getfield 287, 3) := by decide +kernel
theorem dX7_piles_38 : decode cX7_piles 38 = .ok (.iload 4, 2) := by decide +kernel
theorem dX7_piles_40 : decode cX7_piles 40 = .ok (.iastore, 1) := by decide +kernel
theorem dX7_piles_41 : decode cX7_piles 41 = .ok (.aload_n 0, 1) := by decide +kernel
theorem dX7_piles_42 : decode cX7_piles 42 = .ok (.dup, 1) := by decide +kernel
theorem dX7_piles_43 : decode cX7_piles 43 = .ok (.getfield 287, 3) := by decide +kernel
theorem dX7_piles_46 : decode cX7_piles 46 = .ok (.iconst 1, 1) := by decide +kernel
theorem dX7_piles_47 : decode cX7_piles 47 = .ok (.iadd, 1) := by decide +kernel
theorem dX7_piles_48 : decode cX7_piles 48 = .ok (.putfield 287, 3) := by decide +kernel
theorem dX7_piles_51 : decode cX7_piles 51 = .ok (.return_, 1) := by decide +kernel
theorem dX7_unlike_0 : decode cX7_unlike 0 = .ok (.iconst 0, 1) := by decide +kernel
theorem dX7_unlike_1 : decode cX7_unlike 1 = .ok (.istore_n 2, 1) := by decide +kernel
theorem dX7_unlike_2 : decode cX7_unlike 2 = .ok (.iconst 0, 1) := by decide +kernel
theorem dX7_unlike_3 : decode cX7_unlike 3 = .ok (.istore_n 3, 1) := by decide +kernel
theorem dX7_unlike_4 : decode cX7_unlike 4 = .ok (.iload_n 3, 1) := by decide +kernel
theorem dX7_unlike_5 : decode cX7_unlike 5 = .ok (.bipush 6, 2) := by decide +kernel
theorem dX7_unlike_7 : decode cX7_unlike 7 = .ok (.if_icmp .ge 32, 3) := by decide +kernel
theorem dX7_unlike_10 : decode cX7_unlike 10 = .ok (.iload_n 2, 1) := by decide +kernel
theorem dX7_unlike_11 : decode cX7_unlike 11 = .ok (.iload_n 0, 1) := by decide +kernel
theorem dX7_unlike_12 : decode cX7_unlike 12 = .ok (.iload_n 3, 1) := by decide +kernel
theorem dX7_unlike_13 : decode cX7_unlike 13 = .ok (.invokestatic 123, 3) := by decide +kernel
theorem dX7_unlike_16 : decode cX7_unlike 16 = .ok (.iload_n 1, 1) := by decide +kernel
theorem dX7_unlike_17 : decode cX7_unlike 17 = .ok (.iload_n 3, 1) := by decide +kernel
theorem dX7_unlike_18 : decode cX7_unlike 18 = .ok (.invokestatic 123, 3) := by decide +kernel
theorem dX7_unlike_21 : decode cX7_unlike 21 = .ok (.if_icmp .eq 9, 3) := by decide +kernel
theorem dX7_unlike_24 : decode cX7_unlike 24 = .ok (.iconst 1, 1) := by decide +kernel
theorem dX7_unlike_25 : decode cX7_unlike 25 = .ok (.iload_n 3, 1) := by decide +kernel
theorem dX7_unlike_26 : decode cX7_unlike 26 = .ok (.ishl, 1) := by decide +kernel
theorem dX7_unlike_27 : decode cX7_unlike 27 = .ok (.goto 4, 3) := by decide +kernel
theorem dX7_unlike_30 : decode cX7_unlike 30 = .ok (.iconst 0, 1) := by decide +kernel
theorem dX7_unlike_31 : decode cX7_unlike 31 = .ok (.ior, 1) := by decide +kernel
theorem dX7_unlike_32 : decode cX7_unlike 32 = .ok (.istore_n 2, 1) := by decide +kernel
theorem dX7_unlike_33 : decode cX7_unlike 33 = .ok (.iinc 3 1, 3) := by decide +kernel
theorem dX7_unlike_36 : decode cX7_unlike 36 = .ok (.goto (-32), 3) := by decide +kernel
theorem dX7_unlike_39 : decode cX7_unlike 39 = .ok (.iload_n 2, 1) := by decide +kernel
theorem dX7_unlike_40 : decode cX7_unlike 40 = .ok (.ireturn, 1) := by decide +kernel
theorem dX7_isThere_0 : decode cX7_isThere 0 = .ok (.aload_n 0, 1) := by decide +kernel
theorem dX7_isThere_1 : decode cX7_isThere 1 = .ok (.getfield 28, 3) := by decide +kernel
theorem dX7_isThere_4 : decode cX7_isThere 4 = .ok (.iconst 2, 1) := by decide +kernel
theorem dX7_isThere_5 : decode cX7_isThere 5 = .ok (.iload_n 1, 1) := by decide +kernel
theorem dX7_isThere_6 : decode cX7_isThere 6 = .ok (.imul, 1) := by decide +kernel
theorem dX7_isThere_7 : decode cX7_isThere 7 = .ok (.iaload, 1) := by decide +kernel
theorem dX7_isThere_8 : decode cX7_isThere 8 = .ok (.ifCond .le 20, 3) := by decide +kernel
theorem dX7_isThere_11 : decode cX7_isThere 11 = .ok (.aload_n 0, 1) := by decide +kernel
theorem dX7_isThere_12 : decode cX7_isThere 12 = .ok (.getfield 28, 3) := by decide +kernel
theorem dX7_isThere_15 : decode cX7_isThere 15 = .ok (.iconst 2, 1) := by decide +kernel
theorem dX7_isThere_16 : decode cX7_isThere 16 = .ok (.iload_n 1, 1) := by decide +kernel
theorem dX7_isThere_17 : decode cX7_isThere 17 = .ok (.imul, 1) := by decide +kernel
theorem dX7_isThere_18 : decode cX7_isThere 18 = .ok (.iconst 1, 1) := by decide +kernel
theorem dX7_isThere_19 : decode cX7_isThere 19 = .ok (.iadd, 1) := by decide +kernel
theorem dX7_isThere_20 : decode cX7_isThere 20 = .ok (.iaload, 1) := by decide +kernel
theorem dX7_isThere_21 : decode cX7_isThere 21 = .ok (.ifCond .le 7, 3) := by decide +kernel
theorem dX7_isThere_24 : decode cX7_isThere 24 = .ok (.iconst 1, 1) := by decide +kernel
theorem dX7_isThere_25 : decode cX7_isThere 25 = .ok (.goto 4, 3) := by decide +kernel
theorem dX7_isThere_28 : decode cX7_isThere 28 = .ok (.iconst 0, 1) := by decide +kernel
theorem dX7_isThere_29 : decode cX7_isThere 29 = .ok (.ireturn, 1) := by decide +kernel
theorem dX7_isFresh_0 : decode cX7_isFresh 0 = .ok (.iconst 0, 1) := by decide +kernel
theorem dX7_isFresh_1 : decode cX7_isFresh 1 = .ok (.istore 4, 2) := by decide +kernel
theorem dX7_isFresh_3 : decode cX7_isFresh 3 = .ok (.iload 4, 2) := by decide +kernel
theorem dX7_isFresh_5 : decode cX7_isFresh 5 = .ok (.bipush 6, 2) := by decide +kernel
theorem dX7_isFresh_7 : decode cX7_isFresh 7 = .ok (.if_icmp .ge 17, 3) := by decide +kernel
theorem dX7_isFresh_10 : decode cX7_isFresh 10 = .ok (.aload_n 0, 1) := by decide +kernel
theorem dX7_isFresh_11 : decode cX7_isFresh 11 = .ok (.getfield 64, 3) := by decide +kernel
theorem dX7_isFresh_14 : decode cX7_isFresh 14 = .ok (.iload 4, 2) := by decide +kernel
theorem dX7_isFresh_16 : decode cX7_isFresh 16 = .ok (.iconst 0, 1) := by decide +kernel
theorem dX7_isFresh_17 : decode cX7_isFresh 17 = .ok (.iastore, 1) := by decide +kernel
theorem dX7_isFresh_18 : decode cX7_isFresh 18 = .ok (.iinc 4 1, 3) := by decide +kernel
theorem dX7_isFresh_21 : decode cX7_isFresh 21 = .ok (.goto (-18), 3) := by decide +kernel
theorem dX7_isFresh_24 : decode cX7_isFresh 24 = .ok (.aload_n 0, 1) := by decide +kernel
theorem dX7_isFresh_25 : decode cX7_isFresh 25 = .ok (.iconst 0, 1) := by decide +kernel
theorem dX7_isFresh_26 : decode cX7_isFresh 26 = .ok (.putfield 249, 3) := by decide +kernel
theorem dX7_isFresh_29 : decode cX7_isFresh 29 = .ok (.aload_n 0, 1) := by decide +kernel
theorem dX7_isFresh_30 : decode cX7_isFresh 30 = .ok (.iload_n 1, 1) := by decide +kernel
theorem dX7_isFresh_31 : decode cX7_isFresh 31 = .ok (.iload_n 2, 1) := by decide +kernel
theorem dX7_isFresh_32 : decode cX7_isFresh 32 = .ok (.iload_n 3, 1) := by decide +kernel
theorem dX7_isFresh_33 : decode cX7_isFresh 33 = .ok (.invokevirtual 253, 3) := by decide +kernel
theorem dX7_isFresh_36 : decode cX7_isFresh 36 = .ok (.aload_n 0, 1) := by decide +kernel
theorem dX7_isFresh_37 : decode cX7_isFresh 37 = .ok (.getfield 249, 3) := by decide +kernel
theorem dX7_isFresh_40 : decode cX7_isFresh 40 = .ok (.ifCond .ne 7, 3) := by decide +kernel
theorem dX7_isFresh_43 : decode cX7_isFresh 43 = .ok (.iconst 1, 1) := by decide +kernel
theorem dX7_isFresh_44 : decode cX7_isFresh 44 = .ok (.goto 4, 3) := by decide +kernel
theorem dX7_isFresh_47 : decode cX7_isFresh 47 = .ok (.iconst 0, 1) := by decide +kernel
theorem dX7_isFresh_48 : decode cX7_isFresh 48 = .ok (.istore 4, 2) := by decide +kernel
theorem dX7_isFresh_50 : decode cX7_isFresh 50 = .ok (.iconst 0, 1) := by decide +kernel
theorem dX7_isFresh_51 : decode cX7_isFresh 51 = .ok (.istore 5, 2) := by decide +kernel
theorem dX7_isFresh_53 : decode cX7_isFresh 53 = .ok (.iload 5, 2) := by decide +kernel
theorem dX7_isFresh_55 : decode cX7_isFresh 55 = .ok (.bipush 6, 2) := by decide +kernel
theorem dX7_isFresh_57 : decode cX7_isFresh 57 = .ok (.if_icmp .ge 41, 3) := by decide +kernel
theorem dX7_isFresh_60 : decode cX7_isFresh 60 = .ok (.iload 4, 2) := by decide +kernel
theorem dX7_isFresh_62 : decode cX7_isFresh 62 = .ok (.ifCond .eq 27, 3) := by decide +kernel
theorem dX7_isFresh_65 : decode cX7_isFresh 65 = .ok (.aload_n 0, 1) := by decide +kernel
theorem dX7_isFresh_66 : decode cX7_isFresh 66 = .ok (.getfield 64, 3) := by decide +kernel
theorem dX7_isFresh_69 : decode cX7_isFresh 69 = .ok (.iload 5, 2) := by decide +kernel
theorem dX7_isFresh_71 : decode cX7_isFresh 71 = .ok (.iaload, 1) := by decide +kernel
theorem dX7_isFresh_72 : decode cX7_isFresh 72 = .ok (.aload_n 0, 1) := by decide +kernel
theorem dX7_isFresh_73 : decode cX7_isFresh 73 = .ok (.getfield 43, 3) := by decide +kernel
theorem dX7_isFresh_76 : decode cX7_isFresh 76 = .ok (.iload 5, 2) := by decide +kernel
theorem dX7_isFresh_78 : decode cX7_isFresh 78 = .ok (.iaload, 1) := by decide +kernel
theorem dX7_isFresh_79 : decode cX7_isFresh 79 = .ok (.iconst (-1), 1) := by decide +kernel
theorem dX7_isFresh_80 : decode cX7_isFresh 80 = .ok (.ixor, 1) := by decide +kernel
theorem dX7_isFresh_81 : decode cX7_isFresh 81 = .ok (.iand, 1) := by decide +kernel
theorem dX7_isFresh_82 : decode cX7_isFresh 82 = .ok (.ifCond .ne 7, 3) := by decide +kernel
theorem dX7_isFresh_85 : decode cX7_isFresh 85 = .ok (.iconst 1, 1) := by decide +kernel
theorem dX7_isFresh_86 : decode cX7_isFresh 86 = .ok (.goto 4, 3) := by decide +kernel
theorem dX7_isFresh_89 : decode cX7_isFresh 89 = .ok (.iconst 0, 1) := by decide +kernel
theorem dX7_isFresh_90 : decode cX7_isFresh 90 = .ok (.istore 4, 2) := by decide +kernel
theorem dX7_isFresh_92 : decode cX7_isFresh 92 = .ok (.iinc 5 1, 3) := by decide +kernel
theorem dX7_isFresh_95 : decode cX7_isFresh 95 = .ok (.goto (-42), 3) := by decide +kernel
theorem dX7_isFresh_98 : decode cX7_isFresh 98 = .ok (.iload 4, 2) := by decide +kernel
theorem dX7_isFresh_100 : decode cX7_isFresh 100 = .ok (.ireturn, 1) := by decide +kernel
theorem dX7_enters_0 : decode cX7_enters 0 = .ok (.aload_n 0, 1) := by decide +kernel
theorem dX7_enters_1 : decode cX7_enters 1 = .ok (.iload_n 1, 1) := by decide +kernel
theorem dX7_enters_2 : decode cX7_enters 2 = .ok (.putfield 290, 3) := by decide +kernel
theorem dX7_enters_5 : decode cX7_enters 5 = .ok (.aload_n 0, 1) := by decide +kernel
theorem dX7_enters_6 : decode cX7_enters 6 = .ok (.iload_n 2, 1) := by decide +kernel
theorem dX7_enters_7 : decode cX7_enters 7 = .ok (.putfield 293, 3) := by decide +kernel
theorem dX7_enters_10 : decode cX7_enters 10 = .ok (.iconst 1, 1) := by decide +kernel
theorem dX7_enters_11 : decode cX7_enters 11 = .ok (.istore 4, 2) := by decide +kernel
theorem dX7_enters_13 : decode cX7_enters 13 = .ok (.iload 4, 2) := by decide +kernel
theorem dX7_enters_15 : decode cX7_enters 15 = .ok (.ifCond .eq 139, 3) := by decide +kernel
theorem dX7_enters_18 : decode cX7_enters 18 = .ok (.aload_n 0, 1) := by decide +kernel
theorem dX7_enters_19 : decode cX7_enters 19 = .ok (.getfield 290, 3) := by decide +kernel
theorem dX7_enters_22 : decode cX7_enters 22 = .ok (.istore 5, 2) := by decide +kernel
theorem dX7_enters_24 : decode cX7_enters 24 = .ok (.aload_n 0, 1) := by decide +kernel
theorem dX7_enters_25 : decode cX7_enters 25 = .ok (.getfield 31, 3) := by decide +kernel
theorem dX7_enters_28 : decode cX7_enters 28 = .ok (.iload 5, 2) := by decide +kernel
theorem dX7_enters_30 : decode cX7_enters 30 = .ok (.iaload, 1) := by decide +kernel
theorem dX7_enters_31 : decode cX7_enters 31 = .ok (.bipush 6, 2) := by decide +kernel
theorem dX7_enters_33 : decode cX7_enters 33 = .ok (.if_icmp .ne 42, 3) := by decide +kernel
theorem dX7_enters_36 : decode cX7_enters 36 = .ok (.aload_n 0, 1) := by decide +kernel
theorem dX7_enters_37 : decode cX7_enters 37 = .ok (.aload_n 0, 1) := by decide +kernel
theorem dX7_enters_38 : decode cX7_enters 38 = .ok (.getfield 293, 3) := by decide +kernel
theorem dX7_enters_41 : decode cX7_enters 41 = .ok (.aload_n 0, 1) := by decide +kernel
theorem dX7_enters_42 : decode cX7_enters 42 = .ok (.getfield 34, 3) := by decide +kernel
theorem dX7_enters_45 : decode cX7_enters 45 = .ok (.iload 5, 2) := by decide +kernel
theorem dX7_enters_47 : decode cX7_enters 47 = .ok (.iaload, 1) := by decide +kernel
theorem dX7_enters_48 : decode cX7_enters 48 = .ok (.aload_n 0, 1) := by decide +kernel
theorem dX7_enters_49 : decode cX7_enters 49 = .ok (.getfield 37, 3) := by decide +kernel
theorem dX7_enters_52 : decode cX7_enters 52 = .ok (.iload 5, 2) := by decide +kernel
theorem dX7_enters_54 : decode cX7_enters 54 = .ok (.iaload, 1) := by decide +kernel
theorem dX7_enters_55 : decode cX7_enters 55 = .ok (.invokestatic 158, 3) := by decide +kernel
theorem dX7_enters_58 : decode cX7_enters 58 = .ok (.invokestatic 161, 3) := by decide +kernel
theorem dX7_enters_61 : decode cX7_enters 61 = .ok (.putfield 293, 3) := by decide +kernel
theorem dX7_enters_64 : decode cX7_enters 64 = .ok (.aload_n 0, 1) := by decide +kernel
theorem dX7_enters_65 : decode cX7_enters 65 = .ok (.iload 5, 2) := by decide +kernel
theorem dX7_enters_67 : decode cX7_enters 67 = .ok (.iconst 1, 1) := by decide +kernel
theorem dX7_enters_68 : decode cX7_enters 68 = .ok (.iadd, 1) := by decide +kernel
theorem dX7_enters_69 : decode cX7_enters 69 = .ok (.putfield 290, 3) := by decide +kernel
theorem dX7_enters_72 : decode cX7_enters 72 = .ok (.goto 79, 3) := by decide +kernel
theorem dX7_enters_75 : decode cX7_enters 75 = .ok (.aload_n 0, 1) := by decide +kernel
theorem dX7_enters_76 : decode cX7_enters 76 = .ok (.getfield 31, 3) := by decide +kernel
theorem dX7_enters_79 : decode cX7_enters 79 = .ok (.iload 5, 2) := by decide +kernel
theorem dX7_enters_81 : decode cX7_enters 81 = .ok (.iaload, 1) := by decide +kernel
theorem dX7_enters_82 : decode cX7_enters 82 = .ok (.iconst 1, 1) := by decide +kernel
theorem dX7_enters_83 : decode cX7_enters 83 = .ok (.if_icmp .ne 65, 3) := by decide +kernel
theorem dX7_enters_86 : decode cX7_enters 86 = .ok (.iload_n 3, 1) := by decide +kernel
theorem dX7_enters_87 : decode cX7_enters 87 = .ok (.ifCond .eq 61, 3) := by decide +kernel
theorem dX7_enters_90 : decode cX7_enters 90 = .ok (.aload_n 0, 1) := by decide +kernel
theorem dX7_enters_91 : decode cX7_enters 91 = .ok (.getfield 55, 3) := by decide +kernel
theorem dX7_enters_94 : decode cX7_enters 94 = .ok (.aload_n 0, 1) := by decide +kernel
theorem dX7_enters_95 : decode cX7_enters 95 = .ok (.getfield 34, 3) := by decide +kernel
theorem dX7_enters_98 : decode cX7_enters 98 = .ok (.iload 5, 2) := by decide +kernel
theorem dX7_enters_100 : decode cX7_enters 100 = .ok (.iaload, 1) := by decide +kernel
theorem dX7_enters_101 : decode cX7_enters 101 = .ok (.iaload, 1) := by decide +kernel
theorem dX7_enters_102 : decode cX7_enters 102 = .ok (.iconst (-1), 1) := by decide +kernel
theorem dX7_enters_103 : decode cX7_enters 103 = .ok (.if_icmp .eq 45, 3) := by decide +kernel
theorem dX7_enters_106 : decode cX7_enters 106 = .ok (.aload_n 0, 1) := by decide +kernel
theorem dX7_enters_107 : decode cX7_enters 107 = .ok (.aload_n 0, 1) := by decide +kernel
theorem dX7_enters_108 : decode cX7_enters 108 = .ok (.getfield 293, 3) := by decide +kernel
theorem dX7_enters_111 : decode cX7_enters 111 = .ok (.aload_n 0, 1) := by decide +kernel
theorem dX7_enters_112 : decode cX7_enters 112 = .ok (.getfield 58, 3) := by decide +kernel
theorem dX7_enters_115 : decode cX7_enters 115 = .ok (.aload_n 0, 1) := by decide +kernel
theorem dX7_enters_116 : decode cX7_enters 116 = .ok (.getfield 34, 3) := by decide +kernel
theorem dX7_enters_119 : decode cX7_enters 119 = .ok (.iload 5, 2) := by decide +kernel
theorem dX7_enters_121 : decode cX7_enters 121 = .ok (.iaload, 1) := by decide +kernel
theorem dX7_enters_122 : decode cX7_enters 122 = .ok (.iaload, 1) := by decide +kernel
theorem dX7_enters_123 : decode cX7_enters 123 = .ok (.invokestatic 161, 3) := by decide +kernel
theorem dX7_enters_126 : decode cX7_enters 126 = .ok (.putfield 293, 3) := by decide +kernel
theorem dX7_enters_129 : decode cX7_enters 129 = .ok (.aload_n 0, 1) := by decide +kernel
theorem dX7_enters_130 : decode cX7_enters 130 = .ok (.aload_n 0, 1) := by decide +kernel
theorem dX7_enters_131 : decode cX7_enters 131 = .ok (.getfield 55, 3) := by decide +kernel
theorem dX7_enters_134 : decode cX7_enters 134 = .ok (.aload_n 0, 1) := by decide +kernel
theorem dX7_enters_135 : decode cX7_enters 135 = .ok (.getfield 34, 3) := by decide +kernel
theorem dX7_enters_138 : decode cX7_enters 138 = .ok (.iload 5, 2) := by decide +kernel
theorem dX7_enters_140 : decode cX7_enters 140 = .ok (.iaload, 1) := by decide +kernel
theorem dX7_enters_141 : decode cX7_enters 141 = .ok (.iaload, 1) := by decide +kernel
theorem dX7_enters_142 : decode cX7_enters 142 = .ok (.putfield 290, 3) := by decide +kernel
theorem dX7_enters_145 : decode cX7_enters 145 = .ok (.goto 6, 3) := by decide +kernel
theorem dX7_enters_148 : decode cX7_enters 148 = .ok (.iconst 0, 1) := by decide +kernel
theorem dX7_enters_149 : decode cX7_enters 149 = .ok (.istore 4, 2) := by decide +kernel
theorem dX7_enters_151 : decode cX7_enters 151 = .ok (.goto (-138), 3) := by decide +kernel
theorem dX7_enters_154 : decode cX7_enters 154 = .ok (.return_, 1) := by decide +kernel
theorem dX7_goesOn_0 : decode cX7_goesOn 0 = .ok (.aload_n 0, 1) := by decide +kernel
theorem dX7_goesOn_1 : decode cX7_goesOn 1 = .ok (.iconst (-1), 1) := by decide +kernel
theorem dX7_goesOn_2 : decode cX7_goesOn 2 = .ok (.putfield 296, 3) := by decide +kernel
theorem dX7_goesOn_5 : decode cX7_goesOn 5 = .ok (.aload_n 0, 1) := by decide +kernel
theorem dX7_goesOn_6 : decode cX7_goesOn 6 = .ok (.getfield 31, 3) := by decide +kernel
theorem dX7_goesOn_9 : decode cX7_goesOn 9 = .ok (.iload_n 1, 1) := by decide +kernel
theorem dX7_goesOn_10 : decode cX7_goesOn 10 = .ok (.iaload, 1) := by decide +kernel
theorem dX7_goesOn_11 : decode cX7_goesOn 11 = .ok (.tableswitch 135 0 4 #[33, 135, 63, 65, 97], 33) := by decide +kernel
theorem dX7_goesOn_44 : decode cX7_goesOn 44 = .ok (.iload_n 2, 1) := by decide +kernel
theorem dX7_goesOn_45 : decode cX7_goesOn 45 = .ok (.aload_n 0, 1) := by decide +kernel
theorem dX7_goesOn_46 : decode cX7_goesOn 46 = .ok (.getfield 34, 3) := by decide +kernel
theorem dX7_goesOn_49 : decode cX7_goesOn 49 = .ok (.iload_n 1, 1) := by decide +kernel
theorem dX7_goesOn_50 : decode cX7_goesOn 50 = .ok (.iaload, 1) := by decide +kernel
theorem dX7_goesOn_51 : decode cX7_goesOn 51 = .ok (.invokestatic 123, 3) := by decide +kernel
theorem dX7_goesOn_54 : decode cX7_goesOn 54 = .ok (.iload 4, 2) := by decide +kernel
theorem dX7_goesOn_56 : decode cX7_goesOn 56 = .ok (.aload_n 0, 1) := by decide +kernel
theorem dX7_goesOn_57 : decode cX7_goesOn 57 = .ok (.getfield 34, 3) := by decide +kernel
theorem dX7_goesOn_60 : decode cX7_goesOn 60 = .ok (.iload_n 3, 1) := by decide +kernel
theorem dX7_goesOn_61 : decode cX7_goesOn 61 = .ok (.iaload, 1) := by decide +kernel
theorem dX7_goesOn_62 : decode cX7_goesOn 62 = .ok (.invokestatic 123, 3) := by decide +kernel
theorem dX7_goesOn_65 : decode cX7_goesOn 65 = .ok (.if_icmp .ne 7, 3) := by decide +kernel
theorem dX7_goesOn_68 : decode cX7_goesOn 68 = .ok (.iconst 1, 1) := by decide +kernel
theorem dX7_goesOn_69 : decode cX7_goesOn 69 = .ok (.goto 4, 3) := by decide +kernel
theorem dX7_goesOn_72 : decode cX7_goesOn 72 = .ok (.iconst 0, 1) := by decide +kernel
theorem dX7_goesOn_73 : decode cX7_goesOn 73 = .ok (.ireturn, 1) := by decide +kernel
theorem dX7_goesOn_74 : decode cX7_goesOn 74 = .ok (.iconst 1, 1) := by decide +kernel
theorem dX7_goesOn_75 : decode cX7_goesOn 75 = .ok (.ireturn, 1) := by decide +kernel
theorem dX7_goesOn_76 : decode cX7_goesOn 76 = .ok (.aload_n 0, 1) := by decide +kernel
theorem dX7_goesOn_77 : decode cX7_goesOn 77 = .ok (.getfield 34, 3) := by decide +kernel
theorem dX7_goesOn_80 : decode cX7_goesOn 80 = .ok (.iload_n 1, 1) := by decide +kernel
theorem dX7_goesOn_81 : decode cX7_goesOn 81 = .ok (.iaload, 1) := by decide +kernel
theorem dX7_goesOn_82 : decode cX7_goesOn 82 = .ok (.aload_n 0, 1) := by decide +kernel
theorem dX7_goesOn_83 : decode cX7_goesOn 83 = .ok (.getfield 34, 3) := by decide +kernel
theorem dX7_goesOn_86 : decode cX7_goesOn 86 = .ok (.iload_n 3, 1) := by decide +kernel
theorem dX7_goesOn_87 : decode cX7_goesOn 87 = .ok (.iaload, 1) := by decide +kernel
theorem dX7_goesOn_88 : decode cX7_goesOn 88 = .ok (.if_icmp .eq 5, 3) := by decide +kernel
theorem dX7_goesOn_91 : decode cX7_goesOn 91 = .ok (.iconst 0, 1) := by decide +kernel
theorem dX7_goesOn_92 : decode cX7_goesOn 92 = .ok (.ireturn, 1) := by decide +kernel
theorem dX7_goesOn_93 : decode cX7_goesOn 93 = .ok (.aload_n 0, 1) := by decide +kernel
theorem dX7_goesOn_94 : decode cX7_goesOn 94 = .ok (.iload_n 1, 1) := by decide +kernel
theorem dX7_goesOn_95 : decode cX7_goesOn 95 = .ok (.iconst 1, 1) := by decide +kernel
theorem dX7_goesOn_96 : decode cX7_goesOn 96 = .ok (.iadd, 1) := by decide +kernel
theorem dX7_goesOn_97 : decode cX7_goesOn 97 = .ok (.iload_n 2, 1) := by decide +kernel
theorem dX7_goesOn_98 : decode cX7_goesOn 98 = .ok (.iload_n 3, 1) := by decide +kernel
theorem dX7_goesOn_99 : decode cX7_goesOn 99 = .ok (.iconst 1, 1) := by decide +kernel
theorem dX7_goesOn_100 : decode cX7_goesOn 100 = .ok (.iadd, 1) := by decide +kernel
theorem dX7_goesOn_101 : decode cX7_goesOn 101 = .ok (.iload 4, 2) := by decide +kernel
theorem dX7_goesOn_103 : decode cX7_goesOn 103 = .ok (.invokevirtual 299, 3) := by decide +kernel
theorem dX7_goesOn_106 : decode cX7_goesOn 106 = .ok (.iconst 1, 1) := by decide +kernel
theorem dX7_goesOn_107 : decode cX7_goesOn 107 = .ok (.ireturn, 1) := by decide +kernel
theorem dX7_goesOn_108 : decode cX7_goesOn 108 = .ok (.aload_n 0, 1) := by decide +kernel
theorem dX7_goesOn_109 : decode cX7_goesOn 109 = .ok (.aload_n 0, 1) := by decide +kernel
theorem dX7_goesOn_110 : decode cX7_goesOn 110 = .ok (.getfield 40, 3) := by decide +kernel
theorem dX7_goesOn_113 : decode cX7_goesOn 113 = .ok (.iload_n 1, 1) := by decide +kernel
theorem dX7_goesOn_114 : decode cX7_goesOn 114 = .ok (.iconst 1, 1) := by decide +kernel
theorem dX7_goesOn_115 : decode cX7_goesOn 115 = .ok (.iadd, 1) := by decide +kernel
theorem dX7_goesOn_116 : decode cX7_goesOn 116 = .ok (.iaload, 1) := by decide +kernel
theorem dX7_goesOn_117 : decode cX7_goesOn 117 = .ok (.iload_n 2, 1) := by decide +kernel
theorem dX7_goesOn_118 : decode cX7_goesOn 118 = .ok (.aload_n 0, 1) := by decide +kernel
theorem dX7_goesOn_119 : decode cX7_goesOn 119 = .ok (.getfield 40, 3) := by decide +kernel
theorem dX7_goesOn_122 : decode cX7_goesOn 122 = .ok (.iload_n 3, 1) := by decide +kernel
theorem dX7_goesOn_123 : decode cX7_goesOn 123 = .ok (.iconst 1, 1) := by decide +kernel
theorem dX7_goesOn_124 : decode cX7_goesOn 124 = .ok (.iadd, 1) := by decide +kernel
theorem dX7_goesOn_125 : decode cX7_goesOn 125 = .ok (.iaload, 1) := by decide +kernel
theorem dX7_goesOn_126 : decode cX7_goesOn 126 = .ok (.iload 4, 2) := by decide +kernel
theorem dX7_goesOn_128 : decode cX7_goesOn 128 = .ok (.invokevirtual 299, 3) := by decide +kernel
theorem dX7_goesOn_131 : decode cX7_goesOn 131 = .ok (.aload_n 0, 1) := by decide +kernel
theorem dX7_goesOn_132 : decode cX7_goesOn 132 = .ok (.iload_n 1, 1) := by decide +kernel
theorem dX7_goesOn_133 : decode cX7_goesOn 133 = .ok (.iconst 1, 1) := by decide +kernel
theorem dX7_goesOn_134 : decode cX7_goesOn 134 = .ok (.iadd, 1) := by decide +kernel
theorem dX7_goesOn_135 : decode cX7_goesOn 135 = .ok (.iload_n 2, 1) := by decide +kernel
theorem dX7_goesOn_136 : decode cX7_goesOn 136 = .ok (.iload_n 3, 1) := by decide +kernel
theorem dX7_goesOn_137 : decode cX7_goesOn 137 = .ok (.iconst 1, 1) := by decide +kernel
theorem dX7_goesOn_138 : decode cX7_goesOn 138 = .ok (.iadd, 1) := by decide +kernel
theorem dX7_goesOn_139 : decode cX7_goesOn 139 = .ok (.iload 4, 2) := by decide +kernel
theorem dX7_goesOn_141 : decode cX7_goesOn 141 = .ok (.invokevirtual 299, 3) := by decide +kernel
theorem dX7_goesOn_144 : decode cX7_goesOn 144 = .ok (.iconst 1, 1) := by decide +kernel
theorem dX7_goesOn_145 : decode cX7_goesOn 145 = .ok (.ireturn, 1) := by decide +kernel
theorem dX7_goesOn_146 : decode cX7_goesOn 146 = .ok (.iload_n 2, 1) := by decide +kernel
theorem dX7_goesOn_147 : decode cX7_goesOn 147 = .ok (.aload_n 0, 1) := by decide +kernel
theorem dX7_goesOn_148 : decode cX7_goesOn 148 = .ok (.getfield 34, 3) := by decide +kernel
theorem dX7_goesOn_151 : decode cX7_goesOn 151 = .ok (.iload_n 1, 1) := by decide +kernel
theorem dX7_goesOn_152 : decode cX7_goesOn 152 = .ok (.iaload, 1) := by decide +kernel
theorem dX7_goesOn_153 : decode cX7_goesOn 153 = .ok (.invokestatic 123, 3) := by decide +kernel
theorem dX7_goesOn_156 : decode cX7_goesOn 156 = .ok (.istore 5, 2) := by decide +kernel
theorem dX7_goesOn_158 : decode cX7_goesOn 158 = .ok (.iload 4, 2) := by decide +kernel
theorem dX7_goesOn_160 : decode cX7_goesOn 160 = .ok (.aload_n 0, 1) := by decide +kernel
theorem dX7_goesOn_161 : decode cX7_goesOn 161 = .ok (.getfield 34, 3) := by decide +kernel
theorem dX7_goesOn_164 : decode cX7_goesOn 164 = .ok (.iload_n 3, 1) := by decide +kernel
theorem dX7_goesOn_165 : decode cX7_goesOn 165 = .ok (.iaload, 1) := by decide +kernel
theorem dX7_goesOn_166 : decode cX7_goesOn 166 = .ok (.invokestatic 123, 3) := by decide +kernel
theorem dX7_goesOn_169 : decode cX7_goesOn 169 = .ok (.istore 6, 2) := by decide +kernel
theorem dX7_goesOn_171 : decode cX7_goesOn 171 = .ok (.aload_n 0, 1) := by decide +kernel
theorem dX7_goesOn_172 : decode cX7_goesOn 172 = .ok (.iload 5, 2) := by decide +kernel
theorem dX7_goesOn_174 : decode cX7_goesOn 174 = .ok (.iload 6, 2) := by decide +kernel
theorem dX7_goesOn_176 : decode cX7_goesOn 176 = .ok (.if_icmp .ne 7, 3) := by decide +kernel
theorem dX7_goesOn_179 : decode cX7_goesOn 179 = .ok (.iconst (-1), 1) := by decide +kernel
theorem dX7_goesOn_180 : decode cX7_goesOn 180 = .ok (.goto 5, 3) := by decide +kernel
theorem dX7_goesOn_183 : decode cX7_goesOn 183 = .ok (.iload 5, 2) := by decide +kernel
theorem dX7_goesOn_185 : decode cX7_goesOn 185 = .ok (.putfield 296, 3) := by decide +kernel
theorem dX7_goesOn_188 : decode cX7_goesOn 188 = .ok (.aload_n 0, 1) := by decide +kernel
theorem dX7_goesOn_189 : decode cX7_goesOn 189 = .ok (.iload_n 1, 1) := by decide +kernel
theorem dX7_goesOn_190 : decode cX7_goesOn 190 = .ok (.iconst 1, 1) := by decide +kernel
theorem dX7_goesOn_191 : decode cX7_goesOn 191 = .ok (.iadd, 1) := by decide +kernel
theorem dX7_goesOn_192 : decode cX7_goesOn 192 = .ok (.iload_n 2, 1) := by decide +kernel
theorem dX7_goesOn_193 : decode cX7_goesOn 193 = .ok (.iload_n 3, 1) := by decide +kernel
theorem dX7_goesOn_194 : decode cX7_goesOn 194 = .ok (.iconst 1, 1) := by decide +kernel
theorem dX7_goesOn_195 : decode cX7_goesOn 195 = .ok (.iadd, 1) := by decide +kernel
theorem dX7_goesOn_196 : decode cX7_goesOn 196 = .ok (.iload 5, 2) := by decide +kernel
theorem dX7_goesOn_198 : decode cX7_goesOn 198 = .ok (.iload 6, 2) := by decide +kernel
theorem dX7_goesOn_200 : decode cX7_goesOn 200 = .ok (.if_icmp .ne 8, 3) := by decide +kernel
theorem dX7_goesOn_203 : decode cX7_goesOn 203 = .ok (.iload 4, 2) := by decide +kernel
theorem dX7_goesOn_205 : decode cX7_goesOn 205 = .ok (.goto 15, 3) := by decide +kernel
theorem dX7_goesOn_208 : decode cX7_goesOn 208 = .ok (.iload 5, 2) := by decide +kernel
theorem dX7_goesOn_210 : decode cX7_goesOn 210 = .ok (.iload 6, 2) := by decide +kernel
theorem dX7_goesOn_212 : decode cX7_goesOn 212 = .ok (.invokestatic 158, 3) := by decide +kernel
theorem dX7_goesOn_215 : decode cX7_goesOn 215 = .ok (.iload 4, 2) := by decide +kernel
theorem dX7_goesOn_217 : decode cX7_goesOn 217 = .ok (.invokestatic 161, 3) := by decide +kernel
theorem dX7_goesOn_220 : decode cX7_goesOn 220 = .ok (.invokevirtual 299, 3) := by decide +kernel
theorem dX7_goesOn_223 : decode cX7_goesOn 223 = .ok (.iconst 1, 1) := by decide +kernel
theorem dX7_goesOn_224 : decode cX7_goesOn 224 = .ok (.ireturn, 1) := by decide +kernel
theorem dX7_alikeBy_0 : decode cX7_alikeBy 0 = .ok (.iconst 1, 1) := by decide +kernel
theorem dX7_alikeBy_1 : decode cX7_alikeBy 1 = .ok (.istore_n 2, 1) := by decide +kernel
theorem dX7_alikeBy_2 : decode cX7_alikeBy 2 = .ok (.aload_n 0, 1) := by decide +kernel
theorem dX7_alikeBy_3 : decode cX7_alikeBy 3 = .ok (.iconst 0, 1) := by decide +kernel
theorem dX7_alikeBy_4 : decode cX7_alikeBy 4 = .ok (.putfield 287, 3) := by decide +kernel
theorem dX7_alikeBy_7 : decode cX7_alikeBy 7 = .ok (.aload_n 0, 1) := by decide +kernel
theorem dX7_alikeBy_8 : decode cX7_alikeBy 8 = .ok (.bipush 60, 2) := by decide +kernel
theorem dX7_alikeBy_10 : decode cX7_alikeBy 10 = .ok (.iload_n 1, 1) := by decide +kernel
theorem dX7_alikeBy_11 : decode cX7_alikeBy 11 = .ok (.imul, 1) := by decide +kernel
theorem dX7_alikeBy_12 : decode cX7_alikeBy 12 = .ok (.ldc 154, 2) := by decide +kernel
theorem dX7_alikeBy_14 : decode cX7_alikeBy 14 = .ok (.bipush 60, 2) := by decide +kernel
theorem dX7_alikeBy_16 : decode cX7_alikeBy 16 = .ok (.iload_n 1, 1) := by decide +kernel
theorem dX7_alikeBy_17 : decode cX7_alikeBy 17 = .ok (.imul, 1) := by decide +kernel
theorem dX7_alikeBy_18 : decode cX7_alikeBy 18 = .ok (.bipush 30, 2) := by decide +kernel
theorem dX7_alikeBy_20 : decode cX7_alikeBy 20 = .ok (.iadd, 1) := by decide +kernel
theorem dX7_alikeBy_21 : decode cX7_alikeBy 21 = .ok (.ldc 154, 2) := by decide +kernel
theorem dX7_alikeBy_23 : decode cX7_alikeBy 23 = .ok (.invokevirtual 299, 3) := by decide +kernel
theorem dX7_alikeBy_26 : decode cX7_alikeBy 26 = .ok (.aload_n 0, 1) := by decide +kernel
theorem dX7_alikeBy_27 : decode cX7_alikeBy 27 = .ok (.getfield 287, 3) := by decide +kernel
theorem dX7_alikeBy_30 : decode cX7_alikeBy 30 = .ok (.ifCond .le 228, 3) := by decide +kernel
theorem dX7_alikeBy_33 : decode cX7_alikeBy 33 = .ok (.iload_n 2, 1) := by decide +kernel
theorem dX7_alikeBy_34 : decode cX7_alikeBy 34 = .ok (.ifCond .eq 224, 3) := by decide +kernel
theorem dX7_alikeBy_37 : decode cX7_alikeBy 37 = .ok (.aload_n 0, 1) := by decide +kernel
theorem dX7_alikeBy_38 : decode cX7_alikeBy 38 = .ok (.dup, 1) := by decide +kernel
theorem dX7_alikeBy_39 : decode cX7_alikeBy 39 = .ok (.getfield 287, 3) := by decide +kernel
theorem dX7_alikeBy_42 : decode cX7_alikeBy 42 = .ok (.iconst 1, 1) := by decide +kernel
theorem dX7_alikeBy_43 : decode cX7_alikeBy 43 = .ok (.isub, 1) := by decide +kernel
theorem dX7_alikeBy_44 : decode cX7_alikeBy 44 = .ok (.putfield 287, 3) := by decide +kernel
theorem dX7_alikeBy_47 : decode cX7_alikeBy 47 = .ok (.aload_n 0, 1) := by decide +kernel
theorem dX7_alikeBy_48 : decode cX7_alikeBy 48 = .ok (.getfield 76, 3) := by decide +kernel
theorem dX7_alikeBy_51 : decode cX7_alikeBy 51 = .ok (.aload_n 0, 1) := by decide +kernel
theorem dX7_alikeBy_52 : decode cX7_alikeBy 52 = .ok (.getfield 287, 3) := by decide +kernel
theorem dX7_alikeBy_55 : decode cX7_alikeBy 55 = .ok (.iaload, 1) := by decide +kernel
theorem dX7_alikeBy_56 : decode cX7_alikeBy 56 = .ok (.istore_n 3, 1) := by decide +kernel
theorem dX7_alikeBy_57 : decode cX7_alikeBy 57 = .ok (.aload_n 0, 1) := by decide +kernel
theorem dX7_alikeBy_58 : decode cX7_alikeBy 58 = .ok (.getfield 73, 3) := by decide +kernel
theorem dX7_alikeBy_61 : decode cX7_alikeBy 61 = .ok (.aload_n 0, 1) := by decide +kernel
theorem dX7_alikeBy_62 : decode cX7_alikeBy 62 = .ok (.getfield 287, 3) := by decide +kernel
theorem dX7_alikeBy_65 : decode cX7_alikeBy 65 = .ok (.iaload, 1) := by decide +kernel
theorem dX7_alikeBy_66 : decode cX7_alikeBy 66 = .ok (.istore 4, 2) := by decide +kernel
theorem dX7_alikeBy_68 : decode cX7_alikeBy 68 = .ok (.aload_n 0, 1) := by decide +kernel
theorem dX7_alikeBy_69 : decode cX7_alikeBy 69 = .ok (.aload_n 0, 1) := by decide +kernel
theorem dX7_alikeBy_70 : decode cX7_alikeBy 70 = .ok (.getfield 67, 3) := by decide +kernel
theorem dX7_alikeBy_73 : decode cX7_alikeBy 73 = .ok (.aload_n 0, 1) := by decide +kernel
theorem dX7_alikeBy_74 : decode cX7_alikeBy 74 = .ok (.getfield 287, 3) := by decide +kernel
theorem dX7_alikeBy_77 : decode cX7_alikeBy 77 = .ok (.iaload, 1) := by decide +kernel
theorem dX7_alikeBy_78 : decode cX7_alikeBy 78 = .ok (.aload_n 0, 1) := by decide +kernel
theorem dX7_alikeBy_79 : decode cX7_alikeBy 79 = .ok (.getfield 70, 3) := by decide +kernel
theorem dX7_alikeBy_82 : decode cX7_alikeBy 82 = .ok (.aload_n 0, 1) := by decide +kernel
theorem dX7_alikeBy_83 : decode cX7_alikeBy 83 = .ok (.getfield 287, 3) := by decide +kernel
theorem dX7_alikeBy_86 : decode cX7_alikeBy 86 = .ok (.iaload, 1) := by decide +kernel
theorem dX7_alikeBy_87 : decode cX7_alikeBy 87 = .ok (.iconst 0, 1) := by decide +kernel
theorem dX7_alikeBy_88 : decode cX7_alikeBy 88 = .ok (.invokevirtual 303, 3) := by decide +kernel
theorem dX7_alikeBy_91 : decode cX7_alikeBy 91 = .ok (.aload_n 0, 1) := by decide +kernel
theorem dX7_alikeBy_92 : decode cX7_alikeBy 92 = .ok (.getfield 290, 3) := by decide +kernel
theorem dX7_alikeBy_95 : decode cX7_alikeBy 95 = .ok (.istore 5, 2) := by decide +kernel
theorem dX7_alikeBy_97 : decode cX7_alikeBy 97 = .ok (.aload_n 0, 1) := by decide +kernel
theorem dX7_alikeBy_98 : decode cX7_alikeBy 98 = .ok (.getfield 293, 3) := by decide +kernel
theorem dX7_alikeBy_101 : decode cX7_alikeBy 101 = .ok (.istore 6, 2) := by decide +kernel
theorem dX7_alikeBy_103 : decode cX7_alikeBy 103 = .ok (.aload_n 0, 1) := by decide +kernel
theorem dX7_alikeBy_104 : decode cX7_alikeBy 104 = .ok (.iload 4, 2) := by decide +kernel
theorem dX7_alikeBy_106 : decode cX7_alikeBy 106 = .ok (.iload_n 3, 1) := by decide +kernel
theorem dX7_alikeBy_107 : decode cX7_alikeBy 107 = .ok (.iconst 0, 1) := by decide +kernel
theorem dX7_alikeBy_108 : decode cX7_alikeBy 108 = .ok (.invokevirtual 303, 3) := by decide +kernel
theorem dX7_alikeBy_111 : decode cX7_alikeBy 111 = .ok (.aload_n 0, 1) := by decide +kernel
theorem dX7_alikeBy_112 : decode cX7_alikeBy 112 = .ok (.getfield 290, 3) := by decide +kernel
theorem dX7_alikeBy_115 : decode cX7_alikeBy 115 = .ok (.istore 7, 2) := by decide +kernel
theorem dX7_alikeBy_117 : decode cX7_alikeBy 117 = .ok (.aload_n 0, 1) := by decide +kernel
theorem dX7_alikeBy_118 : decode cX7_alikeBy 118 = .ok (.getfield 293, 3) := by decide +kernel
theorem dX7_alikeBy_121 : decode cX7_alikeBy 121 = .ok (.istore 8, 2) := by decide +kernel
theorem dX7_alikeBy_123 : decode cX7_alikeBy 123 = .ok (.aload_n 0, 1) := by decide +kernel
theorem dX7_alikeBy_124 : decode cX7_alikeBy 124 = .ok (.getfield 31, 3) := by decide +kernel
theorem dX7_alikeBy_127 : decode cX7_alikeBy 127 = .ok (.iload 5, 2) := by decide +kernel
theorem dX7_alikeBy_129 : decode cX7_alikeBy 129 = .ok (.iaload, 1) := by decide +kernel
theorem dX7_alikeBy_130 : decode cX7_alikeBy 130 = .ok (.aload_n 0, 1) := by decide +kernel
theorem dX7_alikeBy_131 : decode cX7_alikeBy 131 = .ok (.getfield 31, 3) := by decide +kernel
theorem dX7_alikeBy_134 : decode cX7_alikeBy 134 = .ok (.iload 7, 2) := by decide +kernel
theorem dX7_alikeBy_136 : decode cX7_alikeBy 136 = .ok (.iaload, 1) := by decide +kernel
theorem dX7_alikeBy_137 : decode cX7_alikeBy 137 = .ok (.if_icmp .eq 8, 3) := by decide +kernel
theorem dX7_alikeBy_140 : decode cX7_alikeBy 140 = .ok (.iconst 0, 1) := by decide +kernel
theorem dX7_alikeBy_141 : decode cX7_alikeBy 141 = .ok (.istore_n 2, 1) := by decide +kernel
theorem dX7_alikeBy_142 : decode cX7_alikeBy 142 = .ok (.goto 113, 3) := by decide +kernel
theorem dX7_alikeBy_145 : decode cX7_alikeBy 145 = .ok (.aload_n 0, 1) := by decide +kernel
theorem dX7_alikeBy_146 : decode cX7_alikeBy 146 = .ok (.getfield 31, 3) := by decide +kernel
theorem dX7_alikeBy_149 : decode cX7_alikeBy 149 = .ok (.iload 5, 2) := by decide +kernel
theorem dX7_alikeBy_151 : decode cX7_alikeBy 151 = .ok (.iaload, 1) := by decide +kernel
theorem dX7_alikeBy_152 : decode cX7_alikeBy 152 = .ok (.iconst 1, 1) := by decide +kernel
theorem dX7_alikeBy_153 : decode cX7_alikeBy 153 = .ok (.if_icmp .ne 54, 3) := by decide +kernel
theorem dX7_alikeBy_156 : decode cX7_alikeBy 156 = .ok (.aload_n 0, 1) := by decide +kernel
theorem dX7_alikeBy_157 : decode cX7_alikeBy 157 = .ok (.getfield 34, 3) := by decide +kernel
theorem dX7_alikeBy_160 : decode cX7_alikeBy 160 = .ok (.iload 5, 2) := by decide +kernel
theorem dX7_alikeBy_162 : decode cX7_alikeBy 162 = .ok (.iaload, 1) := by decide +kernel
theorem dX7_alikeBy_163 : decode cX7_alikeBy 163 = .ok (.aload_n 0, 1) := by decide +kernel
theorem dX7_alikeBy_164 : decode cX7_alikeBy 164 = .ok (.getfield 34, 3) := by decide +kernel
theorem dX7_alikeBy_167 : decode cX7_alikeBy 167 = .ok (.iload 7, 2) := by decide +kernel
theorem dX7_alikeBy_169 : decode cX7_alikeBy 169 = .ok (.iaload, 1) := by decide +kernel
theorem dX7_alikeBy_170 : decode cX7_alikeBy 170 = .ok (.if_icmp .ne 32, 3) := by decide +kernel
theorem dX7_alikeBy_173 : decode cX7_alikeBy 173 = .ok (.iload 6, 2) := by decide +kernel
theorem dX7_alikeBy_175 : decode cX7_alikeBy 175 = .ok (.iload 8, 2) := by decide +kernel
theorem dX7_alikeBy_177 : decode cX7_alikeBy 177 = .ok (.invokestatic 306, 3) := by decide +kernel
theorem dX7_alikeBy_180 : decode cX7_alikeBy 180 = .ok (.aload_n 0, 1) := by decide +kernel
theorem dX7_alikeBy_181 : decode cX7_alikeBy 181 = .ok (.getfield 43, 3) := by decide +kernel
theorem dX7_alikeBy_184 : decode cX7_alikeBy 184 = .ok (.aload_n 0, 1) := by decide +kernel
theorem dX7_alikeBy_185 : decode cX7_alikeBy 185 = .ok (.getfield 34, 3) := by decide +kernel
theorem dX7_alikeBy_188 : decode cX7_alikeBy 188 = .ok (.iload 5, 2) := by decide +kernel
theorem dX7_alikeBy_190 : decode cX7_alikeBy 190 = .ok (.iaload, 1) := by decide +kernel
theorem dX7_alikeBy_191 : decode cX7_alikeBy 191 = .ok (.iaload, 1) := by decide +kernel
theorem dX7_alikeBy_192 : decode cX7_alikeBy 192 = .ok (.iconst (-1), 1) := by decide +kernel
theorem dX7_alikeBy_193 : decode cX7_alikeBy 193 = .ok (.ixor, 1) := by decide +kernel
theorem dX7_alikeBy_194 : decode cX7_alikeBy 194 = .ok (.iand, 1) := by decide +kernel
theorem dX7_alikeBy_195 : decode cX7_alikeBy 195 = .ok (.ifCond .ne 7, 3) := by decide +kernel
theorem dX7_alikeBy_198 : decode cX7_alikeBy 198 = .ok (.iconst 1, 1) := by decide +kernel
theorem dX7_alikeBy_199 : decode cX7_alikeBy 199 = .ok (.goto 4, 3) := by decide +kernel
theorem dX7_alikeBy_202 : decode cX7_alikeBy 202 = .ok (.iconst 0, 1) := by decide +kernel
theorem dX7_alikeBy_203 : decode cX7_alikeBy 203 = .ok (.istore_n 2, 1) := by decide +kernel
theorem dX7_alikeBy_204 : decode cX7_alikeBy 204 = .ok (.goto 51, 3) := by decide +kernel
theorem dX7_alikeBy_207 : decode cX7_alikeBy 207 = .ok (.aload_n 0, 1) := by decide +kernel
theorem dX7_alikeBy_208 : decode cX7_alikeBy 208 = .ok (.iload 5, 2) := by decide +kernel
theorem dX7_alikeBy_210 : decode cX7_alikeBy 210 = .ok (.iload 6, 2) := by decide +kernel
theorem dX7_alikeBy_212 : decode cX7_alikeBy 212 = .ok (.iload 7, 2) := by decide +kernel
theorem dX7_alikeBy_214 : decode cX7_alikeBy 214 = .ok (.iload 8, 2) := by decide +kernel
theorem dX7_alikeBy_216 : decode cX7_alikeBy 216 = .ok (.invokevirtual 309, 3) := by decide +kernel
theorem dX7_alikeBy_219 : decode cX7_alikeBy 219 = .ok (.istore_n 2, 1) := by decide +kernel
theorem dX7_alikeBy_220 : decode cX7_alikeBy 220 = .ok (.iload_n 2, 1) := by decide +kernel
theorem dX7_alikeBy_221 : decode cX7_alikeBy 221 = .ok (.ifCond .eq 32, 3) := by decide +kernel
theorem dX7_alikeBy_224 : decode cX7_alikeBy 224 = .ok (.aload_n 0, 1) := by decide +kernel
theorem dX7_alikeBy_225 : decode cX7_alikeBy 225 = .ok (.getfield 296, 3) := by decide +kernel
theorem dX7_alikeBy_228 : decode cX7_alikeBy 228 = .ok (.iconst (-1), 1) := by decide +kernel
theorem dX7_alikeBy_229 : decode cX7_alikeBy 229 = .ok (.if_icmp .eq 20, 3) := by decide +kernel
theorem dX7_alikeBy_232 : decode cX7_alikeBy 232 = .ok (.aload_n 0, 1) := by decide +kernel
theorem dX7_alikeBy_233 : decode cX7_alikeBy 233 = .ok (.aload_n 0, 1) := by decide +kernel
theorem dX7_alikeBy_234 : decode cX7_alikeBy 234 = .ok (.getfield 296, 3) := by decide +kernel
theorem dX7_alikeBy_237 : decode cX7_alikeBy 237 = .ok (.iload 7, 2) := by decide +kernel
theorem dX7_alikeBy_239 : decode cX7_alikeBy 239 = .ok (.iconst 1, 1) := by decide +kernel
theorem dX7_alikeBy_240 : decode cX7_alikeBy 240 = .ok (.iadd, 1) := by decide +kernel
theorem dX7_alikeBy_241 : decode cX7_alikeBy 241 = .ok (.iload 8, 2) := by decide +kernel
theorem dX7_alikeBy_243 : decode cX7_alikeBy 243 = .ok (.invokevirtual 313, 3) := by decide +kernel
theorem dX7_alikeBy_246 : decode cX7_alikeBy 246 = .ok (.ifCond .eq 7, 3) := by decide +kernel
theorem dX7_alikeBy_249 : decode cX7_alikeBy 249 = .ok (.iconst 1, 1) := by decide +kernel
theorem dX7_alikeBy_250 : decode cX7_alikeBy 250 = .ok (.goto 4, 3) := by decide +kernel
theorem dX7_alikeBy_253 : decode cX7_alikeBy 253 = .ok (.iconst 0, 1) := by decide +kernel
theorem dX7_alikeBy_254 : decode cX7_alikeBy 254 = .ok (.istore_n 2, 1) := by decide +kernel
theorem dX7_alikeBy_255 : decode cX7_alikeBy 255 = .ok (.goto (-229), 3) := by decide +kernel
theorem dX7_alikeBy_258 : decode cX7_alikeBy 258 = .ok (.iload_n 2, 1) := by decide +kernel
theorem dX7_alikeBy_259 : decode cX7_alikeBy 259 = .ok (.ifCond .eq 7, 3) := by decide +kernel
theorem dX7_alikeBy_262 : decode cX7_alikeBy 262 = .ok (.iconst 1, 1) := by decide +kernel
theorem dX7_alikeBy_263 : decode cX7_alikeBy 263 = .ok (.goto 4, 3) := by decide +kernel
theorem dX7_alikeBy_266 : decode cX7_alikeBy 266 = .ok (.iconst 0, 1) := by decide +kernel
theorem dX7_alikeBy_267 : decode cX7_alikeBy 267 = .ok (.ireturn, 1) := by decide +kernel
theorem dX7_isEquation_0 : decode cX7_isEquation 0 = .ok (.iload_n 0, 1) := by decide +kernel
theorem dX7_isEquation_1 : decode cX7_isEquation 1 = .ok (.i2l, 1) := by decide +kernel
theorem dX7_isEquation_2 : decode cX7_isEquation 2 = .ok (.lconst 0, 1) := by decide +kernel
theorem dX7_isEquation_3 : decode cX7_isEquation 3 = .ok (.ldc2_w 102, 3) := by decide +kernel
theorem dX7_isEquation_6 : decode cX7_isEquation 6 = .ok (.invokestatic 94, 3) := by decide +kernel
theorem dX7_isEquation_9 : decode cX7_isEquation 9 = .ok (.ireturn, 1) := by decide +kernel
theorem dX7_alike_0 : decode cX7_alike 0 = .ok (.aload_n 0, 1) := by decide +kernel
theorem dX7_alike_1 : decode cX7_alike 1 = .ok (.invokevirtual 271, 3) := by decide +kernel
theorem dX7_alike_4 : decode cX7_alike 4 = .ok (.iload_n 1, 1) := by decide +kernel
theorem dX7_alike_5 : decode cX7_alike 5 = .ok (.invokestatic 317, 3) := by decide +kernel
theorem dX7_alike_8 : decode cX7_alike 8 = .ok (.ifCond .ne 6, 3) := by decide +kernel
theorem dX7_alike_11 : decode cX7_alike 11 = .ok (.bipush (-2), 2) := by decide +kernel
theorem dX7_alike_13 : decode cX7_alike 13 = .ok (.ireturn, 1) := by decide +kernel
theorem dX7_alike_14 : decode cX7_alike 14 = .ok (.aload_n 0, 1) := by decide +kernel
theorem dX7_alike_15 : decode cX7_alike 15 = .ok (.iload_n 1, 1) := by decide +kernel
theorem dX7_alike_16 : decode cX7_alike 16 = .ok (.invokevirtual 320, 3) := by decide +kernel
theorem dX7_alike_19 : decode cX7_alike 19 = .ok (.ifCond .eq 11, 3) := by decide +kernel
theorem dX7_alike_22 : decode cX7_alike 22 = .ok (.aload_n 0, 1) := by decide +kernel
theorem dX7_alike_23 : decode cX7_alike 23 = .ok (.iload_n 1, 1) := by decide +kernel
theorem dX7_alike_24 : decode cX7_alike 24 = .ok (.invokevirtual 323, 3) := by decide +kernel
theorem dX7_alike_27 : decode cX7_alike 27 = .ok (.goto 5, 3) := by decide +kernel
theorem dX7_alike_30 : decode cX7_alike 30 = .ok (.bipush (-3), 2) := by decide +kernel
theorem dX7_alike_32 : decode cX7_alike 32 = .ok (.ireturn, 1) := by decide +kernel
theorem dX7_all_0 : decode cX7_all 0 = .ok (.aload_n 0, 1) := by decide +kernel
theorem dX7_all_1 : decode cX7_all 1 = .ok (.iload_n 1, 1) := by decide +kernel
theorem dX7_all_2 : decode cX7_all 2 = .ok (.invokevirtual 266, 3) := by decide +kernel
theorem dX7_all_5 : decode cX7_all 5 = .ok (.istore_n 2, 1) := by decide +kernel
theorem dX7_all_6 : decode cX7_all 6 = .ok (.iconst 0, 1) := by decide +kernel
theorem dX7_all_7 : decode cX7_all 7 = .ok (.istore_n 3, 1) := by decide +kernel
theorem dX7_all_8 : decode cX7_all 8 = .ok (.iload_n 3, 1) := by decide +kernel
theorem dX7_all_9 : decode cX7_all 9 = .ok (.bipush 6, 2) := by decide +kernel
theorem dX7_all_11 : decode cX7_all 11 = .ok (.if_icmp .ge 63, 3) := by decide +kernel
theorem dX7_all_14 : decode cX7_all 14 = .ok (.iconst 0, 1) := by decide +kernel
theorem dX7_all_15 : decode cX7_all 15 = .ok (.istore 4, 2) := by decide +kernel
theorem dX7_all_17 : decode cX7_all 17 = .ok (.iload 4, 2) := by decide +kernel
theorem dX7_all_19 : decode cX7_all 19 = .ok (.bipush 6, 2) := by decide +kernel
theorem dX7_all_21 : decode cX7_all 21 = .ok (.if_icmp .ge 47, 3) := by decide +kernel
theorem dX7_all_24 : decode cX7_all 24 = .ok (.iload_n 2, 1) := by decide +kernel
theorem dX7_all_25 : decode cX7_all 25 = .ok (.iload_n 2, 1) := by decide +kernel
theorem dX7_all_26 : decode cX7_all 26 = .ok (.iload 4, 2) := by decide +kernel
theorem dX7_all_28 : decode cX7_all 28 = .ok (.invokestatic 200, 3) := by decide +kernel
theorem dX7_all_31 : decode cX7_all 31 = .ok (.ifCond .eq 28, 3) := by decide +kernel
theorem dX7_all_34 : decode cX7_all 34 = .ok (.aload_n 0, 1) := by decide +kernel
theorem dX7_all_35 : decode cX7_all 35 = .ok (.getfield 55, 3) := by decide +kernel
theorem dX7_all_38 : decode cX7_all 38 = .ok (.iload 4, 2) := by decide +kernel
theorem dX7_all_40 : decode cX7_all 40 = .ok (.iaload, 1) := by decide +kernel
theorem dX7_all_41 : decode cX7_all 41 = .ok (.iconst (-1), 1) := by decide +kernel
theorem dX7_all_42 : decode cX7_all 42 = .ok (.if_icmp .eq 17, 3) := by decide +kernel
theorem dX7_all_45 : decode cX7_all 45 = .ok (.aload_n 0, 1) := by decide +kernel
theorem dX7_all_46 : decode cX7_all 46 = .ok (.aload_n 0, 1) := by decide +kernel
theorem dX7_all_47 : decode cX7_all 47 = .ok (.getfield 55, 3) := by decide +kernel
theorem dX7_all_50 : decode cX7_all 50 = .ok (.iload 4, 2) := by decide +kernel
theorem dX7_all_52 : decode cX7_all 52 = .ok (.iaload, 1) := by decide +kernel
theorem dX7_all_53 : decode cX7_all 53 = .ok (.invokevirtual 266, 3) := by decide +kernel
theorem dX7_all_56 : decode cX7_all 56 = .ok (.goto 4, 3) := by decide +kernel
theorem dX7_all_59 : decode cX7_all 59 = .ok (.iconst 0, 1) := by decide +kernel
theorem dX7_all_60 : decode cX7_all 60 = .ok (.ior, 1) := by decide +kernel
theorem dX7_all_61 : decode cX7_all 61 = .ok (.istore_n 2, 1) := by decide +kernel
theorem dX7_all_62 : decode cX7_all 62 = .ok (.iinc 4 1, 3) := by decide +kernel
theorem dX7_all_65 : decode cX7_all 65 = .ok (.goto (-48), 3) := by decide +kernel
theorem dX7_all_68 : decode cX7_all 68 = .ok (.iinc 3 1, 3) := by decide +kernel
theorem dX7_all_71 : decode cX7_all 71 = .ok (.goto (-63), 3) := by decide +kernel
theorem dX7_all_74 : decode cX7_all 74 = .ok (.iload_n 2, 1) := by decide +kernel
theorem dX7_all_75 : decode cX7_all 75 = .ok (.ireturn, 1) := by decide +kernel
theorem dX7_gives_0 : decode cX7_gives 0 = .ok (.aload_n 0, 1) := by decide +kernel
theorem dX7_gives_1 : decode cX7_gives 1 = .ok (.getfield 55, 3) := by decide +kernel
theorem dX7_gives_4 : decode cX7_gives 4 = .ok (.iload_n 1, 1) := by decide +kernel
theorem dX7_gives_5 : decode cX7_gives 5 = .ok (.iload_n 3, 1) := by decide +kernel
theorem dX7_gives_6 : decode cX7_gives 6 = .ok (.iastore, 1) := by decide +kernel
theorem dX7_gives_7 : decode cX7_gives 7 = .ok (.aload_n 0, 1) := by decide +kernel
theorem dX7_gives_8 : decode cX7_gives 8 = .ok (.getfield 58, 3) := by decide +kernel
theorem dX7_gives_11 : decode cX7_gives 11 = .ok (.iload_n 1, 1) := by decide +kernel
theorem dX7_gives_12 : decode cX7_gives 12 = .ok (.iload_n 2, 1) := by decide +kernel
theorem dX7_gives_13 : decode cX7_gives 13 = .ok (.invokestatic 182, 3) := by decide +kernel
theorem dX7_gives_16 : decode cX7_gives 16 = .ok (.iload 4, 2) := by decide +kernel
theorem dX7_gives_18 : decode cX7_gives 18 = .ok (.invokestatic 161, 3) := by decide +kernel
theorem dX7_gives_21 : decode cX7_gives 21 = .ok (.iastore, 1) := by decide +kernel
theorem dX7_gives_22 : decode cX7_gives 22 = .ok (.return_, 1) := by decide +kernel
theorem dX7_step_0 : decode cX7_step 0 = .ok (.aload_n 0, 1) := by decide +kernel
theorem dX7_step_1 : decode cX7_step 1 = .ok (.getfield 31, 3) := by decide +kernel
theorem dX7_step_4 : decode cX7_step 4 = .ok (.iload_n 1, 1) := by decide +kernel
theorem dX7_step_5 : decode cX7_step 5 = .ok (.iaload, 1) := by decide +kernel
theorem dX7_step_6 : decode cX7_step 6 = .ok (.iconst 1, 1) := by decide +kernel
theorem dX7_step_7 : decode cX7_step 7 = .ok (.if_icmp .ne 7, 3) := by decide +kernel
theorem dX7_step_10 : decode cX7_step 10 = .ok (.iconst 1, 1) := by decide +kernel
theorem dX7_step_11 : decode cX7_step 11 = .ok (.goto 4, 3) := by decide +kernel
theorem dX7_step_14 : decode cX7_step 14 = .ok (.iconst 0, 1) := by decide +kernel
theorem dX7_step_15 : decode cX7_step 15 = .ok (.istore 5, 2) := by decide +kernel
theorem dX7_step_17 : decode cX7_step 17 = .ok (.aload_n 0, 1) := by decide +kernel
theorem dX7_step_18 : decode cX7_step 18 = .ok (.getfield 31, 3) := by decide +kernel
theorem dX7_step_21 : decode cX7_step 21 = .ok (.iload_n 3, 1) := by decide +kernel
theorem dX7_step_22 : decode cX7_step 22 = .ok (.iaload, 1) := by decide +kernel
theorem dX7_step_23 : decode cX7_step 23 = .ok (.iconst 1, 1) := by decide +kernel
theorem dX7_step_24 : decode cX7_step 24 = .ok (.if_icmp .ne 7, 3) := by decide +kernel
theorem dX7_step_27 : decode cX7_step 27 = .ok (.iconst 1, 1) := by decide +kernel
theorem dX7_step_28 : decode cX7_step 28 = .ok (.goto 4, 3) := by decide +kernel
theorem dX7_step_31 : decode cX7_step 31 = .ok (.iconst 0, 1) := by decide +kernel
theorem dX7_step_32 : decode cX7_step 32 = .ok (.istore 6, 2) := by decide +kernel
theorem dX7_step_34 : decode cX7_step 34 = .ok (.iload 5, 2) := by decide +kernel
theorem dX7_step_36 : decode cX7_step 36 = .ok (.ifCond .eq 94, 3) := by decide +kernel
theorem dX7_step_39 : decode cX7_step 39 = .ok (.iload 6, 2) := by decide +kernel
theorem dX7_step_41 : decode cX7_step 41 = .ok (.ifCond .eq 89, 3) := by decide +kernel
theorem dX7_step_44 : decode cX7_step 44 = .ok (.aload_n 0, 1) := by decide +kernel
theorem dX7_step_45 : decode cX7_step 45 = .ok (.getfield 34, 3) := by decide +kernel
theorem dX7_step_48 : decode cX7_step 48 = .ok (.iload_n 1, 1) := by decide +kernel
theorem dX7_step_49 : decode cX7_step 49 = .ok (.iaload, 1) := by decide +kernel
theorem dX7_step_50 : decode cX7_step 50 = .ok (.aload_n 0, 1) := by decide +kernel
theorem dX7_step_51 : decode cX7_step 51 = .ok (.getfield 34, 3) := by decide +kernel
theorem dX7_step_54 : decode cX7_step 54 = .ok (.iload_n 3, 1) := by decide +kernel
theorem dX7_step_55 : decode cX7_step 55 = .ok (.iaload, 1) := by decide +kernel
theorem dX7_step_56 : decode cX7_step 56 = .ok (.if_icmp .ne 26, 3) := by decide +kernel
theorem dX7_step_59 : decode cX7_step 59 = .ok (.aload_n 0, 1) := by decide +kernel
theorem dX7_step_60 : decode cX7_step 60 = .ok (.getfield 88, 3) := by decide +kernel
theorem dX7_step_63 : decode cX7_step 63 = .ok (.aload_n 0, 1) := by decide +kernel
theorem dX7_step_64 : decode cX7_step 64 = .ok (.getfield 34, 3) := by decide +kernel
theorem dX7_step_67 : decode cX7_step 67 = .ok (.iload_n 1, 1) := by decide +kernel
theorem dX7_step_68 : decode cX7_step 68 = .ok (.iaload, 1) := by decide +kernel
theorem dX7_step_69 : decode cX7_step 69 = .ok (.dup2, 1) := by decide +kernel
theorem dX7_step_70 : decode cX7_step 70 = .ok (.iaload, 1) := by decide +kernel
theorem dX7_step_71 : decode cX7_step 71 = .ok (.iload_n 2, 1) := by decide +kernel
theorem dX7_step_72 : decode cX7_step 72 = .ok (.iload 4, 2) := by decide +kernel
theorem dX7_step_74 : decode cX7_step 74 = .ok (.invokestatic 306, 3) := by decide +kernel
theorem dX7_step_77 : decode cX7_step 77 = .ok (.ior, 1) := by decide +kernel
theorem dX7_step_78 : decode cX7_step 78 = .ok (.iastore, 1) := by decide +kernel
theorem dX7_step_79 : decode cX7_step 79 = .ok (.goto 49, 3) := by decide +kernel
theorem dX7_step_82 : decode cX7_step 82 = .ok (.aload_n 0, 1) := by decide +kernel
theorem dX7_step_83 : decode cX7_step 83 = .ok (.getfield 34, 3) := by decide +kernel
theorem dX7_step_86 : decode cX7_step 86 = .ok (.iload_n 1, 1) := by decide +kernel
theorem dX7_step_87 : decode cX7_step 87 = .ok (.iaload, 1) := by decide +kernel
theorem dX7_step_88 : decode cX7_step 88 = .ok (.aload_n 0, 1) := by decide +kernel
theorem dX7_step_89 : decode cX7_step 89 = .ok (.getfield 34, 3) := by decide +kernel
theorem dX7_step_92 : decode cX7_step 92 = .ok (.iload_n 3, 1) := by decide +kernel
theorem dX7_step_93 : decode cX7_step 93 = .ok (.iaload, 1) := by decide +kernel
theorem dX7_step_94 : decode cX7_step 94 = .ok (.if_icmp .le 20, 3) := by decide +kernel
theorem dX7_step_97 : decode cX7_step 97 = .ok (.aload_n 0, 1) := by decide +kernel
theorem dX7_step_98 : decode cX7_step 98 = .ok (.aload_n 0, 1) := by decide +kernel
theorem dX7_step_99 : decode cX7_step 99 = .ok (.getfield 34, 3) := by decide +kernel
theorem dX7_step_102 : decode cX7_step 102 = .ok (.iload_n 1, 1) := by decide +kernel
theorem dX7_step_103 : decode cX7_step 103 = .ok (.iaload, 1) := by decide +kernel
theorem dX7_step_104 : decode cX7_step 104 = .ok (.iload_n 2, 1) := by decide +kernel
theorem dX7_step_105 : decode cX7_step 105 = .ok (.iload_n 3, 1) := by decide +kernel
theorem dX7_step_106 : decode cX7_step 106 = .ok (.iload 4, 2) := by decide +kernel
theorem dX7_step_108 : decode cX7_step 108 = .ok (.invokevirtual 326, 3) := by decide +kernel
theorem dX7_step_111 : decode cX7_step 111 = .ok (.goto 17, 3) := by decide +kernel
theorem dX7_step_114 : decode cX7_step 114 = .ok (.aload_n 0, 1) := by decide +kernel
theorem dX7_step_115 : decode cX7_step 115 = .ok (.aload_n 0, 1) := by decide +kernel
theorem dX7_step_116 : decode cX7_step 116 = .ok (.getfield 34, 3) := by decide +kernel
theorem dX7_step_119 : decode cX7_step 119 = .ok (.iload_n 3, 1) := by decide +kernel
theorem dX7_step_120 : decode cX7_step 120 = .ok (.iaload, 1) := by decide +kernel
theorem dX7_step_121 : decode cX7_step 121 = .ok (.iload 4, 2) := by decide +kernel
theorem dX7_step_123 : decode cX7_step 123 = .ok (.iload_n 1, 1) := by decide +kernel
theorem dX7_step_124 : decode cX7_step 124 = .ok (.iload_n 2, 1) := by decide +kernel
theorem dX7_step_125 : decode cX7_step 125 = .ok (.invokevirtual 326, 3) := by decide +kernel
theorem dX7_step_128 : decode cX7_step 128 = .ok (.iconst 0, 1) := by decide +kernel
theorem dX7_step_129 : decode cX7_step 129 = .ok (.ireturn, 1) := by decide +kernel
theorem dX7_step_130 : decode cX7_step 130 = .ok (.iload 5, 2) := by decide +kernel
theorem dX7_step_132 : decode cX7_step 132 = .ok (.ifCond .ne 8, 3) := by decide +kernel
theorem dX7_step_135 : decode cX7_step 135 = .ok (.iload 6, 2) := by decide +kernel
theorem dX7_step_137 : decode cX7_step 137 = .ok (.ifCond .eq 85, 3) := by decide +kernel
theorem dX7_step_140 : decode cX7_step 140 = .ok (.iload 5, 2) := by decide +kernel
theorem dX7_step_142 : decode cX7_step 142 = .ok (.ifCond .eq 12, 3) := by decide +kernel
theorem dX7_step_145 : decode cX7_step 145 = .ok (.aload_n 0, 1) := by decide +kernel
theorem dX7_step_146 : decode cX7_step 146 = .ok (.getfield 34, 3) := by decide +kernel
theorem dX7_step_149 : decode cX7_step 149 = .ok (.iload_n 1, 1) := by decide +kernel
theorem dX7_step_150 : decode cX7_step 150 = .ok (.iaload, 1) := by decide +kernel
theorem dX7_step_151 : decode cX7_step 151 = .ok (.goto 9, 3) := by decide +kernel
theorem dX7_step_154 : decode cX7_step 154 = .ok (.aload_n 0, 1) := by decide +kernel
theorem dX7_step_155 : decode cX7_step 155 = .ok (.getfield 34, 3) := by decide +kernel
theorem dX7_step_158 : decode cX7_step 158 = .ok (.iload_n 3, 1) := by decide +kernel
theorem dX7_step_159 : decode cX7_step 159 = .ok (.iaload, 1) := by decide +kernel
theorem dX7_step_160 : decode cX7_step 160 = .ok (.istore 7, 2) := by decide +kernel
theorem dX7_step_162 : decode cX7_step 162 = .ok (.iload 5, 2) := by decide +kernel
theorem dX7_step_164 : decode cX7_step 164 = .ok (.ifCond .eq 7, 3) := by decide +kernel
theorem dX7_step_167 : decode cX7_step 167 = .ok (.iload_n 3, 1) := by decide +kernel
theorem dX7_step_168 : decode cX7_step 168 = .ok (.goto 4, 3) := by decide +kernel
theorem dX7_step_171 : decode cX7_step 171 = .ok (.iload_n 1, 1) := by decide +kernel
theorem dX7_step_172 : decode cX7_step 172 = .ok (.istore 8, 2) := by decide +kernel
theorem dX7_step_174 : decode cX7_step 174 = .ok (.aload_n 0, 1) := by decide +kernel
theorem dX7_step_175 : decode cX7_step 175 = .ok (.iload 8, 2) := by decide +kernel
theorem dX7_step_177 : decode cX7_step 177 = .ok (.invokevirtual 329, 3) := by decide +kernel
theorem dX7_step_180 : decode cX7_step 180 = .ok (.iload 7, 2) := by decide +kernel
theorem dX7_step_182 : decode cX7_step 182 = .ok (.invokestatic 200, 3) := by decide +kernel
theorem dX7_step_185 : decode cX7_step 185 = .ok (.ifCond .eq 5, 3) := by decide +kernel
theorem dX7_step_188 : decode cX7_step 188 = .ok (.iconst 2, 1) := by decide +kernel
theorem dX7_step_189 : decode cX7_step 189 = .ok (.ireturn, 1) := by decide +kernel
theorem dX7_step_190 : decode cX7_step 190 = .ok (.aload_n 0, 1) := by decide +kernel
theorem dX7_step_191 : decode cX7_step 191 = .ok (.iload 7, 2) := by decide +kernel
theorem dX7_step_193 : decode cX7_step 193 = .ok (.iload 5, 2) := by decide +kernel
theorem dX7_step_195 : decode cX7_step 195 = .ok (.ifCond .eq 7, 3) := by decide +kernel
theorem dX7_step_198 : decode cX7_step 198 = .ok (.iload_n 2, 1) := by decide +kernel
theorem dX7_step_199 : decode cX7_step 199 = .ok (.goto 5, 3) := by decide +kernel
theorem dX7_step_202 : decode cX7_step 202 = .ok (.iload 4, 2) := by decide +kernel
theorem dX7_step_204 : decode cX7_step 204 = .ok (.iload 8, 2) := by decide +kernel
theorem dX7_step_206 : decode cX7_step 206 = .ok (.iload 5, 2) := by decide +kernel
theorem dX7_step_208 : decode cX7_step 208 = .ok (.ifCond .eq 8, 3) := by decide +kernel
theorem dX7_step_211 : decode cX7_step 211 = .ok (.iload 4, 2) := by decide +kernel
theorem dX7_step_213 : decode cX7_step 213 = .ok (.goto 4, 3) := by decide +kernel
theorem dX7_step_216 : decode cX7_step 216 = .ok (.iload_n 2, 1) := by decide +kernel
theorem dX7_step_217 : decode cX7_step 217 = .ok (.invokevirtual 326, 3) := by decide +kernel
theorem dX7_step_220 : decode cX7_step 220 = .ok (.iconst 0, 1) := by decide +kernel
theorem dX7_step_221 : decode cX7_step 221 = .ok (.ireturn, 1) := by decide +kernel
theorem dX7_step_222 : decode cX7_step 222 = .ok (.aload_n 0, 1) := by decide +kernel
theorem dX7_step_223 : decode cX7_step 223 = .ok (.getfield 31, 3) := by decide +kernel
theorem dX7_step_226 : decode cX7_step 226 = .ok (.iload_n 1, 1) := by decide +kernel
theorem dX7_step_227 : decode cX7_step 227 = .ok (.iaload, 1) := by decide +kernel
theorem dX7_step_228 : decode cX7_step 228 = .ok (.aload_n 0, 1) := by decide +kernel
theorem dX7_step_229 : decode cX7_step 229 = .ok (.getfield 31, 3) := by decide +kernel
theorem dX7_step_232 : decode cX7_step 232 = .ok (.iload_n 3, 1) := by decide +kernel
theorem dX7_step_233 : decode cX7_step 233 = .ok (.iaload, 1) := by decide +kernel
theorem dX7_step_234 : decode cX7_step 234 = .ok (.if_icmp .ne 15, 3) := by decide +kernel
theorem dX7_step_237 : decode cX7_step 237 = .ok (.aload_n 0, 1) := by decide +kernel
theorem dX7_step_238 : decode cX7_step 238 = .ok (.iload_n 1, 1) := by decide +kernel
theorem dX7_step_239 : decode cX7_step 239 = .ok (.iload_n 2, 1) := by decide +kernel
theorem dX7_step_240 : decode cX7_step 240 = .ok (.iload_n 3, 1) := by decide +kernel
theorem dX7_step_241 : decode cX7_step 241 = .ok (.iload 4, 2) := by decide +kernel
theorem dX7_step_243 : decode cX7_step 243 = .ok (.invokevirtual 309, 3) := by decide +kernel
theorem dX7_step_246 : decode cX7_step 246 = .ok (.ifCond .ne 5, 3) := by decide +kernel
theorem dX7_step_249 : decode cX7_step 249 = .ok (.iconst 1, 1) := by decide +kernel
theorem dX7_step_250 : decode cX7_step 250 = .ok (.ireturn, 1) := by decide +kernel
theorem dX7_step_251 : decode cX7_step 251 = .ok (.aload_n 0, 1) := by decide +kernel
theorem dX7_step_252 : decode cX7_step 252 = .ok (.getfield 296, 3) := by decide +kernel
theorem dX7_step_255 : decode cX7_step 255 = .ok (.iconst (-1), 1) := by decide +kernel
theorem dX7_step_256 : decode cX7_step 256 = .ok (.if_icmp .eq 49, 3) := by decide +kernel
theorem dX7_step_259 : decode cX7_step 259 = .ok (.aload_n 0, 1) := by decide +kernel
theorem dX7_step_260 : decode cX7_step 260 = .ok (.getfield 79, 3) := by decide +kernel
theorem dX7_step_263 : decode cX7_step 263 = .ok (.aload_n 0, 1) := by decide +kernel
theorem dX7_step_264 : decode cX7_step 264 = .ok (.getfield 332, 3) := by decide +kernel
theorem dX7_step_267 : decode cX7_step 267 = .ok (.aload_n 0, 1) := by decide +kernel
theorem dX7_step_268 : decode cX7_step 268 = .ok (.getfield 296, 3) := by decide +kernel
theorem dX7_step_271 : decode cX7_step 271 = .ok (.iastore, 1) := by decide +kernel
theorem dX7_step_272 : decode cX7_step 272 = .ok (.aload_n 0, 1) := by decide +kernel
theorem dX7_step_273 : decode cX7_step 273 = .ok (.getfield 82, 3) := by decide +kernel
theorem dX7_step_276 : decode cX7_step 276 = .ok (.aload_n 0, 1) := by decide +kernel
theorem dX7_step_277 : decode cX7_step 277 = .ok (.getfield 332, 3) := by decide +kernel
theorem dX7_step_280 : decode cX7_step 280 = .ok (.iload_n 3, 1) := by decide +kernel
theorem dX7_step_281 : decode cX7_step 281 = .ok (.iconst 1, 1) := by decide +kernel
theorem dX7_step_282 : decode cX7_step 282 = .ok (.iadd, 1) := by decide +kernel
theorem dX7_step_283 : decode cX7_step 283 = .ok (.iastore, 1) := by decide +kernel
theorem dX7_step_284 : decode cX7_step 284 = .ok (.aload_n 0, 1) := by decide +kernel
theorem dX7_step_285 : decode cX7_step 285 = .ok (.getfield 85, 3) := by decide +kernel
theorem dX7_step_288 : decode cX7_step 288 = .ok (.aload_n 0, 1) := by decide +kernel
theorem dX7_step_289 : decode cX7_step 289 = .ok (.getfield 332, 3) := by decide +kernel
theorem dX7_step_292 : decode cX7_step 292 = .ok (.iload 4, 2) := by decide +kernel
theorem dX7_step_294 : decode cX7_step 294 = .ok (.iastore, 1) := by decide +kernel
theorem dX7_step_295 : decode cX7_step 295 = .ok (.aload_n 0, 1) := by decide +kernel
theorem dX7_step_296 : decode cX7_step 296 = .ok (.dup, 1) := by decide +kernel
theorem dX7_step_297 : decode cX7_step 297 = .ok (.getfield 332, 3) := by decide +kernel
theorem dX7_step_300 : decode cX7_step 300 = .ok (.iconst 1, 1) := by decide +kernel
theorem dX7_step_301 : decode cX7_step 301 = .ok (.iadd, 1) := by decide +kernel
theorem dX7_step_302 : decode cX7_step 302 = .ok (.putfield 332, 3) := by decide +kernel
theorem dX7_step_305 : decode cX7_step 305 = .ok (.iconst 0, 1) := by decide +kernel
theorem dX7_step_306 : decode cX7_step 306 = .ok (.ireturn, 1) := by decide +kernel
theorem dX7_solves_0 : decode cX7_solves 0 = .ok (.aload_n 0, 1) := by decide +kernel
theorem dX7_solves_1 : decode cX7_solves 1 = .ok (.iconst 0, 1) := by decide +kernel
theorem dX7_solves_2 : decode cX7_solves 2 = .ok (.putfield 287, 3) := by decide +kernel
theorem dX7_solves_5 : decode cX7_solves 5 = .ok (.aload_n 0, 1) := by decide +kernel
theorem dX7_solves_6 : decode cX7_solves 6 = .ok (.bipush 60, 2) := by decide +kernel
theorem dX7_solves_8 : decode cX7_solves 8 = .ok (.iload_n 1, 1) := by decide +kernel
theorem dX7_solves_9 : decode cX7_solves 9 = .ok (.imul, 1) := by decide +kernel
theorem dX7_solves_10 : decode cX7_solves 10 = .ok (.ldc 154, 2) := by decide +kernel
theorem dX7_solves_12 : decode cX7_solves 12 = .ok (.bipush 60, 2) := by decide +kernel
theorem dX7_solves_14 : decode cX7_solves 14 = .ok (.iload_n 1, 1) := by decide +kernel
theorem dX7_solves_15 : decode cX7_solves 15 = .ok (.imul, 1) := by decide +kernel
theorem dX7_solves_16 : decode cX7_solves 16 = .ok (.bipush 30, 2) := by decide +kernel
theorem dX7_solves_18 : decode cX7_solves 18 = .ok (.iadd, 1) := by decide +kernel
theorem dX7_solves_19 : decode cX7_solves 19 = .ok (.ldc 154, 2) := by decide +kernel
theorem dX7_solves_21 : decode cX7_solves 21 = .ok (.invokevirtual 299, 3) := by decide +kernel
theorem dX7_solves_24 : decode cX7_solves 24 = .ok (.aload_n 0, 1) := by decide +kernel
theorem dX7_solves_25 : decode cX7_solves 25 = .ok (.getfield 287, 3) := by decide +kernel
theorem dX7_solves_28 : decode cX7_solves 28 = .ok (.ifCond .le 149, 3) := by decide +kernel
theorem dX7_solves_31 : decode cX7_solves 31 = .ok (.aload_n 0, 1) := by decide +kernel
theorem dX7_solves_32 : decode cX7_solves 32 = .ok (.getfield 335, 3) := by decide +kernel
theorem dX7_solves_35 : decode cX7_solves 35 = .ok (.ifCond .ne 142, 3) := by decide +kernel
theorem dX7_solves_38 : decode cX7_solves 38 = .ok (.aload_n 0, 1) := by decide +kernel
theorem dX7_solves_39 : decode cX7_solves 39 = .ok (.getfield 338, 3) := by decide +kernel
theorem dX7_solves_42 : decode cX7_solves 42 = .ok (.sipush 600, 3) := by decide +kernel
theorem dX7_solves_45 : decode cX7_solves 45 = .ok (.if_icmp .ne 11, 3) := by decide +kernel
theorem dX7_solves_48 : decode cX7_solves 48 = .ok (.aload_n 0, 1) := by decide +kernel
theorem dX7_solves_49 : decode cX7_solves 49 = .ok (.iconst 4, 1) := by decide +kernel
theorem dX7_solves_50 : decode cX7_solves 50 = .ok (.putfield 335, 3) := by decide +kernel
theorem dX7_solves_53 : decode cX7_solves 53 = .ok (.goto 105, 3) := by decide +kernel
theorem dX7_solves_56 : decode cX7_solves 56 = .ok (.aload_n 0, 1) := by decide +kernel
theorem dX7_solves_57 : decode cX7_solves 57 = .ok (.dup, 1) := by decide +kernel
theorem dX7_solves_58 : decode cX7_solves 58 = .ok (.getfield 338, 3) := by decide +kernel
theorem dX7_solves_61 : decode cX7_solves 61 = .ok (.iconst 1, 1) := by decide +kernel
theorem dX7_solves_62 : decode cX7_solves 62 = .ok (.iadd, 1) := by decide +kernel
theorem dX7_solves_63 : decode cX7_solves 63 = .ok (.putfield 338, 3) := by decide +kernel
theorem dX7_solves_66 : decode cX7_solves 66 = .ok (.aload_n 0, 1) := by decide +kernel
theorem dX7_solves_67 : decode cX7_solves 67 = .ok (.dup, 1) := by decide +kernel
theorem dX7_solves_68 : decode cX7_solves 68 = .ok (.getfield 287, 3) := by decide +kernel
theorem dX7_solves_71 : decode cX7_solves 71 = .ok (.iconst 1, 1) := by decide +kernel
theorem dX7_solves_72 : decode cX7_solves 72 = .ok (.isub, 1) := by decide +kernel
theorem dX7_solves_73 : decode cX7_solves 73 = .ok (.putfield 287, 3) := by decide +kernel
theorem dX7_solves_76 : decode cX7_solves 76 = .ok (.aload_n 0, 1) := by decide +kernel
theorem dX7_solves_77 : decode cX7_solves 77 = .ok (.getfield 73, 3) := by decide +kernel
theorem dX7_solves_80 : decode cX7_solves 80 = .ok (.aload_n 0, 1) := by decide +kernel
theorem dX7_solves_81 : decode cX7_solves 81 = .ok (.getfield 287, 3) := by decide +kernel
theorem dX7_solves_84 : decode cX7_solves 84 = .ok (.iaload, 1) := by decide +kernel
theorem dX7_solves_85 : decode cX7_solves 85 = .ok (.istore_n 2, 1) := by decide +kernel
theorem dX7_solves_86 : decode cX7_solves 86 = .ok (.aload_n 0, 1) := by decide +kernel
theorem dX7_solves_87 : decode cX7_solves 87 = .ok (.getfield 76, 3) := by decide +kernel
theorem dX7_solves_90 : decode cX7_solves 90 = .ok (.aload_n 0, 1) := by decide +kernel
theorem dX7_solves_91 : decode cX7_solves 91 = .ok (.getfield 287, 3) := by decide +kernel
theorem dX7_solves_94 : decode cX7_solves 94 = .ok (.iaload, 1) := by decide +kernel
theorem dX7_solves_95 : decode cX7_solves 95 = .ok (.istore_n 3, 1) := by decide +kernel
theorem dX7_solves_96 : decode cX7_solves 96 = .ok (.aload_n 0, 1) := by decide +kernel
theorem dX7_solves_97 : decode cX7_solves 97 = .ok (.aload_n 0, 1) := by decide +kernel
theorem dX7_solves_98 : decode cX7_solves 98 = .ok (.getfield 67, 3) := by decide +kernel
theorem dX7_solves_101 : decode cX7_solves 101 = .ok (.aload_n 0, 1) := by decide +kernel
theorem dX7_solves_102 : decode cX7_solves 102 = .ok (.getfield 287, 3) := by decide +kernel
theorem dX7_solves_105 : decode cX7_solves 105 = .ok (.iaload, 1) := by decide +kernel
theorem dX7_solves_106 : decode cX7_solves 106 = .ok (.aload_n 0, 1) := by decide +kernel
theorem dX7_solves_107 : decode cX7_solves 107 = .ok (.getfield 70, 3) := by decide +kernel
theorem dX7_solves_110 : decode cX7_solves 110 = .ok (.aload_n 0, 1) := by decide +kernel
theorem dX7_solves_111 : decode cX7_solves 111 = .ok (.getfield 287, 3) := by decide +kernel
theorem dX7_solves_114 : decode cX7_solves 114 = .ok (.iaload, 1) := by decide +kernel
theorem dX7_solves_115 : decode cX7_solves 115 = .ok (.iconst 1, 1) := by decide +kernel
theorem dX7_solves_116 : decode cX7_solves 116 = .ok (.invokevirtual 303, 3) := by decide +kernel
theorem dX7_solves_119 : decode cX7_solves 119 = .ok (.aload_n 0, 1) := by decide +kernel
theorem dX7_solves_120 : decode cX7_solves 120 = .ok (.getfield 290, 3) := by decide +kernel
theorem dX7_solves_123 : decode cX7_solves 123 = .ok (.istore 4, 2) := by decide +kernel
theorem dX7_solves_125 : decode cX7_solves 125 = .ok (.aload_n 0, 1) := by decide +kernel
theorem dX7_solves_126 : decode cX7_solves 126 = .ok (.getfield 293, 3) := by decide +kernel
theorem dX7_solves_129 : decode cX7_solves 129 = .ok (.istore 5, 2) := by decide +kernel
theorem dX7_solves_131 : decode cX7_solves 131 = .ok (.aload_n 0, 1) := by decide +kernel
theorem dX7_solves_132 : decode cX7_solves 132 = .ok (.iload_n 2, 1) := by decide +kernel
theorem dX7_solves_133 : decode cX7_solves 133 = .ok (.iload_n 3, 1) := by decide +kernel
theorem dX7_solves_134 : decode cX7_solves 134 = .ok (.iconst 1, 1) := by decide +kernel
theorem dX7_solves_135 : decode cX7_solves 135 = .ok (.invokevirtual 303, 3) := by decide +kernel
theorem dX7_solves_138 : decode cX7_solves 138 = .ok (.aload_n 0, 1) := by decide +kernel
theorem dX7_solves_139 : decode cX7_solves 139 = .ok (.aload_n 0, 1) := by decide +kernel
theorem dX7_solves_140 : decode cX7_solves 140 = .ok (.iload 4, 2) := by decide +kernel
theorem dX7_solves_142 : decode cX7_solves 142 = .ok (.iload 5, 2) := by decide +kernel
theorem dX7_solves_144 : decode cX7_solves 144 = .ok (.aload_n 0, 1) := by decide +kernel
theorem dX7_solves_145 : decode cX7_solves 145 = .ok (.getfield 290, 3) := by decide +kernel
theorem dX7_solves_148 : decode cX7_solves 148 = .ok (.aload_n 0, 1) := by decide +kernel
theorem dX7_solves_149 : decode cX7_solves 149 = .ok (.getfield 293, 3) := by decide +kernel
theorem dX7_solves_152 : decode cX7_solves 152 = .ok (.invokevirtual 341, 3) := by decide +kernel
theorem dX7_solves_155 : decode cX7_solves 155 = .ok (.putfield 335, 3) := by decide +kernel
theorem dX7_solves_158 : decode cX7_solves 158 = .ok (.aload_n 0, 1) := by decide +kernel
theorem dX7_solves_159 : decode cX7_solves 159 = .ok (.aload_n 0, 1) := by decide +kernel
theorem dX7_solves_160 : decode cX7_solves 160 = .ok (.getfield 335, 3) := by decide +kernel
theorem dX7_solves_163 : decode cX7_solves 163 = .ok (.ifCond .ne 7, 3) := by decide +kernel
theorem dX7_solves_166 : decode cX7_solves 166 = .ok (.iconst (-1), 1) := by decide +kernel
theorem dX7_solves_167 : decode cX7_solves 167 = .ok (.goto 4, 3) := by decide +kernel
theorem dX7_solves_170 : decode cX7_solves 170 = .ok (.iload_n 1, 1) := by decide +kernel
theorem dX7_solves_171 : decode cX7_solves 171 = .ok (.putfield 345, 3) := by decide +kernel
theorem dX7_solves_174 : decode cX7_solves 174 = .ok (.goto (-150), 3) := by decide +kernel
theorem dX7_solves_177 : decode cX7_solves 177 = .ok (.return_, 1) := by decide +kernel
theorem dX7_freshens_0 : decode cX7_freshens 0 = .ok (.aload_n 0, 1) := by decide +kernel
theorem dX7_freshens_1 : decode cX7_freshens 1 = .ok (.iconst 0, 1) := by decide +kernel
theorem dX7_freshens_2 : decode cX7_freshens 2 = .ok (.putfield 249, 3) := by decide +kernel
theorem dX7_freshens_5 : decode cX7_freshens 5 = .ok (.iconst 0, 1) := by decide +kernel
theorem dX7_freshens_6 : decode cX7_freshens 6 = .ok (.istore_n 1, 1) := by decide +kernel
theorem dX7_freshens_7 : decode cX7_freshens 7 = .ok (.iload_n 1, 1) := by decide +kernel
theorem dX7_freshens_8 : decode cX7_freshens 8 = .ok (.bipush 6, 2) := by decide +kernel
theorem dX7_freshens_10 : decode cX7_freshens 10 = .ok (.if_icmp .ge 35, 3) := by decide +kernel
theorem dX7_freshens_13 : decode cX7_freshens 13 = .ok (.aload_n 0, 1) := by decide +kernel
theorem dX7_freshens_14 : decode cX7_freshens 14 = .ok (.getfield 64, 3) := by decide +kernel
theorem dX7_freshens_17 : decode cX7_freshens 17 = .ok (.iload_n 1, 1) := by decide +kernel
theorem dX7_freshens_18 : decode cX7_freshens 18 = .ok (.aload_n 0, 1) := by decide +kernel
theorem dX7_freshens_19 : decode cX7_freshens 19 = .ok (.getfield 43, 3) := by decide +kernel
theorem dX7_freshens_22 : decode cX7_freshens 22 = .ok (.iload_n 1, 1) := by decide +kernel
theorem dX7_freshens_23 : decode cX7_freshens 23 = .ok (.iaload, 1) := by decide +kernel
theorem dX7_freshens_24 : decode cX7_freshens 24 = .ok (.aload_n 0, 1) := by decide +kernel
theorem dX7_freshens_25 : decode cX7_freshens 25 = .ok (.getfield 88, 3) := by decide +kernel
theorem dX7_freshens_28 : decode cX7_freshens 28 = .ok (.iload_n 1, 1) := by decide +kernel
theorem dX7_freshens_29 : decode cX7_freshens 29 = .ok (.iaload, 1) := by decide +kernel
theorem dX7_freshens_30 : decode cX7_freshens 30 = .ok (.ior, 1) := by decide +kernel
theorem dX7_freshens_31 : decode cX7_freshens 31 = .ok (.iastore, 1) := by decide +kernel
theorem dX7_freshens_32 : decode cX7_freshens 32 = .ok (.aload_n 0, 1) := by decide +kernel
theorem dX7_freshens_33 : decode cX7_freshens 33 = .ok (.getfield 91, 3) := by decide +kernel
theorem dX7_freshens_36 : decode cX7_freshens 36 = .ok (.iload_n 1, 1) := by decide +kernel
theorem dX7_freshens_37 : decode cX7_freshens 37 = .ok (.iconst 0, 1) := by decide +kernel
theorem dX7_freshens_38 : decode cX7_freshens 38 = .ok (.iastore, 1) := by decide +kernel
theorem dX7_freshens_39 : decode cX7_freshens 39 = .ok (.iinc 1 1, 3) := by decide +kernel
theorem dX7_freshens_42 : decode cX7_freshens 42 = .ok (.goto (-35), 3) := by decide +kernel
theorem dX7_freshens_45 : decode cX7_freshens 45 = .ok (.iconst 0, 1) := by decide +kernel
theorem dX7_freshens_46 : decode cX7_freshens 46 = .ok (.istore_n 1, 1) := by decide +kernel
theorem dX7_freshens_47 : decode cX7_freshens 47 = .ok (.iload_n 1, 1) := by decide +kernel
theorem dX7_freshens_48 : decode cX7_freshens 48 = .ok (.aload_n 0, 1) := by decide +kernel
theorem dX7_freshens_49 : decode cX7_freshens 49 = .ok (.getfield 332, 3) := by decide +kernel
theorem dX7_freshens_52 : decode cX7_freshens 52 = .ok (.if_icmp .ge 31, 3) := by decide +kernel
theorem dX7_freshens_55 : decode cX7_freshens 55 = .ok (.aload_n 0, 1) := by decide +kernel
theorem dX7_freshens_56 : decode cX7_freshens 56 = .ok (.aload_n 0, 1) := by decide +kernel
theorem dX7_freshens_57 : decode cX7_freshens 57 = .ok (.getfield 79, 3) := by decide +kernel
theorem dX7_freshens_60 : decode cX7_freshens 60 = .ok (.iload_n 1, 1) := by decide +kernel
theorem dX7_freshens_61 : decode cX7_freshens 61 = .ok (.iaload, 1) := by decide +kernel
theorem dX7_freshens_62 : decode cX7_freshens 62 = .ok (.aload_n 0, 1) := by decide +kernel
theorem dX7_freshens_63 : decode cX7_freshens 63 = .ok (.getfield 82, 3) := by decide +kernel
theorem dX7_freshens_66 : decode cX7_freshens 66 = .ok (.iload_n 1, 1) := by decide +kernel
theorem dX7_freshens_67 : decode cX7_freshens 67 = .ok (.iaload, 1) := by decide +kernel
theorem dX7_freshens_68 : decode cX7_freshens 68 = .ok (.aload_n 0, 1) := by decide +kernel
theorem dX7_freshens_69 : decode cX7_freshens 69 = .ok (.getfield 85, 3) := by decide +kernel
theorem dX7_freshens_72 : decode cX7_freshens 72 = .ok (.iload_n 1, 1) := by decide +kernel
theorem dX7_freshens_73 : decode cX7_freshens 73 = .ok (.iaload, 1) := by decide +kernel
theorem dX7_freshens_74 : decode cX7_freshens 74 = .ok (.invokevirtual 253, 3) := by decide +kernel
theorem dX7_freshens_77 : decode cX7_freshens 77 = .ok (.iinc 1 1, 3) := by decide +kernel
theorem dX7_freshens_80 : decode cX7_freshens 80 = .ok (.goto (-33), 3) := by decide +kernel
theorem dX7_freshens_83 : decode cX7_freshens 83 = .ok (.iconst 1, 1) := by decide +kernel
theorem dX7_freshens_84 : decode cX7_freshens 84 = .ok (.istore_n 1, 1) := by decide +kernel
theorem dX7_freshens_85 : decode cX7_freshens 85 = .ok (.iload_n 1, 1) := by decide +kernel
theorem dX7_freshens_86 : decode cX7_freshens 86 = .ok (.ifCond .eq 104, 3) := by decide +kernel
theorem dX7_freshens_89 : decode cX7_freshens 89 = .ok (.iconst 0, 1) := by decide +kernel
theorem dX7_freshens_90 : decode cX7_freshens 90 = .ok (.istore_n 1, 1) := by decide +kernel
theorem dX7_freshens_91 : decode cX7_freshens 91 = .ok (.iconst 0, 1) := by decide +kernel
theorem dX7_freshens_92 : decode cX7_freshens 92 = .ok (.istore_n 2, 1) := by decide +kernel
theorem dX7_freshens_93 : decode cX7_freshens 93 = .ok (.iload_n 2, 1) := by decide +kernel
theorem dX7_freshens_94 : decode cX7_freshens 94 = .ok (.bipush 36, 2) := by decide +kernel
theorem dX7_freshens_96 : decode cX7_freshens 96 = .ok (.if_icmp .ge 91, 3) := by decide +kernel
theorem dX7_freshens_99 : decode cX7_freshens 99 = .ok (.iload_n 2, 1) := by decide +kernel
theorem dX7_freshens_100 : decode cX7_freshens 100 = .ok (.bipush 6, 2) := by decide +kernel
theorem dX7_freshens_102 : decode cX7_freshens 102 = .ok (.idiv, 1) := by decide +kernel
theorem dX7_freshens_103 : decode cX7_freshens 103 = .ok (.istore_n 3, 1) := by decide +kernel
theorem dX7_freshens_104 : decode cX7_freshens 104 = .ok (.iload_n 2, 1) := by decide +kernel
theorem dX7_freshens_105 : decode cX7_freshens 105 = .ok (.bipush 6, 2) := by decide +kernel
theorem dX7_freshens_107 : decode cX7_freshens 107 = .ok (.irem, 1) := by decide +kernel
theorem dX7_freshens_108 : decode cX7_freshens 108 = .ok (.istore 4, 2) := by decide +kernel
theorem dX7_freshens_110 : decode cX7_freshens 110 = .ok (.aload_n 0, 1) := by decide +kernel
theorem dX7_freshens_111 : decode cX7_freshens 111 = .ok (.getfield 55, 3) := by decide +kernel
theorem dX7_freshens_114 : decode cX7_freshens 114 = .ok (.iload_n 3, 1) := by decide +kernel
theorem dX7_freshens_115 : decode cX7_freshens 115 = .ok (.iaload, 1) := by decide +kernel
theorem dX7_freshens_116 : decode cX7_freshens 116 = .ok (.iconst (-1), 1) := by decide +kernel
theorem dX7_freshens_117 : decode cX7_freshens 117 = .ok (.if_icmp .eq 64, 3) := by decide +kernel
theorem dX7_freshens_120 : decode cX7_freshens 120 = .ok (.aload_n 0, 1) := by decide +kernel
theorem dX7_freshens_121 : decode cX7_freshens 121 = .ok (.getfield 64, 3) := by decide +kernel
theorem dX7_freshens_124 : decode cX7_freshens 124 = .ok (.iload_n 3, 1) := by decide +kernel
theorem dX7_freshens_125 : decode cX7_freshens 125 = .ok (.iaload, 1) := by decide +kernel
theorem dX7_freshens_126 : decode cX7_freshens 126 = .ok (.iload 4, 2) := by decide +kernel
theorem dX7_freshens_128 : decode cX7_freshens 128 = .ok (.invokestatic 200, 3) := by decide +kernel
theorem dX7_freshens_131 : decode cX7_freshens 131 = .ok (.ifCond .eq 50, 3) := by decide +kernel
theorem dX7_freshens_134 : decode cX7_freshens 134 = .ok (.aload_n 0, 1) := by decide +kernel
theorem dX7_freshens_135 : decode cX7_freshens 135 = .ok (.getfield 91, 3) := by decide +kernel
theorem dX7_freshens_138 : decode cX7_freshens 138 = .ok (.iload_n 3, 1) := by decide +kernel
theorem dX7_freshens_139 : decode cX7_freshens 139 = .ok (.iaload, 1) := by decide +kernel
theorem dX7_freshens_140 : decode cX7_freshens 140 = .ok (.iload 4, 2) := by decide +kernel
theorem dX7_freshens_142 : decode cX7_freshens 142 = .ok (.invokestatic 200, 3) := by decide +kernel
theorem dX7_freshens_145 : decode cX7_freshens 145 = .ok (.ifCond .ne 36, 3) := by decide +kernel
theorem dX7_freshens_148 : decode cX7_freshens 148 = .ok (.aload_n 0, 1) := by decide +kernel
theorem dX7_freshens_149 : decode cX7_freshens 149 = .ok (.getfield 91, 3) := by decide +kernel
theorem dX7_freshens_152 : decode cX7_freshens 152 = .ok (.iload_n 3, 1) := by decide +kernel
theorem dX7_freshens_153 : decode cX7_freshens 153 = .ok (.dup2, 1) := by decide +kernel
theorem dX7_freshens_154 : decode cX7_freshens 154 = .ok (.iaload, 1) := by decide +kernel
theorem dX7_freshens_155 : decode cX7_freshens 155 = .ok (.iconst 1, 1) := by decide +kernel
theorem dX7_freshens_156 : decode cX7_freshens 156 = .ok (.iload 4, 2) := by decide +kernel
theorem dX7_freshens_158 : decode cX7_freshens 158 = .ok (.ishl, 1) := by decide +kernel
theorem dX7_freshens_159 : decode cX7_freshens 159 = .ok (.ior, 1) := by decide +kernel
theorem dX7_freshens_160 : decode cX7_freshens 160 = .ok (.iastore, 1) := by decide +kernel
theorem dX7_freshens_161 : decode cX7_freshens 161 = .ok (.aload_n 0, 1) := by decide +kernel
theorem dX7_freshens_162 : decode cX7_freshens 162 = .ok (.iload 4, 2) := by decide +kernel
theorem dX7_freshens_164 : decode cX7_freshens 164 = .ok (.aload_n 0, 1) := by decide +kernel
theorem dX7_freshens_165 : decode cX7_freshens 165 = .ok (.getfield 55, 3) := by decide +kernel
theorem dX7_freshens_168 : decode cX7_freshens 168 = .ok (.iload_n 3, 1) := by decide +kernel
theorem dX7_freshens_169 : decode cX7_freshens 169 = .ok (.iaload, 1) := by decide +kernel
theorem dX7_freshens_170 : decode cX7_freshens 170 = .ok (.aload_n 0, 1) := by decide +kernel
theorem dX7_freshens_171 : decode cX7_freshens 171 = .ok (.getfield 58, 3) := by decide +kernel
theorem dX7_freshens_174 : decode cX7_freshens 174 = .ok (.iload_n 3, 1) := by decide +kernel
theorem dX7_freshens_175 : decode cX7_freshens 175 = .ok (.iaload, 1) := by decide +kernel
theorem dX7_freshens_176 : decode cX7_freshens 176 = .ok (.invokevirtual 253, 3) := by decide +kernel
theorem dX7_freshens_179 : decode cX7_freshens 179 = .ok (.iconst 1, 1) := by decide +kernel
theorem dX7_freshens_180 : decode cX7_freshens 180 = .ok (.istore_n 1, 1) := by decide +kernel
theorem dX7_freshens_181 : decode cX7_freshens 181 = .ok (.iinc 2 1, 3) := by decide +kernel
theorem dX7_freshens_184 : decode cX7_freshens 184 = .ok (.goto (-91), 3) := by decide +kernel
theorem dX7_freshens_187 : decode cX7_freshens 187 = .ok (.goto (-102), 3) := by decide +kernel
theorem dX7_freshens_190 : decode cX7_freshens 190 = .ok (.aload_n 0, 1) := by decide +kernel
theorem dX7_freshens_191 : decode cX7_freshens 191 = .ok (.aload_n 0, 1) := by decide +kernel
theorem dX7_freshens_192 : decode cX7_freshens 192 = .ok (.getfield 249, 3) := by decide +kernel
theorem dX7_freshens_195 : decode cX7_freshens 195 = .ok (.ifCond .eq 7, 3) := by decide +kernel
theorem dX7_freshens_198 : decode cX7_freshens 198 = .ok (.iconst 3, 1) := by decide +kernel
theorem dX7_freshens_199 : decode cX7_freshens 199 = .ok (.goto 4, 3) := by decide +kernel
theorem dX7_freshens_202 : decode cX7_freshens 202 = .ok (.iconst 0, 1) := by decide +kernel
theorem dX7_freshens_203 : decode cX7_freshens 203 = .ok (.putfield 335, 3) := by decide +kernel
theorem dX7_freshens_206 : decode cX7_freshens 206 = .ok (.return_, 1) := by decide +kernel
theorem dX7_solving_0 : decode cX7_solving 0 = .ok (.aload_n 0, 1) := by decide +kernel
theorem dX7_solving_1 : decode cX7_solving 1 = .ok (.iconst 0, 1) := by decide +kernel
theorem dX7_solving_2 : decode cX7_solving 2 = .ok (.putfield 335, 3) := by decide +kernel
theorem dX7_solving_5 : decode cX7_solving 5 = .ok (.aload_n 0, 1) := by decide +kernel
theorem dX7_solving_6 : decode cX7_solving 6 = .ok (.iconst (-1), 1) := by decide +kernel
theorem dX7_solving_7 : decode cX7_solving 7 = .ok (.putfield 345, 3) := by decide +kernel
theorem dX7_solving_10 : decode cX7_solving 10 = .ok (.aload_n 0, 1) := by decide +kernel
theorem dX7_solving_11 : decode cX7_solving 11 = .ok (.iconst 0, 1) := by decide +kernel
theorem dX7_solving_12 : decode cX7_solving 12 = .ok (.putfield 338, 3) := by decide +kernel
theorem dX7_solving_15 : decode cX7_solving 15 = .ok (.aload_n 0, 1) := by decide +kernel
theorem dX7_solving_16 : decode cX7_solving 16 = .ok (.iconst 0, 1) := by decide +kernel
theorem dX7_solving_17 : decode cX7_solving 17 = .ok (.putfield 332, 3) := by decide +kernel
theorem dX7_solving_20 : decode cX7_solving 20 = .ok (.iconst 0, 1) := by decide +kernel
theorem dX7_solving_21 : decode cX7_solving 21 = .ok (.istore_n 3, 1) := by decide +kernel
theorem dX7_solving_22 : decode cX7_solving 22 = .ok (.iload_n 3, 1) := by decide +kernel
theorem dX7_solving_23 : decode cX7_solving 23 = .ok (.bipush 6, 2) := by decide +kernel
theorem dX7_solving_25 : decode cX7_solving 25 = .ok (.if_icmp .ge 31, 3) := by decide +kernel
theorem dX7_solving_28 : decode cX7_solving 28 = .ok (.aload_n 0, 1) := by decide +kernel
theorem dX7_solving_29 : decode cX7_solving 29 = .ok (.getfield 55, 3) := by decide +kernel
theorem dX7_solving_32 : decode cX7_solving 32 = .ok (.iload_n 3, 1) := by decide +kernel
theorem dX7_solving_33 : decode cX7_solving 33 = .ok (.iconst (-1), 1) := by decide +kernel
theorem dX7_solving_34 : decode cX7_solving 34 = .ok (.iastore, 1) := by decide +kernel
theorem dX7_solving_35 : decode cX7_solving 35 = .ok (.aload_n 0, 1) := by decide +kernel
theorem dX7_solving_36 : decode cX7_solving 36 = .ok (.getfield 58, 3) := by decide +kernel
theorem dX7_solving_39 : decode cX7_solving 39 = .ok (.iload_n 3, 1) := by decide +kernel
theorem dX7_solving_40 : decode cX7_solving 40 = .ok (.ldc 154, 2) := by decide +kernel
theorem dX7_solving_42 : decode cX7_solving 42 = .ok (.iastore, 1) := by decide +kernel
theorem dX7_solving_43 : decode cX7_solving 43 = .ok (.aload_n 0, 1) := by decide +kernel
theorem dX7_solving_44 : decode cX7_solving 44 = .ok (.getfield 88, 3) := by decide +kernel
theorem dX7_solving_47 : decode cX7_solving 47 = .ok (.iload_n 3, 1) := by decide +kernel
theorem dX7_solving_48 : decode cX7_solving 48 = .ok (.iconst 0, 1) := by decide +kernel
theorem dX7_solving_49 : decode cX7_solving 49 = .ok (.iastore, 1) := by decide +kernel
theorem dX7_solving_50 : decode cX7_solving 50 = .ok (.iinc 3 1, 3) := by decide +kernel
theorem dX7_solving_53 : decode cX7_solving 53 = .ok (.goto (-31), 3) := by decide +kernel
theorem dX7_solving_56 : decode cX7_solving 56 = .ok (.iconst 0, 1) := by decide +kernel
theorem dX7_solving_57 : decode cX7_solving 57 = .ok (.istore_n 3, 1) := by decide +kernel
theorem dX7_solving_58 : decode cX7_solving 58 = .ok (.iload_n 1, 1) := by decide +kernel
theorem dX7_solving_59 : decode cX7_solving 59 = .ok (.istore 4, 2) := by decide +kernel
theorem dX7_solving_61 : decode cX7_solving 61 = .ok (.bipush 6, 2) := by decide +kernel
theorem dX7_solving_63 : decode cX7_solving 63 = .ok (.istore 5, 2) := by decide +kernel
theorem dX7_solving_65 : decode cX7_solving 65 = .ok (.iconst 0, 1) := by decide +kernel
theorem dX7_solving_66 : decode cX7_solving 66 = .ok (.istore 6, 2) := by decide +kernel
theorem dX7_solving_68 : decode cX7_solving 68 = .ok (.iload 6, 2) := by decide +kernel
theorem dX7_solving_70 : decode cX7_solving 70 = .ok (.iconst 4, 1) := by decide +kernel
theorem dX7_solving_71 : decode cX7_solving 71 = .ok (.if_icmp .ge 103, 3) := by decide +kernel
theorem dX7_solving_74 : decode cX7_solving 74 = .ok (.iload 4, 2) := by decide +kernel
theorem dX7_solving_76 : decode cX7_solving 76 = .ok (.iload 5, 2) := by decide +kernel
theorem dX7_solving_78 : decode cX7_solving 78 = .ok (.idiv, 1) := by decide +kernel
theorem dX7_solving_79 : decode cX7_solving 79 = .ok (.istore 7, 2) := by decide +kernel
theorem dX7_solving_81 : decode cX7_solving 81 = .ok (.iconst (-1), 1) := by decide +kernel
theorem dX7_solving_82 : decode cX7_solving 82 = .ok (.istore 8, 2) := by decide +kernel
theorem dX7_solving_84 : decode cX7_solving 84 = .ok (.iload 7, 2) := by decide +kernel
theorem dX7_solving_86 : decode cX7_solving 86 = .ok (.ifCond .lt 28, 3) := by decide +kernel
theorem dX7_solving_89 : decode cX7_solving 89 = .ok (.iinc 8 1, 3) := by decide +kernel
theorem dX7_solving_92 : decode cX7_solving 92 = .ok (.iload 7, 2) := by decide +kernel
theorem dX7_solving_94 : decode cX7_solving 94 = .ok (.iload_n 3, 1) := by decide +kernel
theorem dX7_solving_95 : decode cX7_solving 95 = .ok (.iload 8, 2) := by decide +kernel
theorem dX7_solving_97 : decode cX7_solving 97 = .ok (.invokestatic 200, 3) := by decide +kernel
theorem dX7_solving_100 : decode cX7_solving 100 = .ok (.ifCond .eq 7, 3) := by decide +kernel
theorem dX7_solving_103 : decode cX7_solving 103 = .ok (.iconst 0, 1) := by decide +kernel
theorem dX7_solving_104 : decode cX7_solving 104 = .ok (.goto 4, 3) := by decide +kernel
theorem dX7_solving_107 : decode cX7_solving 107 = .ok (.iconst 1, 1) := by decide +kernel
theorem dX7_solving_108 : decode cX7_solving 108 = .ok (.isub, 1) := by decide +kernel
theorem dX7_solving_109 : decode cX7_solving 109 = .ok (.istore 7, 2) := by decide +kernel
theorem dX7_solving_111 : decode cX7_solving 111 = .ok (.goto (-27), 3) := by decide +kernel
theorem dX7_solving_114 : decode cX7_solving 114 = .ok (.iload_n 3, 1) := by decide +kernel
theorem dX7_solving_115 : decode cX7_solving 115 = .ok (.iconst 1, 1) := by decide +kernel
theorem dX7_solving_116 : decode cX7_solving 116 = .ok (.iload 8, 2) := by decide +kernel
theorem dX7_solving_118 : decode cX7_solving 118 = .ok (.ishl, 1) := by decide +kernel
theorem dX7_solving_119 : decode cX7_solving 119 = .ok (.ior, 1) := by decide +kernel
theorem dX7_solving_120 : decode cX7_solving 120 = .ok (.istore_n 3, 1) := by decide +kernel
theorem dX7_solving_121 : decode cX7_solving 121 = .ok (.iload 4, 2) := by decide +kernel
theorem dX7_solving_123 : decode cX7_solving 123 = .ok (.iload 5, 2) := by decide +kernel
theorem dX7_solving_125 : decode cX7_solving 125 = .ok (.irem, 1) := by decide +kernel
theorem dX7_solving_126 : decode cX7_solving 126 = .ok (.istore 4, 2) := by decide +kernel
theorem dX7_solving_128 : decode cX7_solving 128 = .ok (.iload 6, 2) := by decide +kernel
theorem dX7_solving_130 : decode cX7_solving 130 = .ok (.ifCond .ne 7, 3) := by decide +kernel
theorem dX7_solving_133 : decode cX7_solving 133 = .ok (.iconst 2, 1) := by decide +kernel
theorem dX7_solving_134 : decode cX7_solving 134 = .ok (.goto 4, 3) := by decide +kernel
theorem dX7_solving_137 : decode cX7_solving 137 = .ok (.iconst 1, 1) := by decide +kernel
theorem dX7_solving_138 : decode cX7_solving 138 = .ok (.istore 5, 2) := by decide +kernel
theorem dX7_solving_140 : decode cX7_solving 140 = .ok (.aload_n 0, 1) := by decide +kernel
theorem dX7_solving_141 : decode cX7_solving 141 = .ok (.getfield 335, 3) := by decide +kernel
theorem dX7_solving_144 : decode cX7_solving 144 = .ok (.ifCond .ne 24, 3) := by decide +kernel
theorem dX7_solving_147 : decode cX7_solving 147 = .ok (.iload 8, 2) := by decide +kernel
theorem dX7_solving_149 : decode cX7_solving 149 = .ok (.iload_n 2, 1) := by decide +kernel
theorem dX7_solving_150 : decode cX7_solving 150 = .ok (.if_icmp .eq 18, 3) := by decide +kernel
theorem dX7_solving_153 : decode cX7_solving 153 = .ok (.aload_n 0, 1) := by decide +kernel
theorem dX7_solving_154 : decode cX7_solving 154 = .ok (.iload 8, 2) := by decide +kernel
theorem dX7_solving_156 : decode cX7_solving 156 = .ok (.invokevirtual 320, 3) := by decide +kernel
theorem dX7_solving_159 : decode cX7_solving 159 = .ok (.ifCond .eq 9, 3) := by decide +kernel
theorem dX7_solving_162 : decode cX7_solving 162 = .ok (.aload_n 0, 1) := by decide +kernel
theorem dX7_solving_163 : decode cX7_solving 163 = .ok (.iload 8, 2) := by decide +kernel
theorem dX7_solving_165 : decode cX7_solving 165 = .ok (.invokevirtual 348, 3) := by decide +kernel
theorem dX7_solving_168 : decode cX7_solving 168 = .ok (.iinc 6 1, 3) := by decide +kernel
theorem dX7_solving_171 : decode cX7_solving 171 = .ok (.goto (-103), 3) := by decide +kernel
theorem dX7_solving_174 : decode cX7_solving 174 = .ok (.aload_n 0, 1) := by decide +kernel
theorem dX7_solving_175 : decode cX7_solving 175 = .ok (.getfield 335, 3) := by decide +kernel
theorem dX7_solving_178 : decode cX7_solving 178 = .ok (.ifCond .ne 7, 3) := by decide +kernel
theorem dX7_solving_181 : decode cX7_solving 181 = .ok (.aload_n 0, 1) := by decide +kernel
theorem dX7_solving_182 : decode cX7_solving 182 = .ok (.invokevirtual 351, 3) := by decide +kernel
theorem dX7_solving_185 : decode cX7_solving 185 = .ok (.return_, 1) := by decide +kernel
theorem dX7_manyValues_0 : decode cX7_manyValues 0 = .ok (.iconst 0, 1) := by decide +kernel
theorem dX7_manyValues_1 : decode cX7_manyValues 1 = .ok (.istore_n 1, 1) := by decide +kernel
theorem dX7_manyValues_2 : decode cX7_manyValues 2 = .ok (.iconst 0, 1) := by decide +kernel
theorem dX7_manyValues_3 : decode cX7_manyValues 3 = .ok (.istore_n 2, 1) := by decide +kernel
theorem dX7_manyValues_4 : decode cX7_manyValues 4 = .ok (.iload_n 2, 1) := by decide +kernel
theorem dX7_manyValues_5 : decode cX7_manyValues 5 = .ok (.bipush 6, 2) := by decide +kernel
theorem dX7_manyValues_7 : decode cX7_manyValues 7 = .ok (.if_icmp .ge 27, 3) := by decide +kernel
theorem dX7_manyValues_10 : decode cX7_manyValues 10 = .ok (.iload_n 1, 1) := by decide +kernel
theorem dX7_manyValues_11 : decode cX7_manyValues 11 = .ok (.aload_n 0, 1) := by decide +kernel
theorem dX7_manyValues_12 : decode cX7_manyValues 12 = .ok (.getfield 55, 3) := by decide +kernel
theorem dX7_manyValues_15 : decode cX7_manyValues 15 = .ok (.iload_n 2, 1) := by decide +kernel
theorem dX7_manyValues_16 : decode cX7_manyValues 16 = .ok (.iaload, 1) := by decide +kernel
theorem dX7_manyValues_17 : decode cX7_manyValues 17 = .ok (.iconst (-1), 1) := by decide +kernel
theorem dX7_manyValues_18 : decode cX7_manyValues 18 = .ok (.if_icmp .eq 7, 3) := by decide +kernel
theorem dX7_manyValues_21 : decode cX7_manyValues 21 = .ok (.iconst 1, 1) := by decide +kernel
theorem dX7_manyValues_22 : decode cX7_manyValues 22 = .ok (.goto 4, 3) := by decide +kernel
theorem dX7_manyValues_25 : decode cX7_manyValues 25 = .ok (.iconst 0, 1) := by decide +kernel
theorem dX7_manyValues_26 : decode cX7_manyValues 26 = .ok (.iadd, 1) := by decide +kernel
theorem dX7_manyValues_27 : decode cX7_manyValues 27 = .ok (.istore_n 1, 1) := by decide +kernel
theorem dX7_manyValues_28 : decode cX7_manyValues 28 = .ok (.iinc 2 1, 3) := by decide +kernel
theorem dX7_manyValues_31 : decode cX7_manyValues 31 = .ok (.goto (-27), 3) := by decide +kernel
theorem dX7_manyValues_34 : decode cX7_manyValues 34 = .ok (.iload_n 1, 1) := by decide +kernel
theorem dX7_manyValues_35 : decode cX7_manyValues 35 = .ok (.ireturn, 1) := by decide +kernel
theorem dX7_wayBy_0 : decode cX7_wayBy 0 = .ok (.aload_n 0, 1) := by decide +kernel
theorem dX7_wayBy_1 : decode cX7_wayBy 1 = .ok (.iload_n 1, 1) := by decide +kernel
theorem dX7_wayBy_2 : decode cX7_wayBy 2 = .ok (.iconst (-1), 1) := by decide +kernel
theorem dX7_wayBy_3 : decode cX7_wayBy 3 = .ok (.invokevirtual 354, 3) := by decide +kernel
theorem dX7_wayBy_6 : decode cX7_wayBy 6 = .ok (.iload_n 2, 1) := by decide +kernel
theorem dX7_wayBy_7 : decode cX7_wayBy 7 = .ok (.ifCond .ne 10, 3) := by decide +kernel
theorem dX7_wayBy_10 : decode cX7_wayBy 10 = .ok (.aload_n 0, 1) := by decide +kernel
theorem dX7_wayBy_11 : decode cX7_wayBy 11 = .ok (.getfield 335, 3) := by decide +kernel
theorem dX7_wayBy_14 : decode cX7_wayBy 14 = .ok (.goto 31, 3) := by decide +kernel
theorem dX7_wayBy_17 : decode cX7_wayBy 17 = .ok (.iload_n 2, 1) := by decide +kernel
theorem dX7_wayBy_18 : decode cX7_wayBy 18 = .ok (.iconst 1, 1) := by decide +kernel
theorem dX7_wayBy_19 : decode cX7_wayBy 19 = .ok (.if_icmp .ne 10, 3) := by decide +kernel
theorem dX7_wayBy_22 : decode cX7_wayBy 22 = .ok (.aload_n 0, 1) := by decide +kernel
theorem dX7_wayBy_23 : decode cX7_wayBy 23 = .ok (.getfield 345, 3) := by decide +kernel
theorem dX7_wayBy_26 : decode cX7_wayBy 26 = .ok (.goto 19, 3) := by decide +kernel
theorem dX7_wayBy_29 : decode cX7_wayBy 29 = .ok (.iload_n 2, 1) := by decide +kernel
theorem dX7_wayBy_30 : decode cX7_wayBy 30 = .ok (.iconst 2, 1) := by decide +kernel
theorem dX7_wayBy_31 : decode cX7_wayBy 31 = .ok (.if_icmp .ne 10, 3) := by decide +kernel
theorem dX7_wayBy_34 : decode cX7_wayBy 34 = .ok (.aload_n 0, 1) := by decide +kernel
theorem dX7_wayBy_35 : decode cX7_wayBy 35 = .ok (.getfield 338, 3) := by decide +kernel
theorem dX7_wayBy_38 : decode cX7_wayBy 38 = .ok (.goto 7, 3) := by decide +kernel
theorem dX7_wayBy_41 : decode cX7_wayBy 41 = .ok (.aload_n 0, 1) := by decide +kernel
theorem dX7_wayBy_42 : decode cX7_wayBy 42 = .ok (.invokevirtual 357, 3) := by decide +kernel
theorem dX7_wayBy_45 : decode cX7_wayBy 45 = .ok (.ireturn, 1) := by decide +kernel
theorem dX7_solved_0 : decode cX7_solved 0 = .ok (.aload_n 0, 1) := by decide +kernel
theorem dX7_solved_1 : decode cX7_solved 1 = .ok (.invokevirtual 271, 3) := by decide +kernel
theorem dX7_solved_4 : decode cX7_solved 4 = .ok (.iload_n 1, 1) := by decide +kernel
theorem dX7_solved_5 : decode cX7_solved 5 = .ok (.i2l, 1) := by decide +kernel
theorem dX7_solved_6 : decode cX7_solved 6 = .ok (.lconst 0, 1) := by decide +kernel
theorem dX7_solved_7 : decode cX7_solved 7 = .ok (.ldc2_w 102, 3) := by decide +kernel
theorem dX7_solved_10 : decode cX7_solved 10 = .ok (.invokestatic 94, 3) := by decide +kernel
theorem dX7_solved_13 : decode cX7_solved 13 = .ok (.ifCond .eq 12, 3) := by decide +kernel
theorem dX7_solved_16 : decode cX7_solved 16 = .ok (.aload_n 0, 1) := by decide +kernel
theorem dX7_solved_17 : decode cX7_solved 17 = .ok (.iconst 0, 1) := by decide +kernel
theorem dX7_solved_18 : decode cX7_solved 18 = .ok (.iload_n 1, 1) := by decide +kernel
theorem dX7_solved_19 : decode cX7_solved 19 = .ok (.invokevirtual 360, 3) := by decide +kernel
theorem dX7_solved_22 : decode cX7_solved 22 = .ok (.goto 5, 3) := by decide +kernel
theorem dX7_solved_25 : decode cX7_solved 25 = .ok (.bipush (-2), 2) := by decide +kernel
theorem dX7_solved_27 : decode cX7_solved 27 = .ok (.ireturn, 1) := by decide +kernel
theorem dX7_way_0 : decode cX7_way 0 = .ok (.aload_n 0, 1) := by decide +kernel
theorem dX7_way_1 : decode cX7_way 1 = .ok (.invokevirtual 271, 3) := by decide +kernel
theorem dX7_way_4 : decode cX7_way 4 = .ok (.iload_n 1, 1) := by decide +kernel
theorem dX7_way_5 : decode cX7_way 5 = .ok (.i2l, 1) := by decide +kernel
theorem dX7_way_6 : decode cX7_way 6 = .ok (.lconst 0, 1) := by decide +kernel
theorem dX7_way_7 : decode cX7_way 7 = .ok (.ldc2_w 363, 3) := by decide +kernel
theorem dX7_way_10 : decode cX7_way 10 = .ok (.invokestatic 94, 3) := by decide +kernel
theorem dX7_way_13 : decode cX7_way 13 = .ok (.ifCond .eq 24, 3) := by decide +kernel
theorem dX7_way_16 : decode cX7_way 16 = .ok (.iload_n 2, 1) := by decide +kernel
theorem dX7_way_17 : decode cX7_way 17 = .ok (.i2l, 1) := by decide +kernel
theorem dX7_way_18 : decode cX7_way 18 = .ok (.lconst 0, 1) := by decide +kernel
theorem dX7_way_19 : decode cX7_way 19 = .ok (.ldc2_w 102, 3) := by decide +kernel
theorem dX7_way_22 : decode cX7_way 22 = .ok (.invokestatic 94, 3) := by decide +kernel
theorem dX7_way_25 : decode cX7_way 25 = .ok (.ifCond .eq 12, 3) := by decide +kernel
theorem dX7_way_28 : decode cX7_way 28 = .ok (.aload_n 0, 1) := by decide +kernel
theorem dX7_way_29 : decode cX7_way 29 = .ok (.iload_n 1, 1) := by decide +kernel
theorem dX7_way_30 : decode cX7_way 30 = .ok (.iload_n 2, 1) := by decide +kernel
theorem dX7_way_31 : decode cX7_way 31 = .ok (.invokevirtual 360, 3) := by decide +kernel
theorem dX7_way_34 : decode cX7_way 34 = .ok (.goto 5, 3) := by decide +kernel
theorem dX7_way_37 : decode cX7_way 37 = .ok (.bipush (-2), 2) := by decide +kernel
theorem dX7_way_39 : decode cX7_way 39 = .ok (.ireturn, 1) := by decide +kernel
theorem dX7_tellsValue_0 : decode cX7_tellsValue 0 = .ok (.aload_n 0, 1) := by decide +kernel
theorem dX7_tellsValue_1 : decode cX7_tellsValue 1 = .ok (.iconst 0, 1) := by decide +kernel
theorem dX7_tellsValue_2 : decode cX7_tellsValue 2 = .ok (.iconst (-1), 1) := by decide +kernel
theorem dX7_tellsValue_3 : decode cX7_tellsValue 3 = .ok (.invokevirtual 354, 3) := by decide +kernel
theorem dX7_tellsValue_6 : decode cX7_tellsValue 6 = .ok (.aload_n 0, 1) := by decide +kernel
theorem dX7_tellsValue_7 : decode cX7_tellsValue 7 = .ok (.iconst 0, 1) := by decide +kernel
theorem dX7_tellsValue_8 : decode cX7_tellsValue 8 = .ok (.putfield 204, 3) := by decide +kernel
theorem dX7_tellsValue_11 : decode cX7_tellsValue 11 = .ok (.aload_n 0, 1) := by decide +kernel
theorem dX7_tellsValue_12 : decode cX7_tellsValue 12 = .ok (.getfield 335, 3) := by decide +kernel
theorem dX7_tellsValue_15 : decode cX7_tellsValue 15 = .ok (.ifCond .ne 24, 3) := by decide +kernel
theorem dX7_tellsValue_18 : decode cX7_tellsValue 18 = .ok (.aload_n 0, 1) := by decide +kernel
theorem dX7_tellsValue_19 : decode cX7_tellsValue 19 = .ok (.getfield 55, 3) := by decide +kernel
theorem dX7_tellsValue_22 : decode cX7_tellsValue 22 = .ok (.iload_n 1, 1) := by decide +kernel
theorem dX7_tellsValue_23 : decode cX7_tellsValue 23 = .ok (.iaload, 1) := by decide +kernel
theorem dX7_tellsValue_24 : decode cX7_tellsValue 24 = .ok (.iconst (-1), 1) := by decide +kernel
theorem dX7_tellsValue_25 : decode cX7_tellsValue 25 = .ok (.if_icmp .ne 14, 3) := by decide +kernel
theorem dX7_tellsValue_28 : decode cX7_tellsValue 28 = .ok (.aload_n 0, 1) := by decide +kernel
theorem dX7_tellsValue_29 : decode cX7_tellsValue 29 = .ok (.bipush 80, 2) := by decide +kernel
theorem dX7_tellsValue_31 : decode cX7_tellsValue 31 = .ok (.iload_n 1, 1) := by decide +kernel
theorem dX7_tellsValue_32 : decode cX7_tellsValue 32 = .ok (.iadd, 1) := by decide +kernel
theorem dX7_tellsValue_33 : decode cX7_tellsValue 33 = .ok (.invokevirtual 207, 3) := by decide +kernel
theorem dX7_tellsValue_36 : decode cX7_tellsValue 36 = .ok (.goto 27, 3) := by decide +kernel
theorem dX7_tellsValue_39 : decode cX7_tellsValue 39 = .ok (.aload_n 0, 1) := by decide +kernel
theorem dX7_tellsValue_40 : decode cX7_tellsValue 40 = .ok (.getfield 335, 3) := by decide +kernel
theorem dX7_tellsValue_43 : decode cX7_tellsValue 43 = .ok (.ifCond .ne 20, 3) := by decide +kernel
theorem dX7_tellsValue_46 : decode cX7_tellsValue 46 = .ok (.aload_n 0, 1) := by decide +kernel
theorem dX7_tellsValue_47 : decode cX7_tellsValue 47 = .ok (.aload_n 0, 1) := by decide +kernel
theorem dX7_tellsValue_48 : decode cX7_tellsValue 48 = .ok (.getfield 55, 3) := by decide +kernel
theorem dX7_tellsValue_51 : decode cX7_tellsValue 51 = .ok (.iload_n 1, 1) := by decide +kernel
theorem dX7_tellsValue_52 : decode cX7_tellsValue 52 = .ok (.iaload, 1) := by decide +kernel
theorem dX7_tellsValue_53 : decode cX7_tellsValue 53 = .ok (.aload_n 0, 1) := by decide +kernel
theorem dX7_tellsValue_54 : decode cX7_tellsValue 54 = .ok (.getfield 58, 3) := by decide +kernel
theorem dX7_tellsValue_57 : decode cX7_tellsValue 57 = .ok (.iload_n 1, 1) := by decide +kernel
theorem dX7_tellsValue_58 : decode cX7_tellsValue 58 = .ok (.iaload, 1) := by decide +kernel
theorem dX7_tellsValue_59 : decode cX7_tellsValue 59 = .ok (.iconst 1, 1) := by decide +kernel
theorem dX7_tellsValue_60 : decode cX7_tellsValue 60 = .ok (.invokevirtual 280, 3) := by decide +kernel
theorem dX7_tellsValue_63 : decode cX7_tellsValue 63 = .ok (.return_, 1) := by decide +kernel
theorem dX7_valueBy_0 : decode cX7_valueBy 0 = .ok (.aload_n 0, 1) := by decide +kernel
theorem dX7_valueBy_1 : decode cX7_valueBy 1 = .ok (.iload_n 1, 1) := by decide +kernel
theorem dX7_valueBy_2 : decode cX7_valueBy 2 = .ok (.invokevirtual 365, 3) := by decide +kernel
theorem dX7_valueBy_5 : decode cX7_valueBy 5 = .ok (.aload_n 0, 1) := by decide +kernel
theorem dX7_valueBy_6 : decode cX7_valueBy 6 = .ok (.iload_n 2, 1) := by decide +kernel
theorem dX7_valueBy_7 : decode cX7_valueBy 7 = .ok (.invokevirtual 226, 3) := by decide +kernel
theorem dX7_valueBy_10 : decode cX7_valueBy 10 = .ok (.ireturn, 1) := by decide +kernel
theorem dX7_value_0 : decode cX7_value 0 = .ok (.aload_n 0, 1) := by decide +kernel
theorem dX7_value_1 : decode cX7_value 1 = .ok (.invokevirtual 271, 3) := by decide +kernel
theorem dX7_value_4 : decode cX7_value 4 = .ok (.iload_n 1, 1) := by decide +kernel
theorem dX7_value_5 : decode cX7_value 5 = .ok (.invokestatic 185, 3) := by decide +kernel
theorem dX7_value_8 : decode cX7_value 8 = .ok (.ifCond .eq 26, 3) := by decide +kernel
theorem dX7_value_11 : decode cX7_value 11 = .ok (.iload_n 2, 1) := by decide +kernel
theorem dX7_value_12 : decode cX7_value 12 = .ok (.i2l, 1) := by decide +kernel
theorem dX7_value_13 : decode cX7_value 13 = .ok (.ldc2_w 229, 3) := by decide +kernel
theorem dX7_value_16 : decode cX7_value 16 = .ok (.ldc2_w 231, 3) := by decide +kernel
theorem dX7_value_19 : decode cX7_value 19 = .ok (.invokestatic 94, 3) := by decide +kernel
theorem dX7_value_22 : decode cX7_value 22 = .ok (.ifCond .eq 12, 3) := by decide +kernel
theorem dX7_value_25 : decode cX7_value 25 = .ok (.aload_n 0, 1) := by decide +kernel
theorem dX7_value_26 : decode cX7_value 26 = .ok (.iload_n 1, 1) := by decide +kernel
theorem dX7_value_27 : decode cX7_value 27 = .ok (.iload_n 2, 1) := by decide +kernel
theorem dX7_value_28 : decode cX7_value 28 = .ok (.invokevirtual 368, 3) := by decide +kernel
theorem dX7_value_31 : decode cX7_value 31 = .ok (.goto 5, 3) := by decide +kernel
theorem dX7_value_34 : decode cX7_value 34 = .ok (.bipush (-2), 2) := by decide +kernel
theorem dX7_value_36 : decode cX7_value 36 = .ok (.ireturn, 1) := by decide +kernel
theorem dX7_freshBy_0 : decode cX7_freshBy 0 = .ok (.aload_n 0, 1) := by decide +kernel
theorem dX7_freshBy_1 : decode cX7_freshBy 1 = .ok (.iconst 0, 1) := by decide +kernel
theorem dX7_freshBy_2 : decode cX7_freshBy 2 = .ok (.iconst (-1), 1) := by decide +kernel
theorem dX7_freshBy_3 : decode cX7_freshBy 3 = .ok (.invokevirtual 354, 3) := by decide +kernel
theorem dX7_freshBy_6 : decode cX7_freshBy 6 = .ok (.aload_n 0, 1) := by decide +kernel
theorem dX7_freshBy_7 : decode cX7_freshBy 7 = .ok (.getfield 335, 3) := by decide +kernel
theorem dX7_freshBy_10 : decode cX7_freshBy 10 = .ok (.ifCond .ne 13, 3) := by decide +kernel
theorem dX7_freshBy_13 : decode cX7_freshBy 13 = .ok (.aload_n 0, 1) := by decide +kernel
theorem dX7_freshBy_14 : decode cX7_freshBy 14 = .ok (.getfield 55, 3) := by decide +kernel
theorem dX7_freshBy_17 : decode cX7_freshBy 17 = .ok (.iload_n 1, 1) := by decide +kernel
theorem dX7_freshBy_18 : decode cX7_freshBy 18 = .ok (.iaload, 1) := by decide +kernel
theorem dX7_freshBy_19 : decode cX7_freshBy 19 = .ok (.iconst (-1), 1) := by decide +kernel
theorem dX7_freshBy_20 : decode cX7_freshBy 20 = .ok (.if_icmp .eq 7, 3) := by decide +kernel
theorem dX7_freshBy_23 : decode cX7_freshBy 23 = .ok (.iconst 0, 1) := by decide +kernel
theorem dX7_freshBy_24 : decode cX7_freshBy 24 = .ok (.goto 9, 3) := by decide +kernel
theorem dX7_freshBy_27 : decode cX7_freshBy 27 = .ok (.aload_n 0, 1) := by decide +kernel
theorem dX7_freshBy_28 : decode cX7_freshBy 28 = .ok (.getfield 64, 3) := by decide +kernel
theorem dX7_freshBy_31 : decode cX7_freshBy 31 = .ok (.iload_n 1, 1) := by decide +kernel
theorem dX7_freshBy_32 : decode cX7_freshBy 32 = .ok (.iaload, 1) := by decide +kernel
theorem dX7_freshBy_33 : decode cX7_freshBy 33 = .ok (.ireturn, 1) := by decide +kernel
theorem dX7_fresh_0 : decode cX7_fresh 0 = .ok (.aload_n 0, 1) := by decide +kernel
theorem dX7_fresh_1 : decode cX7_fresh 1 = .ok (.invokevirtual 271, 3) := by decide +kernel
theorem dX7_fresh_4 : decode cX7_fresh 4 = .ok (.iload_n 1, 1) := by decide +kernel
theorem dX7_fresh_5 : decode cX7_fresh 5 = .ok (.invokestatic 185, 3) := by decide +kernel
theorem dX7_fresh_8 : decode cX7_fresh 8 = .ok (.ifCond .eq 11, 3) := by decide +kernel
theorem dX7_fresh_11 : decode cX7_fresh 11 = .ok (.aload_n 0, 1) := by decide +kernel
theorem dX7_fresh_12 : decode cX7_fresh 12 = .ok (.iload_n 1, 1) := by decide +kernel
theorem dX7_fresh_13 : decode cX7_fresh 13 = .ok (.invokevirtual 371, 3) := by decide +kernel
theorem dX7_fresh_16 : decode cX7_fresh 16 = .ok (.goto 5, 3) := by decide +kernel
theorem dX7_fresh_19 : decode cX7_fresh 19 = .ok (.bipush (-2), 2) := by decide +kernel
theorem dX7_fresh_21 : decode cX7_fresh 21 = .ok (.ireturn, 1) := by decide +kernel
theorem dX7_needsBy_0 : decode cX7_needsBy 0 = .ok (.aload_n 0, 1) := by decide +kernel
theorem dX7_needsBy_1 : decode cX7_needsBy 1 = .ok (.iconst 0, 1) := by decide +kernel
theorem dX7_needsBy_2 : decode cX7_needsBy 2 = .ok (.iconst (-1), 1) := by decide +kernel
theorem dX7_needsBy_3 : decode cX7_needsBy 3 = .ok (.invokevirtual 354, 3) := by decide +kernel
theorem dX7_needsBy_6 : decode cX7_needsBy 6 = .ok (.aload_n 0, 1) := by decide +kernel
theorem dX7_needsBy_7 : decode cX7_needsBy 7 = .ok (.getfield 335, 3) := by decide +kernel
theorem dX7_needsBy_10 : decode cX7_needsBy 10 = .ok (.ifCond .eq 5, 3) := by decide +kernel
theorem dX7_needsBy_13 : decode cX7_needsBy 13 = .ok (.iconst 0, 1) := by decide +kernel
theorem dX7_needsBy_14 : decode cX7_needsBy 14 = .ok (.ireturn, 1) := by decide +kernel
theorem dX7_needsBy_15 : decode cX7_needsBy 15 = .ok (.aload_n 0, 1) := by decide +kernel
theorem dX7_needsBy_16 : decode cX7_needsBy 16 = .ok (.getfield 55, 3) := by decide +kernel
theorem dX7_needsBy_19 : decode cX7_needsBy 19 = .ok (.iload_n 1, 1) := by decide +kernel
theorem dX7_needsBy_20 : decode cX7_needsBy 20 = .ok (.iaload, 1) := by decide +kernel
theorem dX7_needsBy_21 : decode cX7_needsBy 21 = .ok (.iconst (-1), 1) := by decide +kernel
theorem dX7_needsBy_22 : decode cX7_needsBy 22 = .ok (.if_icmp .ne 9, 3) := by decide +kernel
theorem dX7_needsBy_25 : decode cX7_needsBy 25 = .ok (.iconst 1, 1) := by decide +kernel
theorem dX7_needsBy_26 : decode cX7_needsBy 26 = .ok (.iload_n 1, 1) := by decide +kernel
theorem dX7_needsBy_27 : decode cX7_needsBy 27 = .ok (.ishl, 1) := by decide +kernel
theorem dX7_needsBy_28 : decode cX7_needsBy 28 = .ok (.goto 13, 3) := by decide +kernel
theorem dX7_needsBy_31 : decode cX7_needsBy 31 = .ok (.aload_n 0, 1) := by decide +kernel
theorem dX7_needsBy_32 : decode cX7_needsBy 32 = .ok (.aload_n 0, 1) := by decide +kernel
theorem dX7_needsBy_33 : decode cX7_needsBy 33 = .ok (.getfield 55, 3) := by decide +kernel
theorem dX7_needsBy_36 : decode cX7_needsBy 36 = .ok (.iload_n 1, 1) := by decide +kernel
theorem dX7_needsBy_37 : decode cX7_needsBy 37 = .ok (.iaload, 1) := by decide +kernel
theorem dX7_needsBy_38 : decode cX7_needsBy 38 = .ok (.invokevirtual 329, 3) := by decide +kernel
theorem dX7_needsBy_41 : decode cX7_needsBy 41 = .ok (.istore_n 2, 1) := by decide +kernel
theorem dX7_needsBy_42 : decode cX7_needsBy 42 = .ok (.iconst 0, 1) := by decide +kernel
theorem dX7_needsBy_43 : decode cX7_needsBy 43 = .ok (.istore_n 3, 1) := by decide +kernel
theorem dX7_needsBy_44 : decode cX7_needsBy 44 = .ok (.iload_n 3, 1) := by decide +kernel
theorem dX7_needsBy_45 : decode cX7_needsBy 45 = .ok (.bipush 6, 2) := by decide +kernel
theorem dX7_needsBy_47 : decode cX7_needsBy 47 = .ok (.if_icmp .ge 31, 3) := by decide +kernel
theorem dX7_needsBy_50 : decode cX7_needsBy 50 = .ok (.iload_n 2, 1) := by decide +kernel
theorem dX7_needsBy_51 : decode cX7_needsBy 51 = .ok (.aload_n 0, 1) := by decide +kernel
theorem dX7_needsBy_52 : decode cX7_needsBy 52 = .ok (.getfield 55, 3) := by decide +kernel
theorem dX7_needsBy_55 : decode cX7_needsBy 55 = .ok (.iload_n 3, 1) := by decide +kernel
theorem dX7_needsBy_56 : decode cX7_needsBy 56 = .ok (.iaload, 1) := by decide +kernel
theorem dX7_needsBy_57 : decode cX7_needsBy 57 = .ok (.iconst (-1), 1) := by decide +kernel
theorem dX7_needsBy_58 : decode cX7_needsBy 58 = .ok (.if_icmp .ne 7, 3) := by decide +kernel
theorem dX7_needsBy_61 : decode cX7_needsBy 61 = .ok (.iconst (-1), 1) := by decide +kernel
theorem dX7_needsBy_62 : decode cX7_needsBy 62 = .ok (.goto 8, 3) := by decide +kernel
theorem dX7_needsBy_65 : decode cX7_needsBy 65 = .ok (.iconst 1, 1) := by decide +kernel
theorem dX7_needsBy_66 : decode cX7_needsBy 66 = .ok (.iload_n 3, 1) := by decide +kernel
theorem dX7_needsBy_67 : decode cX7_needsBy 67 = .ok (.ishl, 1) := by decide +kernel
theorem dX7_needsBy_68 : decode cX7_needsBy 68 = .ok (.iconst (-1), 1) := by decide +kernel
theorem dX7_needsBy_69 : decode cX7_needsBy 69 = .ok (.ixor, 1) := by decide +kernel
theorem dX7_needsBy_70 : decode cX7_needsBy 70 = .ok (.iand, 1) := by decide +kernel
theorem dX7_needsBy_71 : decode cX7_needsBy 71 = .ok (.istore_n 2, 1) := by decide +kernel
theorem dX7_needsBy_72 : decode cX7_needsBy 72 = .ok (.iinc 3 1, 3) := by decide +kernel
theorem dX7_needsBy_75 : decode cX7_needsBy 75 = .ok (.goto (-31), 3) := by decide +kernel
theorem dX7_needsBy_78 : decode cX7_needsBy 78 = .ok (.iload_n 2, 1) := by decide +kernel
theorem dX7_needsBy_79 : decode cX7_needsBy 79 = .ok (.ireturn, 1) := by decide +kernel
theorem dX7_needs_0 : decode cX7_needs 0 = .ok (.aload_n 0, 1) := by decide +kernel
theorem dX7_needs_1 : decode cX7_needs 1 = .ok (.invokevirtual 271, 3) := by decide +kernel
theorem dX7_needs_4 : decode cX7_needs 4 = .ok (.iload_n 1, 1) := by decide +kernel
theorem dX7_needs_5 : decode cX7_needs 5 = .ok (.invokestatic 185, 3) := by decide +kernel
theorem dX7_needs_8 : decode cX7_needs 8 = .ok (.ifCond .eq 11, 3) := by decide +kernel
theorem dX7_needs_11 : decode cX7_needs 11 = .ok (.aload_n 0, 1) := by decide +kernel
theorem dX7_needs_12 : decode cX7_needs 12 = .ok (.iload_n 1, 1) := by decide +kernel
theorem dX7_needs_13 : decode cX7_needs 13 = .ok (.invokevirtual 374, 3) := by decide +kernel
theorem dX7_needs_16 : decode cX7_needs 16 = .ok (.goto 5, 3) := by decide +kernel
theorem dX7_needs_19 : decode cX7_needs 19 = .ok (.bipush (-2), 2) := by decide +kernel
theorem dX7_needs_21 : decode cX7_needs 21 = .ok (.ireturn, 1) := by decide +kernel
theorem dX7_spareNow_0 : decode cX7_spareNow 0 = .ok (.aload_n 0, 1) := by decide +kernel
theorem dX7_spareNow_1 : decode cX7_spareNow 1 = .ok (.iconst 0, 1) := by decide +kernel
theorem dX7_spareNow_2 : decode cX7_spareNow 2 = .ok (.iconst (-1), 1) := by decide +kernel
theorem dX7_spareNow_3 : decode cX7_spareNow 3 = .ok (.invokevirtual 354, 3) := by decide +kernel
theorem dX7_spareNow_6 : decode cX7_spareNow 6 = .ok (.aload_n 0, 1) := by decide +kernel
theorem dX7_spareNow_7 : decode cX7_spareNow 7 = .ok (.getfield 335, 3) := by decide +kernel
theorem dX7_spareNow_10 : decode cX7_spareNow 10 = .ok (.ifCond .ne 5, 3) := by decide +kernel
theorem dX7_spareNow_13 : decode cX7_spareNow 13 = .ok (.iconst (-1), 1) := by decide +kernel
theorem dX7_spareNow_14 : decode cX7_spareNow 14 = .ok (.ireturn, 1) := by decide +kernel
theorem dX7_spareNow_15 : decode cX7_spareNow 15 = .ok (.iconst 0, 1) := by decide +kernel
theorem dX7_spareNow_16 : decode cX7_spareNow 16 = .ok (.istore_n 1, 1) := by decide +kernel
theorem dX7_spareNow_17 : decode cX7_spareNow 17 = .ok (.iload_n 1, 1) := by decide +kernel
theorem dX7_spareNow_18 : decode cX7_spareNow 18 = .ok (.iconst 4, 1) := by decide +kernel
theorem dX7_spareNow_19 : decode cX7_spareNow 19 = .ok (.if_icmp .ge 24, 3) := by decide +kernel
theorem dX7_spareNow_22 : decode cX7_spareNow 22 = .ok (.aload_n 0, 1) := by decide +kernel
theorem dX7_spareNow_23 : decode cX7_spareNow 23 = .ok (.iconst 0, 1) := by decide +kernel
theorem dX7_spareNow_24 : decode cX7_spareNow 24 = .ok (.iload_n 1, 1) := by decide +kernel
theorem dX7_spareNow_25 : decode cX7_spareNow 25 = .ok (.invokevirtual 354, 3) := by decide +kernel
theorem dX7_spareNow_28 : decode cX7_spareNow 28 = .ok (.aload_n 0, 1) := by decide +kernel
theorem dX7_spareNow_29 : decode cX7_spareNow 29 = .ok (.getfield 335, 3) := by decide +kernel
theorem dX7_spareNow_32 : decode cX7_spareNow 32 = .ok (.ifCond .ne 5, 3) := by decide +kernel
theorem dX7_spareNow_35 : decode cX7_spareNow 35 = .ok (.iload_n 1, 1) := by decide +kernel
theorem dX7_spareNow_36 : decode cX7_spareNow 36 = .ok (.ireturn, 1) := by decide +kernel
theorem dX7_spareNow_37 : decode cX7_spareNow 37 = .ok (.iinc 1 1, 3) := by decide +kernel
theorem dX7_spareNow_40 : decode cX7_spareNow 40 = .ok (.goto (-23), 3) := by decide +kernel
theorem dX7_spareNow_43 : decode cX7_spareNow 43 = .ok (.iconst (-1), 1) := by decide +kernel
theorem dX7_spareNow_44 : decode cX7_spareNow 44 = .ok (.ireturn, 1) := by decide +kernel
theorem dX7_spare_0 : decode cX7_spare 0 = .ok (.aload_n 0, 1) := by decide +kernel
theorem dX7_spare_1 : decode cX7_spare 1 = .ok (.invokevirtual 271, 3) := by decide +kernel
theorem dX7_spare_4 : decode cX7_spare 4 = .ok (.aload_n 0, 1) := by decide +kernel
theorem dX7_spare_5 : decode cX7_spare 5 = .ok (.invokevirtual 377, 3) := by decide +kernel
theorem dX7_spare_8 : decode cX7_spare 8 = .ok (.ireturn, 1) := by decide +kernel
theorem dX7_write_0 : decode cX7_write 0 = .ok (.iload_n 1, 1) := by decide +kernel
theorem dX7_write_1 : decode cX7_write 1 = .ok (.invokestatic 185, 3) := by decide +kernel
theorem dX7_write_4 : decode cX7_write 4 = .ok (.ifCond .eq 10, 3) := by decide +kernel
theorem dX7_write_7 : decode cX7_write 7 = .ok (.iload_n 2, 1) := by decide +kernel
theorem dX7_write_8 : decode cX7_write 8 = .ok (.invokestatic 104, 3) := by decide +kernel
theorem dX7_write_11 : decode cX7_write 11 = .ok (.ifCond .ne 6, 3) := by decide +kernel
theorem dX7_write_14 : decode cX7_write 14 = .ok (.bipush (-2), 2) := by decide +kernel
theorem dX7_write_16 : decode cX7_write 16 = .ok (.ireturn, 1) := by decide +kernel
theorem dX7_write_17 : decode cX7_write 17 = .ok (.aload_n 0, 1) := by decide +kernel
theorem dX7_write_18 : decode cX7_write 18 = .ok (.getfield 7, 3) := by decide +kernel
theorem dX7_write_21 : decode cX7_write 21 = .ok (.iload_n 2, 1) := by decide +kernel
theorem dX7_write_22 : decode cX7_write 22 = .ok (.iaload, 1) := by decide +kernel
theorem dX7_write_23 : decode cX7_write 23 = .ok (.ifCond .ge 9, 3) := by decide +kernel
theorem dX7_write_26 : decode cX7_write 26 = .ok (.aload_n 0, 1) := by decide +kernel
theorem dX7_write_27 : decode cX7_write 27 = .ok (.iconst 1, 1) := by decide +kernel
theorem dX7_write_28 : decode cX7_write 28 = .ok (.invokevirtual 110, 3) := by decide +kernel
theorem dX7_write_31 : decode cX7_write 31 = .ok (.ireturn, 1) := by decide +kernel
theorem dX7_write_32 : decode cX7_write 32 = .ok (.aload_n 0, 1) := by decide +kernel
theorem dX7_write_33 : decode cX7_write 33 = .ok (.invokevirtual 271, 3) := by decide +kernel
theorem dX7_write_36 : decode cX7_write 36 = .ok (.aload_n 0, 1) := by decide +kernel
theorem dX7_write_37 : decode cX7_write 37 = .ok (.iload_n 1, 1) := by decide +kernel
theorem dX7_write_38 : decode cX7_write 38 = .ok (.invokevirtual 365, 3) := by decide +kernel
theorem dX7_write_41 : decode cX7_write 41 = .ok (.aload_n 0, 1) := by decide +kernel
theorem dX7_write_42 : decode cX7_write 42 = .ok (.getfield 13, 3) := by decide +kernel
theorem dX7_write_45 : decode cX7_write 45 = .ok (.iload_n 2, 1) := by decide +kernel
theorem dX7_write_46 : decode cX7_write 46 = .ok (.iaload, 1) := by decide +kernel
theorem dX7_write_47 : decode cX7_write 47 = .ok (.aload_n 0, 1) := by decide +kernel
theorem dX7_write_48 : decode cX7_write 48 = .ok (.getfield 204, 3) := by decide +kernel
theorem dX7_write_51 : decode cX7_write 51 = .ok (.invokestatic 380, 3) := by decide +kernel
theorem dX7_write_54 : decode cX7_write 54 = .ok (.istore_n 3, 1) := by decide +kernel
theorem dX7_write_55 : decode cX7_write 55 = .ok (.iconst 0, 1) := by decide +kernel
theorem dX7_write_56 : decode cX7_write 56 = .ok (.istore 4, 2) := by decide +kernel
theorem dX7_write_58 : decode cX7_write 58 = .ok (.iload 4, 2) := by decide +kernel
theorem dX7_write_60 : decode cX7_write 60 = .ok (.iload_n 3, 1) := by decide +kernel
theorem dX7_write_61 : decode cX7_write 61 = .ok (.if_icmp .ge 37, 3) := by decide +kernel
theorem dX7_write_64 : decode cX7_write 64 = .ok (.aload_n 0, 1) := by decide +kernel
theorem dX7_write_65 : decode cX7_write 65 = .ok (.getfield 16, 3) := by decide +kernel
theorem dX7_write_68 : decode cX7_write 68 = .ok (.bipush 60, 2) := by decide +kernel
theorem dX7_write_70 : decode cX7_write 70 = .ok (.iload_n 2, 1) := by decide +kernel
theorem dX7_write_71 : decode cX7_write 71 = .ok (.imul, 1) := by decide +kernel
theorem dX7_write_72 : decode cX7_write 72 = .ok (.iload 4, 2) := by decide +kernel
theorem dX7_write_74 : decode cX7_write 74 = .ok (.iadd, 1) := by decide +kernel
theorem dX7_write_75 : decode cX7_write 75 = .ok (.aload_n 0, 1) := by decide +kernel
theorem dX7_write_76 : decode cX7_write 76 = .ok (.getfield 7, 3) := by decide +kernel
theorem dX7_write_79 : decode cX7_write 79 = .ok (.iload_n 2, 1) := by decide +kernel
theorem dX7_write_80 : decode cX7_write 80 = .ok (.iaload, 1) := by decide +kernel
theorem dX7_write_81 : decode cX7_write 81 = .ok (.aload_n 0, 1) := by decide +kernel
theorem dX7_write_82 : decode cX7_write 82 = .ok (.getfield 46, 3) := by decide +kernel
theorem dX7_write_85 : decode cX7_write 85 = .ok (.iload 4, 2) := by decide +kernel
theorem dX7_write_87 : decode cX7_write 87 = .ok (.iaload, 1) := by decide +kernel
theorem dX7_write_88 : decode cX7_write 88 = .ok (.invokestatic 118, 3) := by decide +kernel
theorem dX7_write_91 : decode cX7_write 91 = .ok (.iastore, 1) := by decide +kernel
theorem dX7_write_92 : decode cX7_write 92 = .ok (.iinc 4 1, 3) := by decide +kernel
theorem dX7_write_95 : decode cX7_write 95 = .ok (.goto (-37), 3) := by decide +kernel
theorem dX7_write_98 : decode cX7_write 98 = .ok (.iload_n 3, 1) := by decide +kernel
theorem dX7_write_99 : decode cX7_write 99 = .ok (.ireturn, 1) := by decide +kernel
theorem dX7_allTyped_0 : decode cX7_allTyped 0 = .ok (.iconst 0, 1) := by decide +kernel
theorem dX7_allTyped_1 : decode cX7_allTyped 1 = .ok (.istore_n 1, 1) := by decide +kernel
theorem dX7_allTyped_2 : decode cX7_allTyped 2 = .ok (.iconst 0, 1) := by decide +kernel
theorem dX7_allTyped_3 : decode cX7_allTyped 3 = .ok (.istore_n 2, 1) := by decide +kernel
theorem dX7_allTyped_4 : decode cX7_allTyped 4 = .ok (.iload_n 2, 1) := by decide +kernel
theorem dX7_allTyped_5 : decode cX7_allTyped 5 = .ok (.bipush 10, 2) := by decide +kernel
theorem dX7_allTyped_7 : decode cX7_allTyped 7 = .ok (.if_icmp .ge 18, 3) := by decide +kernel
theorem dX7_allTyped_10 : decode cX7_allTyped 10 = .ok (.iload_n 1, 1) := by decide +kernel
theorem dX7_allTyped_11 : decode cX7_allTyped 11 = .ok (.aload_n 0, 1) := by decide +kernel
theorem dX7_allTyped_12 : decode cX7_allTyped 12 = .ok (.getfield 25, 3) := by decide +kernel
theorem dX7_allTyped_15 : decode cX7_allTyped 15 = .ok (.iload_n 2, 1) := by decide +kernel
theorem dX7_allTyped_16 : decode cX7_allTyped 16 = .ok (.iaload, 1) := by decide +kernel
theorem dX7_allTyped_17 : decode cX7_allTyped 17 = .ok (.iadd, 1) := by decide +kernel
theorem dX7_allTyped_18 : decode cX7_allTyped 18 = .ok (.istore_n 1, 1) := by decide +kernel
theorem dX7_allTyped_19 : decode cX7_allTyped 19 = .ok (.iinc 2 1, 3) := by decide +kernel
theorem dX7_allTyped_22 : decode cX7_allTyped 22 = .ok (.goto (-18), 3) := by decide +kernel
theorem dX7_allTyped_25 : decode cX7_allTyped 25 = .ok (.iload_n 1, 1) := by decide +kernel
theorem dX7_allTyped_26 : decode cX7_allTyped 26 = .ok (.ireturn, 1) := by decide +kernel
theorem dX7_count_0 : decode cX7_count 0 = .ok (.aload_n 0, 1) := by decide +kernel
theorem dX7_count_1 : decode cX7_count 1 = .ok (.invokevirtual 271, 3) := by decide +kernel
theorem dX7_count_4 : decode cX7_count 4 = .ok (.iload_n 1, 1) := by decide +kernel
theorem dX7_count_5 : decode cX7_count 5 = .ok (.tableswitch 94 0 8 #[51, 51, 51, 51, 65, 70, 77, 84, 89], 51) := by decide +kernel
theorem dX7_count_56 : decode cX7_count 56 = .ok (.aload_n 0, 1) := by decide +kernel
theorem dX7_count_57 : decode cX7_count 57 = .ok (.iload_n 1, 1) := by decide +kernel
theorem dX7_count_58 : decode cX7_count 58 = .ok (.invokevirtual 320, 3) := by decide +kernel
theorem dX7_count_61 : decode cX7_count 61 = .ok (.ifCond .eq 7, 3) := by decide +kernel
theorem dX7_count_64 : decode cX7_count 64 = .ok (.iconst 1, 1) := by decide +kernel
theorem dX7_count_65 : decode cX7_count 65 = .ok (.goto 4, 3) := by decide +kernel
theorem dX7_count_68 : decode cX7_count 68 = .ok (.iconst 0, 1) := by decide +kernel
theorem dX7_count_69 : decode cX7_count 69 = .ok (.ireturn, 1) := by decide +kernel
theorem dX7_count_70 : decode cX7_count 70 = .ok (.aload_n 0, 1) := by decide +kernel
theorem dX7_count_71 : decode cX7_count 71 = .ok (.invokevirtual 383, 3) := by decide +kernel
theorem dX7_count_74 : decode cX7_count 74 = .ok (.ireturn, 1) := by decide +kernel
theorem dX7_count_75 : decode cX7_count 75 = .ok (.aload_n 0, 1) := by decide +kernel
theorem dX7_count_76 : decode cX7_count 76 = .ok (.iconst 0, 1) := by decide +kernel
theorem dX7_count_77 : decode cX7_count 77 = .ok (.iconst 0, 1) := by decide +kernel
theorem dX7_count_78 : decode cX7_count 78 = .ok (.invokevirtual 360, 3) := by decide +kernel
theorem dX7_count_81 : decode cX7_count 81 = .ok (.ireturn, 1) := by decide +kernel
theorem dX7_count_82 : decode cX7_count 82 = .ok (.aload_n 0, 1) := by decide +kernel
theorem dX7_count_83 : decode cX7_count 83 = .ok (.iconst 0, 1) := by decide +kernel
theorem dX7_count_84 : decode cX7_count 84 = .ok (.iconst 2, 1) := by decide +kernel
theorem dX7_count_85 : decode cX7_count 85 = .ok (.invokevirtual 360, 3) := by decide +kernel
theorem dX7_count_88 : decode cX7_count 88 = .ok (.ireturn, 1) := by decide +kernel
theorem dX7_count_89 : decode cX7_count 89 = .ok (.aload_n 0, 1) := by decide +kernel
theorem dX7_count_90 : decode cX7_count 90 = .ok (.invokevirtual 217, 3) := by decide +kernel
theorem dX7_count_93 : decode cX7_count 93 = .ok (.ireturn, 1) := by decide +kernel
theorem dX7_count_94 : decode cX7_count 94 = .ok (.aload_n 0, 1) := by decide +kernel
theorem dX7_count_95 : decode cX7_count 95 = .ok (.getfield 98, 3) := by decide +kernel
theorem dX7_count_98 : decode cX7_count 98 = .ok (.ireturn, 1) := by decide +kernel
theorem dX7_count_99 : decode cX7_count 99 = .ok (.bipush (-2), 2) := by decide +kernel
theorem dX7_count_101 : decode cX7_count 101 = .ok (.ireturn, 1) := by decide +kernel
theorem dX7_tellsTerm_0 : decode cX7_tellsTerm 0 = .ok (.lload_n 1, 1) := by decide +kernel
theorem dX7_tellsTerm_1 : decode cX7_tellsTerm 1 = .ok (.lstore 4, 2) := by decide +kernel
theorem dX7_tellsTerm_3 : decode cX7_tellsTerm 3 = .ok (.iconst 0, 1) := by decide +kernel
theorem dX7_tellsTerm_4 : decode cX7_tellsTerm 4 = .ok (.istore 6, 2) := by decide +kernel
theorem dX7_tellsTerm_6 : decode cX7_tellsTerm 6 = .ok (.iload 6, 2) := by decide +kernel
theorem dX7_tellsTerm_8 : decode cX7_tellsTerm 8 = .ok (.iconst 4, 1) := by decide +kernel
theorem dX7_tellsTerm_9 : decode cX7_tellsTerm 9 = .ok (.if_icmp .ge 26, 3) := by decide +kernel
theorem dX7_tellsTerm_12 : decode cX7_tellsTerm 12 = .ok (.ldc2_w 386, 3) := by decide +kernel
theorem dX7_tellsTerm_15 : decode cX7_tellsTerm 15 = .ok (.lload 4, 2) := by decide +kernel
theorem dX7_tellsTerm_17 : decode cX7_tellsTerm 17 = .ok (.lmul, 1) := by decide +kernel
theorem dX7_tellsTerm_18 : decode cX7_tellsTerm 18 = .ok (.aload_n 0, 1) := by decide +kernel
theorem dX7_tellsTerm_19 : decode cX7_tellsTerm 19 = .ok (.iload_n 3, 1) := by decide +kernel
theorem dX7_tellsTerm_20 : decode cX7_tellsTerm 20 = .ok (.iload 6, 2) := by decide +kernel
theorem dX7_tellsTerm_22 : decode cX7_tellsTerm 22 = .ok (.invokevirtual 277, 3) := by decide +kernel
theorem dX7_tellsTerm_25 : decode cX7_tellsTerm 25 = .ok (.i2l, 1) := by decide +kernel
theorem dX7_tellsTerm_26 : decode cX7_tellsTerm 26 = .ok (.ladd, 1) := by decide +kernel
theorem dX7_tellsTerm_27 : decode cX7_tellsTerm 27 = .ok (.lstore 4, 2) := by decide +kernel
theorem dX7_tellsTerm_29 : decode cX7_tellsTerm 29 = .ok (.iinc 6 1, 3) := by decide +kernel
theorem dX7_tellsTerm_32 : decode cX7_tellsTerm 32 = .ok (.goto (-26), 3) := by decide +kernel
theorem dX7_tellsTerm_35 : decode cX7_tellsTerm 35 = .ok (.iconst (-1), 1) := by decide +kernel
theorem dX7_tellsTerm_36 : decode cX7_tellsTerm 36 = .ok (.istore 6, 2) := by decide +kernel
theorem dX7_tellsTerm_38 : decode cX7_tellsTerm 38 = .ok (.iload 6, 2) := by decide +kernel
theorem dX7_tellsTerm_40 : decode cX7_tellsTerm 40 = .ok (.bipush 30, 2) := by decide +kernel
theorem dX7_tellsTerm_42 : decode cX7_tellsTerm 42 = .ok (.if_icmp .ge 49, 3) := by decide +kernel
theorem dX7_tellsTerm_45 : decode cX7_tellsTerm 45 = .ok (.ldc2_w 386, 3) := by decide +kernel
theorem dX7_tellsTerm_48 : decode cX7_tellsTerm 48 = .ok (.lload 4, 2) := by decide +kernel
theorem dX7_tellsTerm_50 : decode cX7_tellsTerm 50 = .ok (.lmul, 1) := by decide +kernel
theorem dX7_tellsTerm_51 : decode cX7_tellsTerm 51 = .ok (.aload_n 0, 1) := by decide +kernel
theorem dX7_tellsTerm_52 : decode cX7_tellsTerm 52 = .ok (.iload_n 3, 1) := by decide +kernel
theorem dX7_tellsTerm_53 : decode cX7_tellsTerm 53 = .ok (.ldc 154, 2) := by decide +kernel
theorem dX7_tellsTerm_55 : decode cX7_tellsTerm 55 = .ok (.iload 6, 2) := by decide +kernel
theorem dX7_tellsTerm_57 : decode cX7_tellsTerm 57 = .ok (.invokevirtual 284, 3) := by decide +kernel
theorem dX7_tellsTerm_60 : decode cX7_tellsTerm 60 = .ok (.i2l, 1) := by decide +kernel
theorem dX7_tellsTerm_61 : decode cX7_tellsTerm 61 = .ok (.ladd, 1) := by decide +kernel
theorem dX7_tellsTerm_62 : decode cX7_tellsTerm 62 = .ok (.lstore 4, 2) := by decide +kernel
theorem dX7_tellsTerm_64 : decode cX7_tellsTerm 64 = .ok (.ldc2_w 386, 3) := by decide +kernel
theorem dX7_tellsTerm_67 : decode cX7_tellsTerm 67 = .ok (.lload 4, 2) := by decide +kernel
theorem dX7_tellsTerm_69 : decode cX7_tellsTerm 69 = .ok (.lmul, 1) := by decide +kernel
theorem dX7_tellsTerm_70 : decode cX7_tellsTerm 70 = .ok (.aload_n 0, 1) := by decide +kernel
theorem dX7_tellsTerm_71 : decode cX7_tellsTerm 71 = .ok (.iload_n 3, 1) := by decide +kernel
theorem dX7_tellsTerm_72 : decode cX7_tellsTerm 72 = .ok (.aload_n 0, 1) := by decide +kernel
theorem dX7_tellsTerm_73 : decode cX7_tellsTerm 73 = .ok (.getfield 155, 3) := by decide +kernel
theorem dX7_tellsTerm_76 : decode cX7_tellsTerm 76 = .ok (.iload 6, 2) := by decide +kernel
theorem dX7_tellsTerm_78 : decode cX7_tellsTerm 78 = .ok (.invokevirtual 284, 3) := by decide +kernel
theorem dX7_tellsTerm_81 : decode cX7_tellsTerm 81 = .ok (.i2l, 1) := by decide +kernel
theorem dX7_tellsTerm_82 : decode cX7_tellsTerm 82 = .ok (.ladd, 1) := by decide +kernel
theorem dX7_tellsTerm_83 : decode cX7_tellsTerm 83 = .ok (.lstore 4, 2) := by decide +kernel
theorem dX7_tellsTerm_85 : decode cX7_tellsTerm 85 = .ok (.iinc 6 1, 3) := by decide +kernel
theorem dX7_tellsTerm_88 : decode cX7_tellsTerm 88 = .ok (.goto (-50), 3) := by decide +kernel
theorem dX7_tellsTerm_91 : decode cX7_tellsTerm 91 = .ok (.lload 4, 2) := by decide +kernel
theorem dX7_tellsTerm_93 : decode cX7_tellsTerm 93 = .ok (.lreturn, 1) := by decide +kernel
theorem dX7_tellsUnknown_0 : decode cX7_tellsUnknown 0 = .ok (.lload_n 1, 1) := by decide +kernel
theorem dX7_tellsUnknown_1 : decode cX7_tellsUnknown 1 = .ok (.lstore 4, 2) := by decide +kernel
theorem dX7_tellsUnknown_3 : decode cX7_tellsUnknown 3 = .ok (.iconst (-1), 1) := by decide +kernel
theorem dX7_tellsUnknown_4 : decode cX7_tellsUnknown 4 = .ok (.istore 6, 2) := by decide +kernel
theorem dX7_tellsUnknown_6 : decode cX7_tellsUnknown 6 = .ok (.iload 6, 2) := by decide +kernel
theorem dX7_tellsUnknown_8 : decode cX7_tellsUnknown 8 = .ok (.bipush 60, 2) := by decide +kernel
theorem dX7_tellsUnknown_10 : decode cX7_tellsUnknown 10 = .ok (.if_icmp .ge 26, 3) := by decide +kernel
theorem dX7_tellsUnknown_13 : decode cX7_tellsUnknown 13 = .ok (.ldc2_w 386, 3) := by decide +kernel
theorem dX7_tellsUnknown_16 : decode cX7_tellsUnknown 16 = .ok (.lload 4, 2) := by decide +kernel
theorem dX7_tellsUnknown_18 : decode cX7_tellsUnknown 18 = .ok (.lmul, 1) := by decide +kernel
theorem dX7_tellsUnknown_19 : decode cX7_tellsUnknown 19 = .ok (.aload_n 0, 1) := by decide +kernel
theorem dX7_tellsUnknown_20 : decode cX7_tellsUnknown 20 = .ok (.iload_n 3, 1) := by decide +kernel
theorem dX7_tellsUnknown_21 : decode cX7_tellsUnknown 21 = .ok (.iload 6, 2) := by decide +kernel
theorem dX7_tellsUnknown_23 : decode cX7_tellsUnknown 23 = .ok (.invokevirtual 368, 3) := by decide +kernel
theorem dX7_tellsUnknown_26 : decode cX7_tellsUnknown 26 = .ok (.i2l, 1) := by decide +kernel
theorem dX7_tellsUnknown_27 : decode cX7_tellsUnknown 27 = .ok (.ladd, 1) := by decide +kernel
theorem dX7_tellsUnknown_28 : decode cX7_tellsUnknown 28 = .ok (.lstore 4, 2) := by decide +kernel
theorem dX7_tellsUnknown_30 : decode cX7_tellsUnknown 30 = .ok (.iinc 6 1, 3) := by decide +kernel
theorem dX7_tellsUnknown_33 : decode cX7_tellsUnknown 33 = .ok (.goto (-27), 3) := by decide +kernel
theorem dX7_tellsUnknown_36 : decode cX7_tellsUnknown 36 = .ok (.ldc2_w 386, 3) := by decide +kernel
theorem dX7_tellsUnknown_39 : decode cX7_tellsUnknown 39 = .ok (.lload 4, 2) := by decide +kernel
theorem dX7_tellsUnknown_41 : decode cX7_tellsUnknown 41 = .ok (.lmul, 1) := by decide +kernel
theorem dX7_tellsUnknown_42 : decode cX7_tellsUnknown 42 = .ok (.aload_n 0, 1) := by decide +kernel
theorem dX7_tellsUnknown_43 : decode cX7_tellsUnknown 43 = .ok (.iload_n 3, 1) := by decide +kernel
theorem dX7_tellsUnknown_44 : decode cX7_tellsUnknown 44 = .ok (.invokevirtual 371, 3) := by decide +kernel
theorem dX7_tellsUnknown_47 : decode cX7_tellsUnknown 47 = .ok (.i2l, 1) := by decide +kernel
theorem dX7_tellsUnknown_48 : decode cX7_tellsUnknown 48 = .ok (.ladd, 1) := by decide +kernel
theorem dX7_tellsUnknown_49 : decode cX7_tellsUnknown 49 = .ok (.lstore 4, 2) := by decide +kernel
theorem dX7_tellsUnknown_51 : decode cX7_tellsUnknown 51 = .ok (.ldc2_w 386, 3) := by decide +kernel
theorem dX7_tellsUnknown_54 : decode cX7_tellsUnknown 54 = .ok (.lload 4, 2) := by decide +kernel
theorem dX7_tellsUnknown_56 : decode cX7_tellsUnknown 56 = .ok (.lmul, 1) := by decide +kernel
theorem dX7_tellsUnknown_57 : decode cX7_tellsUnknown 57 = .ok (.aload_n 0, 1) := by decide +kernel
theorem dX7_tellsUnknown_58 : decode cX7_tellsUnknown 58 = .ok (.iload_n 3, 1) := by decide +kernel
theorem dX7_tellsUnknown_59 : decode cX7_tellsUnknown 59 = .ok (.invokevirtual 374, 3) := by decide +kernel
theorem dX7_tellsUnknown_62 : decode cX7_tellsUnknown 62 = .ok (.i2l, 1) := by decide +kernel
theorem dX7_tellsUnknown_63 : decode cX7_tellsUnknown 63 = .ok (.ladd, 1) := by decide +kernel
theorem dX7_tellsUnknown_64 : decode cX7_tellsUnknown 64 = .ok (.lreturn, 1) := by decide +kernel
theorem dX7_digest_0 : decode cX7_digest 0 = .ok (.ldc2_w 388, 3) := by decide +kernel
theorem dX7_digest_3 : decode cX7_digest 3 = .ok (.lstore_n 1, 1) := by decide +kernel
theorem dX7_digest_4 : decode cX7_digest 4 = .ok (.iconst 0, 1) := by decide +kernel
theorem dX7_digest_5 : decode cX7_digest 5 = .ok (.istore_n 3, 1) := by decide +kernel
theorem dX7_digest_6 : decode cX7_digest 6 = .ok (.iload_n 3, 1) := by decide +kernel
theorem dX7_digest_7 : decode cX7_digest 7 = .ok (.bipush 8, 2) := by decide +kernel
theorem dX7_digest_9 : decode cX7_digest 9 = .ok (.if_icmp .ge 22, 3) := by decide +kernel
theorem dX7_digest_12 : decode cX7_digest 12 = .ok (.ldc2_w 386, 3) := by decide +kernel
theorem dX7_digest_15 : decode cX7_digest 15 = .ok (.lload_n 1, 1) := by decide +kernel
theorem dX7_digest_16 : decode cX7_digest 16 = .ok (.lmul, 1) := by decide +kernel
theorem dX7_digest_17 : decode cX7_digest 17 = .ok (.aload_n 0, 1) := by decide +kernel
theorem dX7_digest_18 : decode cX7_digest 18 = .ok (.iload_n 3, 1) := by decide +kernel
theorem dX7_digest_19 : decode cX7_digest 19 = .ok (.invokevirtual 390, 3) := by decide +kernel
theorem dX7_digest_22 : decode cX7_digest 22 = .ok (.i2l, 1) := by decide +kernel
theorem dX7_digest_23 : decode cX7_digest 23 = .ok (.ladd, 1) := by decide +kernel
theorem dX7_digest_24 : decode cX7_digest 24 = .ok (.lstore_n 1, 1) := by decide +kernel
theorem dX7_digest_25 : decode cX7_digest 25 = .ok (.iinc 3 1, 3) := by decide +kernel
theorem dX7_digest_28 : decode cX7_digest 28 = .ok (.goto (-22), 3) := by decide +kernel
theorem dX7_digest_31 : decode cX7_digest 31 = .ok (.iconst 0, 1) := by decide +kernel
theorem dX7_digest_32 : decode cX7_digest 32 = .ok (.istore_n 3, 1) := by decide +kernel
theorem dX7_digest_33 : decode cX7_digest 33 = .ok (.iload_n 3, 1) := by decide +kernel
theorem dX7_digest_34 : decode cX7_digest 34 = .ok (.bipush 10, 2) := by decide +kernel
theorem dX7_digest_36 : decode cX7_digest 36 = .ok (.if_icmp .ge 22, 3) := by decide +kernel
theorem dX7_digest_39 : decode cX7_digest 39 = .ok (.ldc2_w 386, 3) := by decide +kernel
theorem dX7_digest_42 : decode cX7_digest 42 = .ok (.lload_n 1, 1) := by decide +kernel
theorem dX7_digest_43 : decode cX7_digest 43 = .ok (.lmul, 1) := by decide +kernel
theorem dX7_digest_44 : decode cX7_digest 44 = .ok (.aload_n 0, 1) := by decide +kernel
theorem dX7_digest_45 : decode cX7_digest 45 = .ok (.iload_n 3, 1) := by decide +kernel
theorem dX7_digest_46 : decode cX7_digest 46 = .ok (.invokevirtual 174, 3) := by decide +kernel
theorem dX7_digest_49 : decode cX7_digest 49 = .ok (.i2l, 1) := by decide +kernel
theorem dX7_digest_50 : decode cX7_digest 50 = .ok (.ladd, 1) := by decide +kernel
theorem dX7_digest_51 : decode cX7_digest 51 = .ok (.lstore_n 1, 1) := by decide +kernel
theorem dX7_digest_52 : decode cX7_digest 52 = .ok (.iinc 3 1, 3) := by decide +kernel
theorem dX7_digest_55 : decode cX7_digest 55 = .ok (.goto (-22), 3) := by decide +kernel
theorem dX7_digest_58 : decode cX7_digest 58 = .ok (.iconst 0, 1) := by decide +kernel
theorem dX7_digest_59 : decode cX7_digest 59 = .ok (.istore_n 3, 1) := by decide +kernel
theorem dX7_digest_60 : decode cX7_digest 60 = .ok (.iload_n 3, 1) := by decide +kernel
theorem dX7_digest_61 : decode cX7_digest 61 = .ok (.bipush 6, 2) := by decide +kernel
theorem dX7_digest_63 : decode cX7_digest 63 = .ok (.if_icmp .ge 66, 3) := by decide +kernel
theorem dX7_digest_66 : decode cX7_digest 66 = .ok (.ldc2_w 386, 3) := by decide +kernel
theorem dX7_digest_69 : decode cX7_digest 69 = .ok (.lload_n 1, 1) := by decide +kernel
theorem dX7_digest_70 : decode cX7_digest 70 = .ok (.lmul, 1) := by decide +kernel
theorem dX7_digest_71 : decode cX7_digest 71 = .ok (.aload_n 0, 1) := by decide +kernel
theorem dX7_digest_72 : decode cX7_digest 72 = .ok (.iload_n 3, 1) := by decide +kernel
theorem dX7_digest_73 : decode cX7_digest 73 = .ok (.iconst 0, 1) := by decide +kernel
theorem dX7_digest_74 : decode cX7_digest 74 = .ok (.invokevirtual 191, 3) := by decide +kernel
theorem dX7_digest_77 : decode cX7_digest 77 = .ok (.i2l, 1) := by decide +kernel
theorem dX7_digest_78 : decode cX7_digest 78 = .ok (.ladd, 1) := by decide +kernel
theorem dX7_digest_79 : decode cX7_digest 79 = .ok (.lstore_n 1, 1) := by decide +kernel
theorem dX7_digest_80 : decode cX7_digest 80 = .ok (.ldc2_w 386, 3) := by decide +kernel
theorem dX7_digest_83 : decode cX7_digest 83 = .ok (.lload_n 1, 1) := by decide +kernel
theorem dX7_digest_84 : decode cX7_digest 84 = .ok (.lmul, 1) := by decide +kernel
theorem dX7_digest_85 : decode cX7_digest 85 = .ok (.aload_n 0, 1) := by decide +kernel
theorem dX7_digest_86 : decode cX7_digest 86 = .ok (.iload_n 3, 1) := by decide +kernel
theorem dX7_digest_87 : decode cX7_digest 87 = .ok (.iconst 1, 1) := by decide +kernel
theorem dX7_digest_88 : decode cX7_digest 88 = .ok (.invokevirtual 191, 3) := by decide +kernel
theorem dX7_digest_91 : decode cX7_digest 91 = .ok (.i2l, 1) := by decide +kernel
theorem dX7_digest_92 : decode cX7_digest 92 = .ok (.ladd, 1) := by decide +kernel
theorem dX7_digest_93 : decode cX7_digest 93 = .ok (.lstore_n 1, 1) := by decide +kernel
theorem dX7_digest_94 : decode cX7_digest 94 = .ok (.ldc2_w 386, 3) := by decide +kernel
theorem dX7_digest_97 : decode cX7_digest 97 = .ok (.lload_n 1, 1) := by decide +kernel
theorem dX7_digest_98 : decode cX7_digest 98 = .ok (.lmul, 1) := by decide +kernel
theorem dX7_digest_99 : decode cX7_digest 99 = .ok (.aload_n 0, 1) := by decide +kernel
theorem dX7_digest_100 : decode cX7_digest 100 = .ok (.iload_n 3, 1) := by decide +kernel
theorem dX7_digest_101 : decode cX7_digest 101 = .ok (.iconst 2, 1) := by decide +kernel
theorem dX7_digest_102 : decode cX7_digest 102 = .ok (.invokevirtual 194, 3) := by decide +kernel
theorem dX7_digest_105 : decode cX7_digest 105 = .ok (.i2l, 1) := by decide +kernel
theorem dX7_digest_106 : decode cX7_digest 106 = .ok (.ladd, 1) := by decide +kernel
theorem dX7_digest_107 : decode cX7_digest 107 = .ok (.lstore_n 1, 1) := by decide +kernel
theorem dX7_digest_108 : decode cX7_digest 108 = .ok (.ldc2_w 386, 3) := by decide +kernel
theorem dX7_digest_111 : decode cX7_digest 111 = .ok (.lload_n 1, 1) := by decide +kernel
theorem dX7_digest_112 : decode cX7_digest 112 = .ok (.lmul, 1) := by decide +kernel
theorem dX7_digest_113 : decode cX7_digest 113 = .ok (.aload_n 0, 1) := by decide +kernel
theorem dX7_digest_114 : decode cX7_digest 114 = .ok (.iload_n 3, 1) := by decide +kernel
theorem dX7_digest_115 : decode cX7_digest 115 = .ok (.bipush (-3), 2) := by decide +kernel
theorem dX7_digest_117 : decode cX7_digest 117 = .ok (.invokevirtual 194, 3) := by decide +kernel
theorem dX7_digest_120 : decode cX7_digest 120 = .ok (.i2l, 1) := by decide +kernel
theorem dX7_digest_121 : decode cX7_digest 121 = .ok (.ladd, 1) := by decide +kernel
theorem dX7_digest_122 : decode cX7_digest 122 = .ok (.lstore_n 1, 1) := by decide +kernel
theorem dX7_digest_123 : decode cX7_digest 123 = .ok (.iinc 3 1, 3) := by decide +kernel
theorem dX7_digest_126 : decode cX7_digest 126 = .ok (.goto (-66), 3) := by decide +kernel
theorem dX7_digest_129 : decode cX7_digest 129 = .ok (.iconst 0, 1) := by decide +kernel
theorem dX7_digest_130 : decode cX7_digest 130 = .ok (.istore_n 3, 1) := by decide +kernel
theorem dX7_digest_131 : decode cX7_digest 131 = .ok (.iload_n 3, 1) := by decide +kernel
theorem dX7_digest_132 : decode cX7_digest 132 = .ok (.iconst 4, 1) := by decide +kernel
theorem dX7_digest_133 : decode cX7_digest 133 = .ok (.if_icmp .ge 22, 3) := by decide +kernel
theorem dX7_digest_136 : decode cX7_digest 136 = .ok (.ldc2_w 386, 3) := by decide +kernel
theorem dX7_digest_139 : decode cX7_digest 139 = .ok (.lload_n 1, 1) := by decide +kernel
theorem dX7_digest_140 : decode cX7_digest 140 = .ok (.lmul, 1) := by decide +kernel
theorem dX7_digest_141 : decode cX7_digest 141 = .ok (.aload_n 0, 1) := by decide +kernel
theorem dX7_digest_142 : decode cX7_digest 142 = .ok (.iload_n 3, 1) := by decide +kernel
theorem dX7_digest_143 : decode cX7_digest 143 = .ok (.invokevirtual 223, 3) := by decide +kernel
theorem dX7_digest_146 : decode cX7_digest 146 = .ok (.i2l, 1) := by decide +kernel
theorem dX7_digest_147 : decode cX7_digest 147 = .ok (.ladd, 1) := by decide +kernel
theorem dX7_digest_148 : decode cX7_digest 148 = .ok (.lstore_n 1, 1) := by decide +kernel
theorem dX7_digest_149 : decode cX7_digest 149 = .ok (.iinc 3 1, 3) := by decide +kernel
theorem dX7_digest_152 : decode cX7_digest 152 = .ok (.goto (-21), 3) := by decide +kernel
theorem dX7_digest_155 : decode cX7_digest 155 = .ok (.iconst (-1), 1) := by decide +kernel
theorem dX7_digest_156 : decode cX7_digest 156 = .ok (.istore_n 3, 1) := by decide +kernel
theorem dX7_digest_157 : decode cX7_digest 157 = .ok (.iload_n 3, 1) := by decide +kernel
theorem dX7_digest_158 : decode cX7_digest 158 = .ok (.bipush 15, 2) := by decide +kernel
theorem dX7_digest_160 : decode cX7_digest 160 = .ok (.if_icmp .ge 22, 3) := by decide +kernel
theorem dX7_digest_163 : decode cX7_digest 163 = .ok (.ldc2_w 386, 3) := by decide +kernel
theorem dX7_digest_166 : decode cX7_digest 166 = .ok (.lload_n 1, 1) := by decide +kernel
theorem dX7_digest_167 : decode cX7_digest 167 = .ok (.lmul, 1) := by decide +kernel
theorem dX7_digest_168 : decode cX7_digest 168 = .ok (.aload_n 0, 1) := by decide +kernel
theorem dX7_digest_169 : decode cX7_digest 169 = .ok (.iload_n 3, 1) := by decide +kernel
theorem dX7_digest_170 : decode cX7_digest 170 = .ok (.invokevirtual 233, 3) := by decide +kernel
theorem dX7_digest_173 : decode cX7_digest 173 = .ok (.i2l, 1) := by decide +kernel
theorem dX7_digest_174 : decode cX7_digest 174 = .ok (.ladd, 1) := by decide +kernel
theorem dX7_digest_175 : decode cX7_digest 175 = .ok (.lstore_n 1, 1) := by decide +kernel
theorem dX7_digest_176 : decode cX7_digest 176 = .ok (.iinc 3 1, 3) := by decide +kernel
theorem dX7_digest_179 : decode cX7_digest 179 = .ok (.goto (-22), 3) := by decide +kernel
theorem dX7_digest_182 : decode cX7_digest 182 = .ok (.iconst 0, 1) := by decide +kernel
theorem dX7_digest_183 : decode cX7_digest 183 = .ok (.istore_n 3, 1) := by decide +kernel
theorem dX7_digest_184 : decode cX7_digest 184 = .ok (.iload_n 3, 1) := by decide +kernel
theorem dX7_digest_185 : decode cX7_digest 185 = .ok (.bipush 8, 2) := by decide +kernel
theorem dX7_digest_187 : decode cX7_digest 187 = .ok (.if_icmp .ge 16, 3) := by decide +kernel
theorem dX7_digest_190 : decode cX7_digest 190 = .ok (.aload_n 0, 1) := by decide +kernel
theorem dX7_digest_191 : decode cX7_digest 191 = .ok (.lload_n 1, 1) := by decide +kernel
theorem dX7_digest_192 : decode cX7_digest 192 = .ok (.iload_n 3, 1) := by decide +kernel
theorem dX7_digest_193 : decode cX7_digest 193 = .ok (.invokevirtual 393, 3) := by decide +kernel
theorem dX7_digest_196 : decode cX7_digest 196 = .ok (.lstore_n 1, 1) := by decide +kernel
theorem dX7_digest_197 : decode cX7_digest 197 = .ok (.iinc 3 1, 3) := by decide +kernel
theorem dX7_digest_200 : decode cX7_digest 200 = .ok (.goto (-16), 3) := by decide +kernel
theorem dX7_digest_203 : decode cX7_digest 203 = .ok (.iconst 0, 1) := by decide +kernel
theorem dX7_digest_204 : decode cX7_digest 204 = .ok (.istore_n 3, 1) := by decide +kernel
theorem dX7_digest_205 : decode cX7_digest 205 = .ok (.iload_n 3, 1) := by decide +kernel
theorem dX7_digest_206 : decode cX7_digest 206 = .ok (.iconst 4, 1) := by decide +kernel
theorem dX7_digest_207 : decode cX7_digest 207 = .ok (.if_icmp .ge 35, 3) := by decide +kernel
theorem dX7_digest_210 : decode cX7_digest 210 = .ok (.ldc2_w 386, 3) := by decide +kernel
theorem dX7_digest_213 : decode cX7_digest 213 = .ok (.lload_n 1, 1) := by decide +kernel
theorem dX7_digest_214 : decode cX7_digest 214 = .ok (.lmul, 1) := by decide +kernel
theorem dX7_digest_215 : decode cX7_digest 215 = .ok (.aload_n 0, 1) := by decide +kernel
theorem dX7_digest_216 : decode cX7_digest 216 = .ok (.iload_n 3, 1) := by decide +kernel
theorem dX7_digest_217 : decode cX7_digest 217 = .ok (.invokevirtual 320, 3) := by decide +kernel
theorem dX7_digest_220 : decode cX7_digest 220 = .ok (.ifCond .eq 11, 3) := by decide +kernel
theorem dX7_digest_223 : decode cX7_digest 223 = .ok (.aload_n 0, 1) := by decide +kernel
theorem dX7_digest_224 : decode cX7_digest 224 = .ok (.iload_n 3, 1) := by decide +kernel
theorem dX7_digest_225 : decode cX7_digest 225 = .ok (.invokevirtual 323, 3) := by decide +kernel
theorem dX7_digest_228 : decode cX7_digest 228 = .ok (.goto 5, 3) := by decide +kernel
theorem dX7_digest_231 : decode cX7_digest 231 = .ok (.bipush (-3), 2) := by decide +kernel
theorem dX7_digest_233 : decode cX7_digest 233 = .ok (.i2l, 1) := by decide +kernel
theorem dX7_digest_234 : decode cX7_digest 234 = .ok (.ladd, 1) := by decide +kernel
theorem dX7_digest_235 : decode cX7_digest 235 = .ok (.lstore_n 1, 1) := by decide +kernel
theorem dX7_digest_236 : decode cX7_digest 236 = .ok (.iinc 3 1, 3) := by decide +kernel
theorem dX7_digest_239 : decode cX7_digest 239 = .ok (.goto (-34), 3) := by decide +kernel
theorem dX7_digest_242 : decode cX7_digest 242 = .ok (.iconst 0, 1) := by decide +kernel
theorem dX7_digest_243 : decode cX7_digest 243 = .ok (.istore_n 3, 1) := by decide +kernel
theorem dX7_digest_244 : decode cX7_digest 244 = .ok (.iload_n 3, 1) := by decide +kernel
theorem dX7_digest_245 : decode cX7_digest 245 = .ok (.iconst 4, 1) := by decide +kernel
theorem dX7_digest_246 : decode cX7_digest 246 = .ok (.if_icmp .ge 23, 3) := by decide +kernel
theorem dX7_digest_249 : decode cX7_digest 249 = .ok (.ldc2_w 386, 3) := by decide +kernel
theorem dX7_digest_252 : decode cX7_digest 252 = .ok (.lload_n 1, 1) := by decide +kernel
theorem dX7_digest_253 : decode cX7_digest 253 = .ok (.lmul, 1) := by decide +kernel
theorem dX7_digest_254 : decode cX7_digest 254 = .ok (.aload_n 0, 1) := by decide +kernel
theorem dX7_digest_255 : decode cX7_digest 255 = .ok (.iconst 0, 1) := by decide +kernel
theorem dX7_digest_256 : decode cX7_digest 256 = .ok (.iload_n 3, 1) := by decide +kernel
theorem dX7_digest_257 : decode cX7_digest 257 = .ok (.invokevirtual 360, 3) := by decide +kernel
theorem dX7_digest_260 : decode cX7_digest 260 = .ok (.i2l, 1) := by decide +kernel
theorem dX7_digest_261 : decode cX7_digest 261 = .ok (.ladd, 1) := by decide +kernel
theorem dX7_digest_262 : decode cX7_digest 262 = .ok (.lstore_n 1, 1) := by decide +kernel
theorem dX7_digest_263 : decode cX7_digest 263 = .ok (.iinc 3 1, 3) := by decide +kernel
theorem dX7_digest_266 : decode cX7_digest 266 = .ok (.goto (-22), 3) := by decide +kernel
theorem dX7_digest_269 : decode cX7_digest 269 = .ok (.iconst 0, 1) := by decide +kernel
theorem dX7_digest_270 : decode cX7_digest 270 = .ok (.istore_n 3, 1) := by decide +kernel
theorem dX7_digest_271 : decode cX7_digest 271 = .ok (.iload_n 3, 1) := by decide +kernel
theorem dX7_digest_272 : decode cX7_digest 272 = .ok (.bipush 6, 2) := by decide +kernel
theorem dX7_digest_274 : decode cX7_digest 274 = .ok (.if_icmp .ge 16, 3) := by decide +kernel
theorem dX7_digest_277 : decode cX7_digest 277 = .ok (.aload_n 0, 1) := by decide +kernel
theorem dX7_digest_278 : decode cX7_digest 278 = .ok (.lload_n 1, 1) := by decide +kernel
theorem dX7_digest_279 : decode cX7_digest 279 = .ok (.iload_n 3, 1) := by decide +kernel
theorem dX7_digest_280 : decode cX7_digest 280 = .ok (.invokevirtual 397, 3) := by decide +kernel
theorem dX7_digest_283 : decode cX7_digest 283 = .ok (.lstore_n 1, 1) := by decide +kernel
theorem dX7_digest_284 : decode cX7_digest 284 = .ok (.iinc 3 1, 3) := by decide +kernel
theorem dX7_digest_287 : decode cX7_digest 287 = .ok (.goto (-16), 3) := by decide +kernel
theorem dX7_digest_290 : decode cX7_digest 290 = .ok (.iconst 0, 1) := by decide +kernel
theorem dX7_digest_291 : decode cX7_digest 291 = .ok (.istore_n 3, 1) := by decide +kernel
theorem dX7_digest_292 : decode cX7_digest 292 = .ok (.iload_n 3, 1) := by decide +kernel
theorem dX7_digest_293 : decode cX7_digest 293 = .ok (.bipush 24, 2) := by decide +kernel
theorem dX7_digest_295 : decode cX7_digest 295 = .ok (.if_icmp .ge 39, 3) := by decide +kernel
theorem dX7_digest_298 : decode cX7_digest 298 = .ok (.iconst 0, 1) := by decide +kernel
theorem dX7_digest_299 : decode cX7_digest 299 = .ok (.istore 4, 2) := by decide +kernel
theorem dX7_digest_301 : decode cX7_digest 301 = .ok (.iload 4, 2) := by decide +kernel
theorem dX7_digest_303 : decode cX7_digest 303 = .ok (.iconst 4, 1) := by decide +kernel
theorem dX7_digest_304 : decode cX7_digest 304 = .ok (.if_icmp .ge 24, 3) := by decide +kernel
theorem dX7_digest_307 : decode cX7_digest 307 = .ok (.ldc2_w 386, 3) := by decide +kernel
theorem dX7_digest_310 : decode cX7_digest 310 = .ok (.lload_n 1, 1) := by decide +kernel
theorem dX7_digest_311 : decode cX7_digest 311 = .ok (.lmul, 1) := by decide +kernel
theorem dX7_digest_312 : decode cX7_digest 312 = .ok (.aload_n 0, 1) := by decide +kernel
theorem dX7_digest_313 : decode cX7_digest 313 = .ok (.iload_n 3, 1) := by decide +kernel
theorem dX7_digest_314 : decode cX7_digest 314 = .ok (.iload 4, 2) := by decide +kernel
theorem dX7_digest_316 : decode cX7_digest 316 = .ok (.invokevirtual 360, 3) := by decide +kernel
theorem dX7_digest_319 : decode cX7_digest 319 = .ok (.i2l, 1) := by decide +kernel
theorem dX7_digest_320 : decode cX7_digest 320 = .ok (.ladd, 1) := by decide +kernel
theorem dX7_digest_321 : decode cX7_digest 321 = .ok (.lstore_n 1, 1) := by decide +kernel
theorem dX7_digest_322 : decode cX7_digest 322 = .ok (.iinc 4 1, 3) := by decide +kernel
theorem dX7_digest_325 : decode cX7_digest 325 = .ok (.goto (-24), 3) := by decide +kernel
theorem dX7_digest_328 : decode cX7_digest 328 = .ok (.iinc 3 1, 3) := by decide +kernel
theorem dX7_digest_331 : decode cX7_digest 331 = .ok (.goto (-39), 3) := by decide +kernel
theorem dX7_digest_334 : decode cX7_digest 334 = .ok (.ldc2_w 386, 3) := by decide +kernel
theorem dX7_digest_337 : decode cX7_digest 337 = .ok (.lload_n 1, 1) := by decide +kernel
theorem dX7_digest_338 : decode cX7_digest 338 = .ok (.lmul, 1) := by decide +kernel
theorem dX7_digest_339 : decode cX7_digest 339 = .ok (.aload_n 0, 1) := by decide +kernel
theorem dX7_digest_340 : decode cX7_digest 340 = .ok (.invokevirtual 377, 3) := by decide +kernel
theorem dX7_digest_343 : decode cX7_digest 343 = .ok (.i2l, 1) := by decide +kernel
theorem dX7_digest_344 : decode cX7_digest 344 = .ok (.ladd, 1) := by decide +kernel
theorem dX7_digest_345 : decode cX7_digest 345 = .ok (.lreturn, 1) := by decide +kernel
