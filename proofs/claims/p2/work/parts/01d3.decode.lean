theorem dX8_isWithin_14 : decode cX8_isWithin 14 = .ok (.iconst 0, 1) := by decide +kernel
theorem dX8_isWithin_15 : decode cX8_isWithin 15 = .ok (.ireturn, 1) := by decide +kernel
theorem dX9_init_0 : decode cX9_init 0 = .ok (.aload_n 0, 1) := by decide +kernel
theorem dX9_init_1 : decode cX9_init 1 = .ok (.invokespecial 1, 3) := by decide +kernel
theorem dX9_init_4 : decode cX9_init 4 = .ok (.aload_n 0, 1) := by decide +kernel
theorem dX9_init_5 : decode cX9_init 5 = .ok (.sipush 440, 3) := by decide +kernel
theorem dX9_init_8 : decode cX9_init 8 = .ok (.newarray .byte, 2) := by decide +kernel
theorem dX9_init_10 : decode cX9_init 10 = .ok (.putfield 7, 3) := by decide +kernel
theorem dX9_init_13 : decode cX9_init 13 = .ok (.aload_n 0, 1) := by decide +kernel
theorem dX9_init_14 : decode cX9_init 14 = .ok (.bipush 8, 2) := by decide +kernel
theorem dX9_init_16 : decode cX9_init 16 = .ok (.newarray .int, 2) := by decide +kernel
theorem dX9_init_18 : decode cX9_init 18 = .ok (.putfield 13, 3) := by decide +kernel
theorem dX9_init_21 : decode cX9_init 21 = .ok (.aload_n 0, 1) := by decide +kernel
theorem dX9_init_22 : decode cX9_init 22 = .ok (.bipush 8, 2) := by decide +kernel
theorem dX9_init_24 : decode cX9_init 24 = .ok (.newarray .int, 2) := by decide +kernel
theorem dX9_init_26 : decode cX9_init 26 = .ok (.putfield 17, 3) := by decide +kernel
theorem dX9_init_29 : decode cX9_init 29 = .ok (.aload_n 0, 1) := by decide +kernel
theorem dX9_init_30 : decode cX9_init 30 = .ok (.bipush 8, 2) := by decide +kernel
theorem dX9_init_32 : decode cX9_init 32 = .ok (.newarray .int, 2) := by decide +kernel
theorem dX9_init_34 : decode cX9_init 34 = .ok (.putfield 20, 3) := by decide +kernel
theorem dX9_init_37 : decode cX9_init 37 = .ok (.aload_n 0, 1) := by decide +kernel
theorem dX9_init_38 : decode cX9_init 38 = .ok (.bipush 8, 2) := by decide +kernel
theorem dX9_init_40 : decode cX9_init 40 = .ok (.newarray .int, 2) := by decide +kernel
theorem dX9_init_42 : decode cX9_init 42 = .ok (.putfield 23, 3) := by decide +kernel
theorem dX9_init_45 : decode cX9_init 45 = .ok (.aload_n 0, 1) := by decide +kernel
theorem dX9_init_46 : decode cX9_init 46 = .ok (.bipush 8, 2) := by decide +kernel
theorem dX9_init_48 : decode cX9_init 48 = .ok (.newarray .int, 2) := by decide +kernel
theorem dX9_init_50 : decode cX9_init 50 = .ok (.putfield 26, 3) := by decide +kernel
theorem dX9_init_53 : decode cX9_init 53 = .ok (.aload_n 0, 1) := by decide +kernel
theorem dX9_init_54 : decode cX9_init 54 = .ok (.bipush 8, 2) := by decide +kernel
theorem dX9_init_56 : decode cX9_init 56 = .ok (.newarray .int, 2) := by decide +kernel
theorem dX9_init_58 : decode cX9_init 58 = .ok (.putfield 29, 3) := by decide +kernel
theorem dX9_init_61 : decode cX9_init 61 = .ok (.aload_n 0, 1) := by decide +kernel
theorem dX9_init_62 : decode cX9_init 62 = .ok (.bipush 8, 2) := by decide +kernel
theorem dX9_init_64 : decode cX9_init 64 = .ok (.newarray .int, 2) := by decide +kernel
theorem dX9_init_66 : decode cX9_init 66 = .ok (.putfield 32, 3) := by decide +kernel
theorem dX9_init_69 : decode cX9_init 69 = .ok (.aload_n 0, 1) := by decide +kernel
theorem dX9_init_70 : decode cX9_init 70 = .ok (.bipush 8, 2) := by decide +kernel
theorem dX9_init_72 : decode cX9_init 72 = .ok (.newarray .int, 2) := by decide +kernel
theorem dX9_init_74 : decode cX9_init 74 = .ok (.putfield 35, 3) := by decide +kernel
theorem dX9_init_77 : decode cX9_init 77 = .ok (.aload_n 0, 1) := by decide +kernel
theorem dX9_init_78 : decode cX9_init 78 = .ok (.bipush 8, 2) := by decide +kernel
theorem dX9_init_80 : decode cX9_init 80 = .ok (.newarray .int, 2) := by decide +kernel
theorem dX9_init_82 : decode cX9_init 82 = .ok (.putfield 38, 3) := by decide +kernel
theorem dX9_init_85 : decode cX9_init 85 = .ok (.aload_n 0, 1) := by decide +kernel
theorem dX9_init_86 : decode cX9_init 86 = .ok (.bipush 8, 2) := by decide +kernel
theorem dX9_init_88 : decode cX9_init 88 = .ok (.newarray .int, 2) := by decide +kernel
theorem dX9_init_90 : decode cX9_init 90 = .ok (.putfield 41, 3) := by decide +kernel
theorem dX9_init_93 : decode cX9_init 93 = .ok (.aload_n 0, 1) := by decide +kernel
theorem dX9_init_94 : decode cX9_init 94 = .ok (.bipush 8, 2) := by decide +kernel
theorem dX9_init_96 : decode cX9_init 96 = .ok (.newarray .int, 2) := by decide +kernel
theorem dX9_init_98 : decode cX9_init 98 = .ok (.putfield 44, 3) := by decide +kernel
theorem dX9_init_101 : decode cX9_init 101 = .ok (.aload_n 0, 1) := by decide +kernel
theorem dX9_init_102 : decode cX9_init 102 = .ok (.bipush 25, 2) := by decide +kernel
theorem dX9_init_104 : decode cX9_init 104 = .ok (.newarray .int, 2) := by decide +kernel
theorem dX9_init_106 : decode cX9_init 106 = .ok (.putfield 47, 3) := by decide +kernel
theorem dX9_init_109 : decode cX9_init 109 = .ok (.aload_n 0, 1) := by decide +kernel
theorem dX9_init_110 : decode cX9_init 110 = .ok (.iconst 5, 1) := by decide +kernel
theorem dX9_init_111 : decode cX9_init 111 = .ok (.putfield 50, 3) := by decide +kernel
theorem dX9_init_114 : decode cX9_init 114 = .ok (.aload_n 0, 1) := by decide +kernel
theorem dX9_init_115 : decode cX9_init 115 = .ok (.sipush 192, 3) := by decide +kernel
theorem dX9_init_118 : decode cX9_init 118 = .ok (.newarray .int, 2) := by decide +kernel
theorem dX9_init_120 : decode cX9_init 120 = .ok (.putfield 54, 3) := by decide +kernel
theorem dX9_init_123 : decode cX9_init 123 = .ok (.aload_n 0, 1) := by decide +kernel
theorem dX9_init_124 : decode cX9_init 124 = .ok (.sipush 192, 3) := by decide +kernel
theorem dX9_init_127 : decode cX9_init 127 = .ok (.newarray .int, 2) := by decide +kernel
theorem dX9_init_129 : decode cX9_init 129 = .ok (.putfield 57, 3) := by decide +kernel
theorem dX9_init_132 : decode cX9_init 132 = .ok (.aload_n 0, 1) := by decide +kernel
theorem dX9_init_133 : decode cX9_init 133 = .ok (.bipush 16, 2) := by decide +kernel
theorem dX9_init_135 : decode cX9_init 135 = .ok (.newarray .int, 2) := by decide +kernel
theorem dX9_init_137 : decode cX9_init 137 = .ok (.putfield 60, 3) := by decide +kernel
theorem dX9_init_140 : decode cX9_init 140 = .ok (.aload_n 0, 1) := by decide +kernel
theorem dX9_init_141 : decode cX9_init 141 = .ok (.bipush 8, 2) := by decide +kernel
theorem dX9_init_143 : decode cX9_init 143 = .ok (.newarray .boolean, 2) := by decide +kernel
theorem dX9_init_145 : decode cX9_init 145 = .ok (.putfield 63, 3) := by decide +kernel
theorem dX9_init_148 : decode cX9_init 148 = .ok (.aload_n 0, 1) := by decide +kernel
theorem dX9_init_149 : decode cX9_init 149 = .ok (.bipush 40, 2) := by decide +kernel
theorem dX9_init_151 : decode cX9_init 151 = .ok (.newarray .int, 2) := by decide +kernel
theorem dX9_init_153 : decode cX9_init 153 = .ok (.putfield 67, 3) := by decide +kernel
theorem dX9_init_156 : decode cX9_init 156 = .ok (.aload_n 0, 1) := by decide +kernel
theorem dX9_init_157 : decode cX9_init 157 = .ok (.bipush 40, 2) := by decide +kernel
theorem dX9_init_159 : decode cX9_init 159 = .ok (.newarray .int, 2) := by decide +kernel
theorem dX9_init_161 : decode cX9_init 161 = .ok (.putfield 70, 3) := by decide +kernel
theorem dX9_init_164 : decode cX9_init 164 = .ok (.aload_n 0, 1) := by decide +kernel
theorem dX9_init_165 : decode cX9_init 165 = .ok (.bipush 40, 2) := by decide +kernel
theorem dX9_init_167 : decode cX9_init 167 = .ok (.newarray .int, 2) := by decide +kernel
theorem dX9_init_169 : decode cX9_init 169 = .ok (.putfield 73, 3) := by decide +kernel
theorem dX9_init_172 : decode cX9_init 172 = .ok (.aload_n 0, 1) := by decide +kernel
theorem dX9_init_173 : decode cX9_init 173 = .ok (.bipush 40, 2) := by decide +kernel
theorem dX9_init_175 : decode cX9_init 175 = .ok (.newarray .int, 2) := by decide +kernel
theorem dX9_init_177 : decode cX9_init 177 = .ok (.putfield 76, 3) := by decide +kernel
theorem dX9_init_180 : decode cX9_init 180 = .ok (.aload_n 0, 1) := by decide +kernel
theorem dX9_init_181 : decode cX9_init 181 = .ok (.bipush 40, 2) := by decide +kernel
theorem dX9_init_183 : decode cX9_init 183 = .ok (.newarray .int, 2) := by decide +kernel
theorem dX9_init_185 : decode cX9_init 185 = .ok (.putfield 79, 3) := by decide +kernel
theorem dX9_init_188 : decode cX9_init 188 = .ok (.aload_n 0, 1) := by decide +kernel
theorem dX9_init_189 : decode cX9_init 189 = .ok (.bipush 40, 2) := by decide +kernel
theorem dX9_init_191 : decode cX9_init 191 = .ok (.newarray .int, 2) := by decide +kernel
theorem dX9_init_193 : decode cX9_init 193 = .ok (.putfield 82, 3) := by decide +kernel
theorem dX9_init_196 : decode cX9_init 196 = .ok (.aload_n 0, 1) := by decide +kernel
theorem dX9_init_197 : decode cX9_init 197 = .ok (.bipush 40, 2) := by decide +kernel
theorem dX9_init_199 : decode cX9_init 199 = .ok (.newarray .int, 2) := by decide +kernel
theorem dX9_init_201 : decode cX9_init 201 = .ok (.putfield 85, 3) := by decide +kernel
theorem dX9_init_204 : decode cX9_init 204 = .ok (.aload_n 0, 1) := by decide +kernel
theorem dX9_init_205 : decode cX9_init 205 = .ok (.sipush 320, 3) := by decide +kernel
theorem dX9_init_208 : decode cX9_init 208 = .ok (.newarray .int, 2) := by decide +kernel
theorem dX9_init_210 : decode cX9_init 210 = .ok (.putfield 88, 3) := by decide +kernel
theorem dX9_init_213 : decode cX9_init 213 = .ok (.aload_n 0, 1) := by decide +kernel
theorem dX9_init_214 : decode cX9_init 214 = .ok (.bipush 40, 2) := by decide +kernel
theorem dX9_init_216 : decode cX9_init 216 = .ok (.newarray .boolean, 2) := by decide +kernel
theorem dX9_init_218 : decode cX9_init 218 = .ok (.putfield 91, 3) := by decide +kernel
theorem dX9_init_221 : decode cX9_init 221 = .ok (.aload_n 0, 1) := by decide +kernel
theorem dX9_init_222 : decode cX9_init 222 = .ok (.iconst 4, 1) := by decide +kernel
theorem dX9_init_223 : decode cX9_init 223 = .ok (.newarray .int, 2) := by decide +kernel
theorem dX9_init_225 : decode cX9_init 225 = .ok (.putfield 94, 3) := by decide +kernel
theorem dX9_init_228 : decode cX9_init 228 = .ok (.aload_n 0, 1) := by decide +kernel
theorem dX9_init_229 : decode cX9_init 229 = .ok (.iconst 4, 1) := by decide +kernel
theorem dX9_init_230 : decode cX9_init 230 = .ok (.newarray .int, 2) := by decide +kernel
theorem dX9_init_232 : decode cX9_init 232 = .ok (.putfield 97, 3) := by decide +kernel
theorem dX9_init_235 : decode cX9_init 235 = .ok (.aload_n 0, 1) := by decide +kernel
theorem dX9_init_236 : decode cX9_init 236 = .ok (.iconst 4, 1) := by decide +kernel
theorem dX9_init_237 : decode cX9_init 237 = .ok (.newarray .int, 2) := by decide +kernel
theorem dX9_init_239 : decode cX9_init 239 = .ok (.putfield 100, 3) := by decide +kernel
theorem dX9_init_242 : decode cX9_init 242 = .ok (.return_, 1) := by decide +kernel
theorem dX9_throwsIf_0 : decode cX9_throwsIf 0 = .ok (.aload_n 0, 1) := by decide +kernel
theorem dX9_throwsIf_1 : decode cX9_throwsIf 1 = .ok (.iload_n 1, 1) := by decide +kernel
theorem dX9_throwsIf_2 : decode cX9_throwsIf 2 = .ok (.ifCond .eq 7, 3) := by decide +kernel
theorem dX9_throwsIf_5 : decode cX9_throwsIf 5 = .ok (.iconst 1, 1) := by decide +kernel
theorem dX9_throwsIf_6 : decode cX9_throwsIf 6 = .ok (.goto 4, 3) := by decide +kernel
theorem dX9_throwsIf_9 : decode cX9_throwsIf 9 = .ok (.iconst 0, 1) := by decide +kernel
theorem dX9_throwsIf_10 : decode cX9_throwsIf 10 = .ok (.putfield 103, 3) := by decide +kernel
theorem dX9_throwsIf_13 : decode cX9_throwsIf 13 = .ok (.iload_n 1, 1) := by decide +kernel
theorem dX9_throwsIf_14 : decode cX9_throwsIf 14 = .ok (.ireturn, 1) := by decide +kernel
set_option maxRecDepth 20000 in
theorem ggX9_feed_X9_four : GoodIn wsX9_feed wsX9_four := goodIn_r _ [7, 8, 2, 9, 10, 11, 12, 13, 14, 15, 16, 17, 18, 19, 20, 21, 22, 23, 24, 25, 26, 27, 28, 29, 30, 31, 32, 33, 34, 35, 36, 37, 38, 39, 40, 41, 42, 43, 44, 45, 46, 47, 48, 49, 50, 51, 52, 53] (by decide +kernel) (by decide +kernel)
set_option maxRecDepth 20000 in
theorem gX9_feed_X9_four : GoodIn wsX9_feed (wsV RX9 109 RX9 yX9_four wsX9_four) := goodIn_app (goodIn_of _ (by decide +kernel)) ggX9_feed_X9_four
theorem dX9_feed_0 : decode cX9_feed 0 = .ok (.aload_n 0, 1) := by decide +kernel
theorem dX9_feed_1 : decode cX9_feed 1 = .ok (.iconst 0, 1) := by decide +kernel
theorem dX9_feed_2 : decode cX9_feed 2 = .ok (.putfield 103, 3) := by decide +kernel
theorem dX9_feed_5 : decode cX9_feed 5 = .ok (.aload_n 0, 1) := by decide +kernel
theorem dX9_feed_6 : decode cX9_feed 6 = .ok (.getfield 106, 3) := by decide +kernel
theorem dX9_feed_9 : decode cX9_feed 9 = .ok (.bipush 20, 2) := by decide +kernel
theorem dX9_feed_11 : decode cX9_feed 11 = .ok (.iadd, 1) := by decide +kernel
theorem dX9_feed_12 : decode cX9_feed 12 = .ok (.sipush 440, 3) := by decide +kernel
theorem dX9_feed_15 : decode cX9_feed 15 = .ok (.if_icmp .le 5, 3) := by decide +kernel
theorem dX9_feed_18 : decode cX9_feed 18 = .ok (.iconst (-1), 1) := by decide +kernel
theorem dX9_feed_19 : decode cX9_feed 19 = .ok (.ireturn, 1) := by decide +kernel
theorem dX9_feed_20 : decode cX9_feed 20 = .ok (.aload_n 0, 1) := by decide +kernel
theorem dX9_feed_21 : decode cX9_feed 21 = .ok (.iload_n 1, 1) := by decide +kernel
theorem dX9_feed_22 : decode cX9_feed 22 = .ok (.invokevirtual 109, 3) := by decide +kernel
theorem dX9_feed_25 : decode cX9_feed 25 = .ok (.aload_n 0, 1) := by decide +kernel
theorem dX9_feed_26 : decode cX9_feed 26 = .ok (.iload_n 2, 1) := by decide +kernel
theorem dX9_feed_27 : decode cX9_feed 27 = .ok (.invokevirtual 109, 3) := by decide +kernel
theorem dX9_feed_30 : decode cX9_feed 30 = .ok (.aload_n 0, 1) := by decide +kernel
theorem dX9_feed_31 : decode cX9_feed 31 = .ok (.iload_n 3, 1) := by decide +kernel
theorem dX9_feed_32 : decode cX9_feed 32 = .ok (.invokevirtual 109, 3) := by decide +kernel
theorem dX9_feed_35 : decode cX9_feed 35 = .ok (.aload_n 0, 1) := by decide +kernel
theorem dX9_feed_36 : decode cX9_feed 36 = .ok (.iload 4, 2) := by decide +kernel
theorem dX9_feed_38 : decode cX9_feed 38 = .ok (.invokevirtual 109, 3) := by decide +kernel
theorem dX9_feed_41 : decode cX9_feed 41 = .ok (.aload_n 0, 1) := by decide +kernel
theorem dX9_feed_42 : decode cX9_feed 42 = .ok (.iload 5, 2) := by decide +kernel
theorem dX9_feed_44 : decode cX9_feed 44 = .ok (.invokevirtual 109, 3) := by decide +kernel
theorem dX9_feed_47 : decode cX9_feed 47 = .ok (.aload_n 0, 1) := by decide +kernel
theorem dX9_feed_48 : decode cX9_feed 48 = .ok (.getfield 106, 3) := by decide +kernel
theorem dX9_feed_51 : decode cX9_feed 51 = .ok (.ireturn, 1) := by decide +kernel
theorem dX9_four_0 : decode cX9_four 0 = .ok (.bipush 24, 2) := by decide +kernel
theorem dX9_four_2 : decode cX9_four 2 = .ok (.istore_n 2, 1) := by decide +kernel
theorem dX9_four_3 : decode cX9_four 3 = .ok (.iload_n 2, 1) := by decide +kernel
theorem dX9_four_4 : decode cX9_four 4 = .ok (.ifCond .lt 32, 3) := by decide +kernel
theorem dX9_four_7 : decode cX9_four 7 = .ok (.aload_n 0, 1) := by decide +kernel
theorem dX9_four_8 : decode cX9_four 8 = .ok (.getfield 7, 3) := by decide +kernel
theorem dX9_four_11 : decode cX9_four 11 = .ok (.aload_n 0, 1) := by decide +kernel
theorem dX9_four_12 : decode cX9_four 12 = .ok (.getfield 106, 3) := by decide +kernel
theorem dX9_four_15 : decode cX9_four 15 = .ok (.iload_n 1, 1) := by decide +kernel
theorem dX9_four_16 : decode cX9_four 16 = .ok (.iload_n 2, 1) := by decide +kernel
theorem dX9_four_17 : decode cX9_four 17 = .ok (.ishr, 1) := by decide +kernel
theorem dX9_four_18 : decode cX9_four 18 = .ok (.i2b, 1) := by decide +kernel
theorem dX9_four_19 : decode cX9_four 19 = .ok (.bastore, 1) := by decide +kernel
theorem dX9_four_20 : decode cX9_four 20 = .ok (.aload_n 0, 1) := by decide +kernel
theorem dX9_four_21 : decode cX9_four 21 = .ok (.dup, 1) := by decide +kernel
theorem dX9_four_22 : decode cX9_four 22 = .ok (.getfield 106, 3) := by decide +kernel
theorem dX9_four_25 : decode cX9_four 25 = .ok (.iconst 1, 1) := by decide +kernel
theorem dX9_four_26 : decode cX9_four 26 = .ok (.iadd, 1) := by decide +kernel
theorem dX9_four_27 : decode cX9_four 27 = .ok (.putfield 106, 3) := by decide +kernel
theorem dX9_four_30 : decode cX9_four 30 = .ok (.iinc 2 (-8), 3) := by decide +kernel
theorem dX9_four_33 : decode cX9_four 33 = .ok (.goto (-30), 3) := by decide +kernel
theorem dX9_four_36 : decode cX9_four 36 = .ok (.return_, 1) := by decide +kernel
theorem dX9_end_0 : decode cX9_end 0 = .ok (.aload_n 0, 1) := by decide +kernel
theorem dX9_end_1 : decode cX9_end 1 = .ok (.iconst 0, 1) := by decide +kernel
theorem dX9_end_2 : decode cX9_end 2 = .ok (.putfield 103, 3) := by decide +kernel
theorem dX9_end_5 : decode cX9_end 5 = .ok (.iload_n 1, 1) := by decide +kernel
theorem dX9_end_6 : decode cX9_end 6 = .ok (.ifCond .lt 11, 3) := by decide +kernel
theorem dX9_end_9 : decode cX9_end 9 = .ok (.iload_n 1, 1) := by decide +kernel
theorem dX9_end_10 : decode cX9_end 10 = .ok (.aload_n 0, 1) := by decide +kernel
theorem dX9_end_11 : decode cX9_end 11 = .ok (.getfield 106, 3) := by decide +kernel
theorem dX9_end_14 : decode cX9_end 14 = .ok (.if_icmp .le 5, 3) := by decide +kernel
theorem dX9_end_17 : decode cX9_end 17 = .ok (.iconst 0, 1) := by decide +kernel
theorem dX9_end_18 : decode cX9_end 18 = .ok (.ireturn, 1) := by decide +kernel
theorem dX9_end_19 : decode cX9_end 19 = .ok (.aload_n 0, 1) := by decide +kernel
theorem dX9_end_20 : decode cX9_end 20 = .ok (.iload_n 1, 1) := by decide +kernel
theorem dX9_end_21 : decode cX9_end 21 = .ok (.putfield 106, 3) := by decide +kernel
theorem dX9_end_24 : decode cX9_end 24 = .ok (.iconst 1, 1) := by decide +kernel
theorem dX9_end_25 : decode cX9_end 25 = .ok (.ireturn, 1) := by decide +kernel
theorem dX9_taken_0 : decode cX9_taken 0 = .ok (.aload_n 0, 1) := by decide +kernel
theorem dX9_taken_1 : decode cX9_taken 1 = .ok (.aload_n 0, 1) := by decide +kernel
theorem dX9_taken_2 : decode cX9_taken 2 = .ok (.getfield 106, 3) := by decide +kernel
theorem dX9_taken_5 : decode cX9_taken 5 = .ok (.putfield 113, 3) := by decide +kernel
theorem dX9_taken_8 : decode cX9_taken 8 = .ok (.aload_n 0, 1) := by decide +kernel
theorem dX9_taken_9 : decode cX9_taken 9 = .ok (.iconst 0, 1) := by decide +kernel
theorem dX9_taken_10 : decode cX9_taken 10 = .ok (.putfield 106, 3) := by decide +kernel
theorem dX9_taken_13 : decode cX9_taken 13 = .ok (.aload_n 0, 1) := by decide +kernel
theorem dX9_taken_14 : decode cX9_taken 14 = .ok (.iconst 0, 1) := by decide +kernel
theorem dX9_taken_15 : decode cX9_taken 15 = .ok (.putfield 116, 3) := by decide +kernel
theorem dX9_taken_18 : decode cX9_taken 18 = .ok (.return_, 1) := by decide +kernel
theorem dX9_isIn_0 : decode cX9_isIn 0 = .ok (.iload_n 0, 1) := by decide +kernel
theorem dX9_isIn_1 : decode cX9_isIn 1 = .ok (.iload_n 1, 1) := by decide +kernel
theorem dX9_isIn_2 : decode cX9_isIn 2 = .ok (.if_icmp .lt 12, 3) := by decide +kernel
theorem dX9_isIn_5 : decode cX9_isIn 5 = .ok (.iload_n 0, 1) := by decide +kernel
theorem dX9_isIn_6 : decode cX9_isIn 6 = .ok (.iload_n 2, 1) := by decide +kernel
theorem dX9_isIn_7 : decode cX9_isIn 7 = .ok (.if_icmp .gt 7, 3) := by decide +kernel
theorem dX9_isIn_10 : decode cX9_isIn 10 = .ok (.iconst 1, 1) := by decide +kernel
theorem dX9_isIn_11 : decode cX9_isIn 11 = .ok (.goto 4, 3) := by decide +kernel
theorem dX9_isIn_14 : decode cX9_isIn 14 = .ok (.iconst 0, 1) := by decide +kernel
theorem dX9_isIn_15 : decode cX9_isIn 15 = .ok (.ireturn, 1) := by decide +kernel
theorem dX9_isBridge_0 : decode cX9_isBridge 0 = .ok (.iload_n 1, 1) := by decide +kernel
theorem dX9_isBridge_1 : decode cX9_isBridge 1 = .ok (.ifCond .lt 15, 3) := by decide +kernel
theorem dX9_isBridge_4 : decode cX9_isBridge 4 = .ok (.iload_n 1, 1) := by decide +kernel
theorem dX9_isBridge_5 : decode cX9_isBridge 5 = .ok (.aload_n 0, 1) := by decide +kernel
theorem dX9_isBridge_6 : decode cX9_isBridge 6 = .ok (.getfield 119, 3) := by decide +kernel
theorem dX9_isBridge_9 : decode cX9_isBridge 9 = .ok (.if_icmp .ge 7, 3) := by decide +kernel
theorem dX9_isBridge_12 : decode cX9_isBridge 12 = .ok (.iconst 1, 1) := by decide +kernel
theorem dX9_isBridge_13 : decode cX9_isBridge 13 = .ok (.goto 4, 3) := by decide +kernel
theorem dX9_isBridge_16 : decode cX9_isBridge 16 = .ok (.iconst 0, 1) := by decide +kernel
theorem dX9_isBridge_17 : decode cX9_isBridge 17 = .ok (.ireturn, 1) := by decide +kernel
set_option maxRecDepth 20000 in
theorem ggX9_bridge_X9_isIn : GoodIn wsX9_bridge wsX9_isIn := goodIn_r _ [14] (by decide +kernel) (by decide +kernel)
set_option maxRecDepth 20000 in
theorem gX9_bridge_X9_isIn : GoodIn wsX9_bridge (va_wsS RX9 125 yX9_isIn wsX9_isIn) := goodIn_app (goodIn_of _ (by decide +kernel)) ggX9_bridge_X9_isIn
theorem dX9_bridge_0 : decode cX9_bridge 0 = .ok (.aload_n 0, 1) := by decide +kernel
theorem dX9_bridge_1 : decode cX9_bridge 1 = .ok (.iconst 0, 1) := by decide +kernel
theorem dX9_bridge_2 : decode cX9_bridge 2 = .ok (.putfield 103, 3) := by decide +kernel
theorem dX9_bridge_5 : decode cX9_bridge 5 = .ok (.aload_n 0, 1) := by decide +kernel
theorem dX9_bridge_6 : decode cX9_bridge 6 = .ok (.getfield 119, 3) := by decide +kernel
theorem dX9_bridge_9 : decode cX9_bridge 9 = .ok (.bipush 8, 2) := by decide +kernel
theorem dX9_bridge_11 : decode cX9_bridge 11 = .ok (.if_icmp .eq 74, 3) := by decide +kernel
theorem dX9_bridge_14 : decode cX9_bridge 14 = .ok (.aload_n 0, 1) := by decide +kernel
theorem dX9_bridge_15 : decode cX9_bridge 15 = .ok (.getfield 122, 3) := by decide +kernel
theorem dX9_bridge_18 : decode cX9_bridge 18 = .ok (.ifCond .ne 67, 3) := by decide +kernel
theorem dX9_bridge_21 : decode cX9_bridge 21 = .ok (.iload_n 1, 1) := by decide +kernel
theorem dX9_bridge_22 : decode cX9_bridge 22 = .ok (.iconst 0, 1) := by decide +kernel
theorem dX9_bridge_23 : decode cX9_bridge 23 = .ok (.sipush 400, 3) := by decide +kernel
theorem dX9_bridge_26 : decode cX9_bridge 26 = .ok (.invokestatic 125, 3) := by decide +kernel
theorem dX9_bridge_29 : decode cX9_bridge 29 = .ok (.ifCond .eq 56, 3) := by decide +kernel
theorem dX9_bridge_32 : decode cX9_bridge 32 = .ok (.iload_n 2, 1) := by decide +kernel
theorem dX9_bridge_33 : decode cX9_bridge 33 = .ok (.iconst 1, 1) := by decide +kernel
theorem dX9_bridge_34 : decode cX9_bridge 34 = .ok (.bipush 9, 2) := by decide +kernel
theorem dX9_bridge_36 : decode cX9_bridge 36 = .ok (.invokestatic 125, 3) := by decide +kernel
theorem dX9_bridge_39 : decode cX9_bridge 39 = .ok (.ifCond .eq 46, 3) := by decide +kernel
theorem dX9_bridge_42 : decode cX9_bridge 42 = .ok (.iload_n 3, 1) := by decide +kernel
theorem dX9_bridge_43 : decode cX9_bridge 43 = .ok (.iconst 1, 1) := by decide +kernel
theorem dX9_bridge_44 : decode cX9_bridge 44 = .ok (.bipush 9, 2) := by decide +kernel
theorem dX9_bridge_46 : decode cX9_bridge 46 = .ok (.invokestatic 125, 3) := by decide +kernel
theorem dX9_bridge_49 : decode cX9_bridge 49 = .ok (.ifCond .eq 36, 3) := by decide +kernel
theorem dX9_bridge_52 : decode cX9_bridge 52 = .ok (.iload 4, 2) := by decide +kernel
theorem dX9_bridge_54 : decode cX9_bridge 54 = .ok (.iconst 1, 1) := by decide +kernel
theorem dX9_bridge_55 : decode cX9_bridge 55 = .ok (.bipush 60, 2) := by decide +kernel
theorem dX9_bridge_57 : decode cX9_bridge 57 = .ok (.invokestatic 125, 3) := by decide +kernel
theorem dX9_bridge_60 : decode cX9_bridge 60 = .ok (.ifCond .eq 25, 3) := by decide +kernel
theorem dX9_bridge_63 : decode cX9_bridge 63 = .ok (.iload 5, 2) := by decide +kernel
theorem dX9_bridge_65 : decode cX9_bridge 65 = .ok (.iconst 0, 1) := by decide +kernel
theorem dX9_bridge_66 : decode cX9_bridge 66 = .ok (.bipush 60, 2) := by decide +kernel
theorem dX9_bridge_68 : decode cX9_bridge 68 = .ok (.invokestatic 125, 3) := by decide +kernel
theorem dX9_bridge_71 : decode cX9_bridge 71 = .ok (.ifCond .eq 14, 3) := by decide +kernel
theorem dX9_bridge_74 : decode cX9_bridge 74 = .ok (.iload 6, 2) := by decide +kernel
theorem dX9_bridge_76 : decode cX9_bridge 76 = .ok (.iconst 1, 1) := by decide +kernel
theorem dX9_bridge_77 : decode cX9_bridge 77 = .ok (.bipush 99, 2) := by decide +kernel
theorem dX9_bridge_79 : decode cX9_bridge 79 = .ok (.invokestatic 125, 3) := by decide +kernel
theorem dX9_bridge_82 : decode cX9_bridge 82 = .ok (.ifCond .ne 5, 3) := by decide +kernel
theorem dX9_bridge_85 : decode cX9_bridge 85 = .ok (.iconst (-1), 1) := by decide +kernel
theorem dX9_bridge_86 : decode cX9_bridge 86 = .ok (.ireturn, 1) := by decide +kernel
theorem dX9_bridge_87 : decode cX9_bridge 87 = .ok (.aload_n 0, 1) := by decide +kernel
theorem dX9_bridge_88 : decode cX9_bridge 88 = .ok (.getfield 13, 3) := by decide +kernel
theorem dX9_bridge_91 : decode cX9_bridge 91 = .ok (.aload_n 0, 1) := by decide +kernel
theorem dX9_bridge_92 : decode cX9_bridge 92 = .ok (.getfield 119, 3) := by decide +kernel
theorem dX9_bridge_95 : decode cX9_bridge 95 = .ok (.iload_n 1, 1) := by decide +kernel
theorem dX9_bridge_96 : decode cX9_bridge 96 = .ok (.iastore, 1) := by decide +kernel
theorem dX9_bridge_97 : decode cX9_bridge 97 = .ok (.aload_n 0, 1) := by decide +kernel
theorem dX9_bridge_98 : decode cX9_bridge 98 = .ok (.getfield 17, 3) := by decide +kernel
theorem dX9_bridge_101 : decode cX9_bridge 101 = .ok (.aload_n 0, 1) := by decide +kernel
theorem dX9_bridge_102 : decode cX9_bridge 102 = .ok (.getfield 119, 3) := by decide +kernel
theorem dX9_bridge_105 : decode cX9_bridge 105 = .ok (.iload_n 2, 1) := by decide +kernel
theorem dX9_bridge_106 : decode cX9_bridge 106 = .ok (.iastore, 1) := by decide +kernel
theorem dX9_bridge_107 : decode cX9_bridge 107 = .ok (.aload_n 0, 1) := by decide +kernel
theorem dX9_bridge_108 : decode cX9_bridge 108 = .ok (.getfield 20, 3) := by decide +kernel
theorem dX9_bridge_111 : decode cX9_bridge 111 = .ok (.aload_n 0, 1) := by decide +kernel
theorem dX9_bridge_112 : decode cX9_bridge 112 = .ok (.getfield 119, 3) := by decide +kernel
theorem dX9_bridge_115 : decode cX9_bridge 115 = .ok (.iload_n 3, 1) := by decide +kernel
theorem dX9_bridge_116 : decode cX9_bridge 116 = .ok (.iastore, 1) := by decide +kernel
theorem dX9_bridge_117 : decode cX9_bridge 117 = .ok (.aload_n 0, 1) := by decide +kernel
theorem dX9_bridge_118 : decode cX9_bridge 118 = .ok (.getfield 23, 3) := by decide +kernel
theorem dX9_bridge_121 : decode cX9_bridge 121 = .ok (.aload_n 0, 1) := by decide +kernel
theorem dX9_bridge_122 : decode cX9_bridge 122 = .ok (.getfield 119, 3) := by decide +kernel
theorem dX9_bridge_125 : decode cX9_bridge 125 = .ok (.iload 4, 2) := by decide +kernel
theorem dX9_bridge_127 : decode cX9_bridge 127 = .ok (.iastore, 1) := by decide +kernel
theorem dX9_bridge_128 : decode cX9_bridge 128 = .ok (.aload_n 0, 1) := by decide +kernel
theorem dX9_bridge_129 : decode cX9_bridge 129 = .ok (.getfield 26, 3) := by decide +kernel
theorem dX9_bridge_132 : decode cX9_bridge 132 = .ok (.aload_n 0, 1) := by decide +kernel
theorem dX9_bridge_133 : decode cX9_bridge 133 = .ok (.getfield 119, 3) := by decide +kernel
theorem dX9_bridge_136 : decode cX9_bridge 136 = .ok (.iload 5, 2) := by decide +kernel
theorem dX9_bridge_138 : decode cX9_bridge 138 = .ok (.iastore, 1) := by decide +kernel
theorem dX9_bridge_139 : decode cX9_bridge 139 = .ok (.aload_n 0, 1) := by decide +kernel
theorem dX9_bridge_140 : decode cX9_bridge 140 = .ok (.getfield 29, 3) := by decide +kernel
theorem dX9_bridge_143 : decode cX9_bridge 143 = .ok (.aload_n 0, 1) := by decide +kernel
theorem dX9_bridge_144 : decode cX9_bridge 144 = .ok (.getfield 119, 3) := by decide +kernel
theorem dX9_bridge_147 : decode cX9_bridge 147 = .ok (.iload 6, 2) := by decide +kernel
theorem dX9_bridge_149 : decode cX9_bridge 149 = .ok (.iastore, 1) := by decide +kernel
theorem dX9_bridge_150 : decode cX9_bridge 150 = .ok (.aload_n 0, 1) := by decide +kernel
theorem dX9_bridge_151 : decode cX9_bridge 151 = .ok (.getfield 35, 3) := by decide +kernel
theorem dX9_bridge_154 : decode cX9_bridge 154 = .ok (.aload_n 0, 1) := by decide +kernel
theorem dX9_bridge_155 : decode cX9_bridge 155 = .ok (.getfield 119, 3) := by decide +kernel
theorem dX9_bridge_158 : decode cX9_bridge 158 = .ok (.iconst (-1), 1) := by decide +kernel
theorem dX9_bridge_159 : decode cX9_bridge 159 = .ok (.iastore, 1) := by decide +kernel
theorem dX9_bridge_160 : decode cX9_bridge 160 = .ok (.aload_n 0, 1) := by decide +kernel
theorem dX9_bridge_161 : decode cX9_bridge 161 = .ok (.dup, 1) := by decide +kernel
theorem dX9_bridge_162 : decode cX9_bridge 162 = .ok (.getfield 119, 3) := by decide +kernel
theorem dX9_bridge_165 : decode cX9_bridge 165 = .ok (.iconst 1, 1) := by decide +kernel
theorem dX9_bridge_166 : decode cX9_bridge 166 = .ok (.iadd, 1) := by decide +kernel
theorem dX9_bridge_167 : decode cX9_bridge 167 = .ok (.putfield 119, 3) := by decide +kernel
theorem dX9_bridge_170 : decode cX9_bridge 170 = .ok (.aload_n 0, 1) := by decide +kernel
theorem dX9_bridge_171 : decode cX9_bridge 171 = .ok (.getfield 119, 3) := by decide +kernel
theorem dX9_bridge_174 : decode cX9_bridge 174 = .ok (.iconst 1, 1) := by decide +kernel
theorem dX9_bridge_175 : decode cX9_bridge 175 = .ok (.isub, 1) := by decide +kernel
theorem dX9_bridge_176 : decode cX9_bridge 176 = .ok (.ireturn, 1) := by decide +kernel
set_option maxRecDepth 20000 in
theorem ggX9_tide_X9_taken : GoodIn wsX9_tide wsX9_taken := goodIn_r _ [10, 11, 3, 12, 16, 17, 18, 19, 20, 21, 22, 23, 24, 25, 26, 27, 28, 29, 30, 31, 32, 33, 34, 35, 36, 37, 38, 39, 40, 41, 42, 43, 44, 45, 46, 47, 48, 49, 50, 51, 52, 53, 54, 55, 56, 57, 58, 59, 60] (by decide +kernel) (by decide +kernel)
set_option maxRecDepth 20000 in
theorem gX9_tide_X9_taken : GoodIn wsX9_tide (wsV RX9 129 RX9 yX9_taken wsX9_taken) := goodIn_app (goodIn_of _ (by decide +kernel)) ggX9_tide_X9_taken
set_option maxRecDepth 20000 in
theorem ggX9_tide_X9_isIn : GoodIn wsX9_tide wsX9_isIn := goodIn_r _ [15] (by decide +kernel) (by decide +kernel)
set_option maxRecDepth 20000 in
theorem gX9_tide_X9_isIn : GoodIn wsX9_tide (va_wsS RX9 125 yX9_isIn wsX9_isIn) := goodIn_app (goodIn_of _ (by decide +kernel)) ggX9_tide_X9_isIn
theorem dX9_tide_0 : decode cX9_tide 0 = .ok (.aload_n 0, 1) := by decide +kernel
theorem dX9_tide_1 : decode cX9_tide 1 = .ok (.iconst 0, 1) := by decide +kernel
theorem dX9_tide_2 : decode cX9_tide 2 = .ok (.putfield 103, 3) := by decide +kernel
theorem dX9_tide_5 : decode cX9_tide 5 = .ok (.aload_n 0, 1) := by decide +kernel
theorem dX9_tide_6 : decode cX9_tide 6 = .ok (.invokevirtual 129, 3) := by decide +kernel
theorem dX9_tide_9 : decode cX9_tide 9 = .ok (.aload_n 0, 1) := by decide +kernel
theorem dX9_tide_10 : decode cX9_tide 10 = .ok (.getfield 122, 3) := by decide +kernel
theorem dX9_tide_13 : decode cX9_tide 13 = .ok (.ifCond .ne 12, 3) := by decide +kernel
theorem dX9_tide_16 : decode cX9_tide 16 = .ok (.aload_n 0, 1) := by decide +kernel
theorem dX9_tide_17 : decode cX9_tide 17 = .ok (.getfield 113, 3) := by decide +kernel
theorem dX9_tide_20 : decode cX9_tide 20 = .ok (.bipush 25, 2) := by decide +kernel
theorem dX9_tide_22 : decode cX9_tide 22 = .ok (.if_icmp .eq 5, 3) := by decide +kernel
theorem dX9_tide_25 : decode cX9_tide 25 = .ok (.iconst 0, 1) := by decide +kernel
theorem dX9_tide_26 : decode cX9_tide 26 = .ok (.ireturn, 1) := by decide +kernel
theorem dX9_tide_27 : decode cX9_tide 27 = .ok (.iconst 0, 1) := by decide +kernel
theorem dX9_tide_28 : decode cX9_tide 28 = .ok (.istore_n 1, 1) := by decide +kernel
theorem dX9_tide_29 : decode cX9_tide 29 = .ok (.iload_n 1, 1) := by decide +kernel
theorem dX9_tide_30 : decode cX9_tide 30 = .ok (.bipush 25, 2) := by decide +kernel
theorem dX9_tide_32 : decode cX9_tide 32 = .ok (.if_icmp .ge 26, 3) := by decide +kernel
theorem dX9_tide_35 : decode cX9_tide 35 = .ok (.aload_n 0, 1) := by decide +kernel
theorem dX9_tide_36 : decode cX9_tide 36 = .ok (.getfield 7, 3) := by decide +kernel
theorem dX9_tide_39 : decode cX9_tide 39 = .ok (.iload_n 1, 1) := by decide +kernel
theorem dX9_tide_40 : decode cX9_tide 40 = .ok (.baload, 1) := by decide +kernel
theorem dX9_tide_41 : decode cX9_tide 41 = .ok (.iconst 0, 1) := by decide +kernel
theorem dX9_tide_42 : decode cX9_tide 42 = .ok (.bipush 100, 2) := by decide +kernel
theorem dX9_tide_44 : decode cX9_tide 44 = .ok (.invokestatic 125, 3) := by decide +kernel
theorem dX9_tide_47 : decode cX9_tide 47 = .ok (.ifCond .ne 5, 3) := by decide +kernel
theorem dX9_tide_50 : decode cX9_tide 50 = .ok (.iconst 0, 1) := by decide +kernel
theorem dX9_tide_51 : decode cX9_tide 51 = .ok (.ireturn, 1) := by decide +kernel
theorem dX9_tide_52 : decode cX9_tide 52 = .ok (.iinc 1 1, 3) := by decide +kernel
theorem dX9_tide_55 : decode cX9_tide 55 = .ok (.goto (-26), 3) := by decide +kernel
theorem dX9_tide_58 : decode cX9_tide 58 = .ok (.iconst 0, 1) := by decide +kernel
theorem dX9_tide_59 : decode cX9_tide 59 = .ok (.istore_n 1, 1) := by decide +kernel
theorem dX9_tide_60 : decode cX9_tide 60 = .ok (.iload_n 1, 1) := by decide +kernel
theorem dX9_tide_61 : decode cX9_tide 61 = .ok (.bipush 25, 2) := by decide +kernel
theorem dX9_tide_63 : decode cX9_tide 63 = .ok (.if_icmp .ge 21, 3) := by decide +kernel
theorem dX9_tide_66 : decode cX9_tide 66 = .ok (.aload_n 0, 1) := by decide +kernel
theorem dX9_tide_67 : decode cX9_tide 67 = .ok (.getfield 47, 3) := by decide +kernel
theorem dX9_tide_70 : decode cX9_tide 70 = .ok (.iload_n 1, 1) := by decide +kernel
theorem dX9_tide_71 : decode cX9_tide 71 = .ok (.aload_n 0, 1) := by decide +kernel
theorem dX9_tide_72 : decode cX9_tide 72 = .ok (.getfield 7, 3) := by decide +kernel
theorem dX9_tide_75 : decode cX9_tide 75 = .ok (.iload_n 1, 1) := by decide +kernel
theorem dX9_tide_76 : decode cX9_tide 76 = .ok (.baload, 1) := by decide +kernel
theorem dX9_tide_77 : decode cX9_tide 77 = .ok (.iastore, 1) := by decide +kernel
theorem dX9_tide_78 : decode cX9_tide 78 = .ok (.iinc 1 1, 3) := by decide +kernel
theorem dX9_tide_81 : decode cX9_tide 81 = .ok (.goto (-21), 3) := by decide +kernel
theorem dX9_tide_84 : decode cX9_tide 84 = .ok (.iconst 1, 1) := by decide +kernel
theorem dX9_tide_85 : decode cX9_tide 85 = .ok (.ireturn, 1) := by decide +kernel
theorem dX9_levelAt_0 : decode cX9_levelAt 0 = .ok (.iload_n 1, 1) := by decide +kernel
theorem dX9_levelAt_1 : decode cX9_levelAt 1 = .ok (.bipush 60, 2) := by decide +kernel
theorem dX9_levelAt_3 : decode cX9_levelAt 3 = .ok (.idiv, 1) := by decide +kernel
theorem dX9_levelAt_4 : decode cX9_levelAt 4 = .ok (.istore_n 2, 1) := by decide +kernel
theorem dX9_levelAt_5 : decode cX9_levelAt 5 = .ok (.iload_n 1, 1) := by decide +kernel
theorem dX9_levelAt_6 : decode cX9_levelAt 6 = .ok (.bipush 60, 2) := by decide +kernel
theorem dX9_levelAt_8 : decode cX9_levelAt 8 = .ok (.irem, 1) := by decide +kernel
theorem dX9_levelAt_9 : decode cX9_levelAt 9 = .ok (.ifCond .ne 12, 3) := by decide +kernel
theorem dX9_levelAt_12 : decode cX9_levelAt 12 = .ok (.aload_n 0, 1) := by decide +kernel
theorem dX9_levelAt_13 : decode cX9_levelAt 13 = .ok (.getfield 47, 3) := by decide +kernel
theorem dX9_levelAt_16 : decode cX9_levelAt 16 = .ok (.iload_n 2, 1) := by decide +kernel
theorem dX9_levelAt_17 : decode cX9_levelAt 17 = .ok (.iaload, 1) := by decide +kernel
theorem dX9_levelAt_18 : decode cX9_levelAt 18 = .ok (.goto 33, 3) := by decide +kernel
theorem dX9_levelAt_21 : decode cX9_levelAt 21 = .ok (.aload_n 0, 1) := by decide +kernel
theorem dX9_levelAt_22 : decode cX9_levelAt 22 = .ok (.getfield 47, 3) := by decide +kernel
theorem dX9_levelAt_25 : decode cX9_levelAt 25 = .ok (.iload_n 2, 1) := by decide +kernel
theorem dX9_levelAt_26 : decode cX9_levelAt 26 = .ok (.iaload, 1) := by decide +kernel
theorem dX9_levelAt_27 : decode cX9_levelAt 27 = .ok (.aload_n 0, 1) := by decide +kernel
theorem dX9_levelAt_28 : decode cX9_levelAt 28 = .ok (.getfield 47, 3) := by decide +kernel
theorem dX9_levelAt_31 : decode cX9_levelAt 31 = .ok (.iload_n 2, 1) := by decide +kernel
theorem dX9_levelAt_32 : decode cX9_levelAt 32 = .ok (.iconst 1, 1) := by decide +kernel
theorem dX9_levelAt_33 : decode cX9_levelAt 33 = .ok (.iadd, 1) := by decide +kernel
theorem dX9_levelAt_34 : decode cX9_levelAt 34 = .ok (.iaload, 1) := by decide +kernel
theorem dX9_levelAt_35 : decode cX9_levelAt 35 = .ok (.aload_n 0, 1) := by decide +kernel
theorem dX9_levelAt_36 : decode cX9_levelAt 36 = .ok (.getfield 47, 3) := by decide +kernel
theorem dX9_levelAt_39 : decode cX9_levelAt 39 = .ok (.iload_n 2, 1) := by decide +kernel
theorem dX9_levelAt_40 : decode cX9_levelAt 40 = .ok (.iaload, 1) := by decide +kernel
theorem dX9_levelAt_41 : decode cX9_levelAt 41 = .ok (.isub, 1) := by decide +kernel
theorem dX9_levelAt_42 : decode cX9_levelAt 42 = .ok (.iload_n 1, 1) := by decide +kernel
theorem dX9_levelAt_43 : decode cX9_levelAt 43 = .ok (.bipush 60, 2) := by decide +kernel
theorem dX9_levelAt_45 : decode cX9_levelAt 45 = .ok (.irem, 1) := by decide +kernel
theorem dX9_levelAt_46 : decode cX9_levelAt 46 = .ok (.imul, 1) := by decide +kernel
theorem dX9_levelAt_47 : decode cX9_levelAt 47 = .ok (.bipush 60, 2) := by decide +kernel
theorem dX9_levelAt_49 : decode cX9_levelAt 49 = .ok (.idiv, 1) := by decide +kernel
theorem dX9_levelAt_50 : decode cX9_levelAt 50 = .ok (.iadd, 1) := by decide +kernel
theorem dX9_levelAt_51 : decode cX9_levelAt 51 = .ok (.ireturn, 1) := by decide +kernel
set_option maxRecDepth 20000 in
theorem ggX9_level_X9_isIn : GoodIn wsX9_level wsX9_isIn := goodIn_r _ [5] (by decide +kernel) (by decide +kernel)
set_option maxRecDepth 20000 in
theorem gX9_level_X9_isIn : GoodIn wsX9_level (va_wsS RX9 125 yX9_isIn wsX9_isIn) := goodIn_app (goodIn_of _ (by decide +kernel)) ggX9_level_X9_isIn
set_option maxRecDepth 20000 in
theorem ggX9_level_X9_levelAt : GoodIn wsX9_level wsX9_levelAt := goodIn_r _ [9, 10, 11, 12, 13, 14, 15, 16, 17, 18, 19, 20, 21, 22, 23, 24, 25, 26, 27, 28, 29, 30, 31, 32, 33, 34, 35, 36, 37, 38, 39, 40, 41, 42, 43, 44, 45, 46, 47, 48, 49, 50, 51, 52, 53, 54, 55] (by decide +kernel) (by decide +kernel)
set_option maxRecDepth 20000 in
theorem gX9_level_X9_levelAt : GoodIn wsX9_level (wsV RX9 132 RX9 yX9_levelAt wsX9_levelAt) := goodIn_app (goodIn_of _ (by decide +kernel)) ggX9_level_X9_levelAt
theorem dX9_level_0 : decode cX9_level 0 = .ok (.aload_n 0, 1) := by decide +kernel
theorem dX9_level_1 : decode cX9_level 1 = .ok (.iconst 0, 1) := by decide +kernel
theorem dX9_level_2 : decode cX9_level 2 = .ok (.putfield 103, 3) := by decide +kernel
theorem dX9_level_5 : decode cX9_level 5 = .ok (.iload_n 1, 1) := by decide +kernel
theorem dX9_level_6 : decode cX9_level 6 = .ok (.iconst 0, 1) := by decide +kernel
theorem dX9_level_7 : decode cX9_level 7 = .ok (.sipush 1440, 3) := by decide +kernel
theorem dX9_level_10 : decode cX9_level 10 = .ok (.invokestatic 125, 3) := by decide +kernel
theorem dX9_level_13 : decode cX9_level 13 = .ok (.ifCond .eq 11, 3) := by decide +kernel
theorem dX9_level_16 : decode cX9_level 16 = .ok (.aload_n 0, 1) := by decide +kernel
theorem dX9_level_17 : decode cX9_level 17 = .ok (.iload_n 1, 1) := by decide +kernel
theorem dX9_level_18 : decode cX9_level 18 = .ok (.invokevirtual 132, 3) := by decide +kernel
theorem dX9_level_21 : decode cX9_level 21 = .ok (.goto 4, 3) := by decide +kernel
theorem dX9_level_24 : decode cX9_level 24 = .ok (.iconst (-1), 1) := by decide +kernel
theorem dX9_level_25 : decode cX9_level 25 = .ok (.ireturn, 1) := by decide +kernel
set_option maxRecDepth 20000 in
theorem ggX9_legs_X9_isIn : GoodIn wsX9_legs wsX9_isIn := goodIn_r _ [7] (by decide +kernel) (by decide +kernel)
set_option maxRecDepth 20000 in
theorem gX9_legs_X9_isIn : GoodIn wsX9_legs (va_wsS RX9 125 yX9_isIn wsX9_isIn) := goodIn_app (goodIn_of _ (by decide +kernel)) ggX9_legs_X9_isIn
theorem dX9_legs_0 : decode cX9_legs 0 = .ok (.aload_n 0, 1) := by decide +kernel
theorem dX9_legs_1 : decode cX9_legs 1 = .ok (.iconst 0, 1) := by decide +kernel
theorem dX9_legs_2 : decode cX9_legs 2 = .ok (.putfield 103, 3) := by decide +kernel
theorem dX9_legs_5 : decode cX9_legs 5 = .ok (.aload_n 0, 1) := by decide +kernel
theorem dX9_legs_6 : decode cX9_legs 6 = .ok (.getfield 122, 3) := by decide +kernel
theorem dX9_legs_9 : decode cX9_legs 9 = .ok (.ifCond .ne 13, 3) := by decide +kernel
theorem dX9_legs_12 : decode cX9_legs 12 = .ok (.iload_n 1, 1) := by decide +kernel
theorem dX9_legs_13 : decode cX9_legs 13 = .ok (.iconst 1, 1) := by decide +kernel
theorem dX9_legs_14 : decode cX9_legs 14 = .ok (.bipush 30, 2) := by decide +kernel
theorem dX9_legs_16 : decode cX9_legs 16 = .ok (.invokestatic 125, 3) := by decide +kernel
theorem dX9_legs_19 : decode cX9_legs 19 = .ok (.ifCond .ne 5, 3) := by decide +kernel
theorem dX9_legs_22 : decode cX9_legs 22 = .ok (.iconst 0, 1) := by decide +kernel
theorem dX9_legs_23 : decode cX9_legs 23 = .ok (.ireturn, 1) := by decide +kernel
theorem dX9_legs_24 : decode cX9_legs 24 = .ok (.aload_n 0, 1) := by decide +kernel
theorem dX9_legs_25 : decode cX9_legs 25 = .ok (.iload_n 1, 1) := by decide +kernel
theorem dX9_legs_26 : decode cX9_legs 26 = .ok (.putfield 50, 3) := by decide +kernel
theorem dX9_legs_29 : decode cX9_legs 29 = .ok (.iconst 1, 1) := by decide +kernel
theorem dX9_legs_30 : decode cX9_legs 30 = .ok (.ireturn, 1) := by decide +kernel
theorem dX9_peek_0 : decode cX9_peek 0 = .ok (.aload_n 0, 1) := by decide +kernel
theorem dX9_peek_1 : decode cX9_peek 1 = .ok (.getfield 116, 3) := by decide +kernel
theorem dX9_peek_4 : decode cX9_peek 4 = .ok (.aload_n 0, 1) := by decide +kernel
theorem dX9_peek_5 : decode cX9_peek 5 = .ok (.getfield 113, 3) := by decide +kernel
theorem dX9_peek_8 : decode cX9_peek 8 = .ok (.if_icmp .ge 19, 3) := by decide +kernel
theorem dX9_peek_11 : decode cX9_peek 11 = .ok (.aload_n 0, 1) := by decide +kernel
theorem dX9_peek_12 : decode cX9_peek 12 = .ok (.getfield 7, 3) := by decide +kernel
theorem dX9_peek_15 : decode cX9_peek 15 = .ok (.aload_n 0, 1) := by decide +kernel
theorem dX9_peek_16 : decode cX9_peek 16 = .ok (.getfield 116, 3) := by decide +kernel
theorem dX9_peek_19 : decode cX9_peek 19 = .ok (.baload, 1) := by decide +kernel
theorem dX9_peek_20 : decode cX9_peek 20 = .ok (.sipush 255, 3) := by decide +kernel
theorem dX9_peek_23 : decode cX9_peek 23 = .ok (.iand, 1) := by decide +kernel
theorem dX9_peek_24 : decode cX9_peek 24 = .ok (.goto 4, 3) := by decide +kernel
theorem dX9_peek_27 : decode cX9_peek 27 = .ok (.iconst (-1), 1) := by decide +kernel
theorem dX9_peek_28 : decode cX9_peek 28 = .ok (.ireturn, 1) := by decide +kernel
theorem dX9_isSmall_0 : decode cX9_isSmall 0 = .ok (.iload_n 0, 1) := by decide +kernel
theorem dX9_isSmall_1 : decode cX9_isSmall 1 = .ok (.bipush 97, 2) := by decide +kernel
theorem dX9_isSmall_3 : decode cX9_isSmall 3 = .ok (.if_icmp .lt 13, 3) := by decide +kernel
theorem dX9_isSmall_6 : decode cX9_isSmall 6 = .ok (.iload_n 0, 1) := by decide +kernel
theorem dX9_isSmall_7 : decode cX9_isSmall 7 = .ok (.bipush 122, 2) := by decide +kernel
theorem dX9_isSmall_9 : decode cX9_isSmall 9 = .ok (.if_icmp .gt 7, 3) := by decide +kernel
theorem dX9_isSmall_12 : decode cX9_isSmall 12 = .ok (.iconst 1, 1) := by decide +kernel
theorem dX9_isSmall_13 : decode cX9_isSmall 13 = .ok (.goto 4, 3) := by decide +kernel
theorem dX9_isSmall_16 : decode cX9_isSmall 16 = .ok (.iconst 0, 1) := by decide +kernel
theorem dX9_isSmall_17 : decode cX9_isSmall 17 = .ok (.ireturn, 1) := by decide +kernel
theorem dX9_isDigit_0 : decode cX9_isDigit 0 = .ok (.iload_n 0, 1) := by decide +kernel
theorem dX9_isDigit_1 : decode cX9_isDigit 1 = .ok (.bipush 48, 2) := by decide +kernel
theorem dX9_isDigit_3 : decode cX9_isDigit 3 = .ok (.if_icmp .lt 13, 3) := by decide +kernel
theorem dX9_isDigit_6 : decode cX9_isDigit 6 = .ok (.iload_n 0, 1) := by decide +kernel
theorem dX9_isDigit_7 : decode cX9_isDigit 7 = .ok (.bipush 57, 2) := by decide +kernel
theorem dX9_isDigit_9 : decode cX9_isDigit 9 = .ok (.if_icmp .gt 7, 3) := by decide +kernel
theorem dX9_isDigit_12 : decode cX9_isDigit 12 = .ok (.iconst 1, 1) := by decide +kernel
theorem dX9_isDigit_13 : decode cX9_isDigit 13 = .ok (.goto 4, 3) := by decide +kernel
theorem dX9_isDigit_16 : decode cX9_isDigit 16 = .ok (.iconst 0, 1) := by decide +kernel
theorem dX9_isDigit_17 : decode cX9_isDigit 17 = .ok (.ireturn, 1) := by decide +kernel
set_option maxRecDepth 20000 in
theorem ggX9_next_X9_peek : GoodIn wsX9_next wsX9_peek := goodIn_r _ [11, 1, 3, 12, 19, 20, 21, 22, 23, 24, 25, 26, 27, 28, 29, 30, 31, 32, 33, 34, 35, 36, 37, 38, 39, 40, 41, 42, 43, 44, 45, 46, 47, 48, 49, 50, 51, 52, 53, 54, 55, 56, 57, 58, 59, 60, 61, 62, 63] (by decide +kernel) (by decide +kernel)
set_option maxRecDepth 20000 in
theorem gX9_next_X9_peek : GoodIn wsX9_next (wsV RX9 136 RX9 yX9_peek wsX9_peek) := goodIn_app (goodIn_of _ (by decide +kernel)) ggX9_next_X9_peek
set_option maxRecDepth 20000 in
theorem ggX9_next_X9_isSmall : GoodIn wsX9_next wsX9_isSmall := goodIn_r _ [15] (by decide +kernel) (by decide +kernel)
set_option maxRecDepth 20000 in
theorem gX9_next_X9_isSmall : GoodIn wsX9_next (va_wsS RX9 146 yX9_isSmall wsX9_isSmall) := goodIn_app (goodIn_of _ (by decide +kernel)) ggX9_next_X9_isSmall
set_option maxRecDepth 20000 in
theorem ggX9_next_X9_isDigit : GoodIn wsX9_next wsX9_isDigit := goodIn_r _ [18] (by decide +kernel) (by decide +kernel)
set_option maxRecDepth 20000 in
theorem gX9_next_X9_isDigit : GoodIn wsX9_next (va_wsS RX9 150 yX9_isDigit wsX9_isDigit) := goodIn_app (goodIn_of _ (by decide +kernel)) ggX9_next_X9_isDigit
theorem dX9_next_0 : decode cX9_next 0 = .ok (.aload_n 0, 1) := by decide +kernel
theorem dX9_next_1 : decode cX9_next 1 = .ok (.invokevirtual 136, 3) := by decide +kernel
theorem dX9_next_4 : decode cX9_next 4 = .ok (.bipush 32, 2) := by decide +kernel
theorem dX9_next_6 : decode cX9_next 6 = .ok (.if_icmp .eq 12, 3) := by decide +kernel
theorem dX9_next_9 : decode cX9_next 9 = .ok (.aload_n 0, 1) := by decide +kernel
theorem dX9_next_10 : decode cX9_next 10 = .ok (.invokevirtual 136, 3) := by decide +kernel
theorem dX9_next_13 : decode cX9_next 13 = .ok (.bipush 10, 2) := by decide +kernel
theorem dX9_next_15 : decode cX9_next 15 = .ok (.if_icmp .ne 16, 3) := by decide +kernel
theorem dX9_next_18 : decode cX9_next 18 = .ok (.aload_n 0, 1) := by decide +kernel
theorem dX9_next_19 : decode cX9_next 19 = .ok (.dup, 1) := by decide +kernel
theorem dX9_next_20 : decode cX9_next 20 = .ok (.getfield 116, 3) := by decide +kernel
theorem dX9_next_23 : decode cX9_next 23 = .ok (.iconst 1, 1) := by decide +kernel
theorem dX9_next_24 : decode cX9_next 24 = .ok (.iadd, 1) := by decide +kernel
theorem dX9_next_25 : decode cX9_next 25 = .ok (.putfield 116, 3) := by decide +kernel
theorem dX9_next_28 : decode cX9_next 28 = .ok (.goto (-28), 3) := by decide +kernel
theorem dX9_next_31 : decode cX9_next 31 = .ok (.aload_n 0, 1) := by decide +kernel
theorem dX9_next_32 : decode cX9_next 32 = .ok (.aload_n 0, 1) := by decide +kernel
theorem dX9_next_33 : decode cX9_next 33 = .ok (.getfield 116, 3) := by decide +kernel
theorem dX9_next_36 : decode cX9_next 36 = .ok (.putfield 140, 3) := by decide +kernel
theorem dX9_next_39 : decode cX9_next 39 = .ok (.aload_n 0, 1) := by decide +kernel
theorem dX9_next_40 : decode cX9_next 40 = .ok (.getfield 113, 3) := by decide +kernel
theorem dX9_next_43 : decode cX9_next 43 = .ok (.sipush 400, 3) := by decide +kernel
theorem dX9_next_46 : decode cX9_next 46 = .ok (.if_icmp .le 26, 3) := by decide +kernel
theorem dX9_next_49 : decode cX9_next 49 = .ok (.aload_n 0, 1) := by decide +kernel
theorem dX9_next_50 : decode cX9_next 50 = .ok (.getfield 116, 3) := by decide +kernel
theorem dX9_next_53 : decode cX9_next 53 = .ok (.sipush 400, 3) := by decide +kernel
theorem dX9_next_56 : decode cX9_next 56 = .ok (.if_icmp .lt 16, 3) := by decide +kernel
theorem dX9_next_59 : decode cX9_next 59 = .ok (.aload_n 0, 1) := by decide +kernel
theorem dX9_next_60 : decode cX9_next 60 = .ok (.sipush 400, 3) := by decide +kernel
theorem dX9_next_63 : decode cX9_next 63 = .ok (.putfield 140, 3) := by decide +kernel
theorem dX9_next_66 : decode cX9_next 66 = .ok (.aload_n 0, 1) := by decide +kernel
theorem dX9_next_67 : decode cX9_next 67 = .ok (.iconst 0, 1) := by decide +kernel
theorem dX9_next_68 : decode cX9_next 68 = .ok (.putfield 143, 3) := by decide +kernel
theorem dX9_next_71 : decode cX9_next 71 = .ok (.return_, 1) := by decide +kernel
theorem dX9_next_72 : decode cX9_next 72 = .ok (.aload_n 0, 1) := by decide +kernel
theorem dX9_next_73 : decode cX9_next 73 = .ok (.invokevirtual 136, 3) := by decide +kernel
theorem dX9_next_76 : decode cX9_next 76 = .ok (.istore_n 1, 1) := by decide +kernel
theorem dX9_next_77 : decode cX9_next 77 = .ok (.iload_n 1, 1) := by decide +kernel
theorem dX9_next_78 : decode cX9_next 78 = .ok (.ifCond .ge 9, 3) := by decide +kernel
theorem dX9_next_81 : decode cX9_next 81 = .ok (.aload_n 0, 1) := by decide +kernel
theorem dX9_next_82 : decode cX9_next 82 = .ok (.iconst 0, 1) := by decide +kernel
theorem dX9_next_83 : decode cX9_next 83 = .ok (.putfield 143, 3) := by decide +kernel
theorem dX9_next_86 : decode cX9_next 86 = .ok (.return_, 1) := by decide +kernel
theorem dX9_next_87 : decode cX9_next 87 = .ok (.iload_n 1, 1) := by decide +kernel
theorem dX9_next_88 : decode cX9_next 88 = .ok (.invokestatic 146, 3) := by decide +kernel
theorem dX9_next_91 : decode cX9_next 91 = .ok (.ifCond .ne 36, 3) := by decide +kernel
theorem dX9_next_94 : decode cX9_next 94 = .ok (.iload_n 1, 1) := by decide +kernel
theorem dX9_next_95 : decode cX9_next 95 = .ok (.invokestatic 150, 3) := by decide +kernel
theorem dX9_next_98 : decode cX9_next 98 = .ok (.ifCond .ne 29, 3) := by decide +kernel
theorem dX9_next_101 : decode cX9_next 101 = .ok (.aload_n 0, 1) := by decide +kernel
theorem dX9_next_102 : decode cX9_next 102 = .ok (.iload_n 1, 1) := by decide +kernel
theorem dX9_next_103 : decode cX9_next 103 = .ok (.bipush 59, 2) := by decide +kernel
theorem dX9_next_105 : decode cX9_next 105 = .ok (.if_icmp .ne 7, 3) := by decide +kernel
theorem dX9_next_108 : decode cX9_next 108 = .ok (.iconst 3, 1) := by decide +kernel
theorem dX9_next_109 : decode cX9_next 109 = .ok (.goto 4, 3) := by decide +kernel
theorem dX9_next_112 : decode cX9_next 112 = .ok (.iconst 4, 1) := by decide +kernel
theorem dX9_next_113 : decode cX9_next 113 = .ok (.putfield 143, 3) := by decide +kernel
theorem dX9_next_116 : decode cX9_next 116 = .ok (.aload_n 0, 1) := by decide +kernel
theorem dX9_next_117 : decode cX9_next 117 = .ok (.dup, 1) := by decide +kernel
theorem dX9_next_118 : decode cX9_next 118 = .ok (.getfield 116, 3) := by decide +kernel
theorem dX9_next_121 : decode cX9_next 121 = .ok (.iconst 1, 1) := by decide +kernel
theorem dX9_next_122 : decode cX9_next 122 = .ok (.iadd, 1) := by decide +kernel
theorem dX9_next_123 : decode cX9_next 123 = .ok (.putfield 116, 3) := by decide +kernel
theorem dX9_next_126 : decode cX9_next 126 = .ok (.return_, 1) := by decide +kernel
theorem dX9_next_127 : decode cX9_next 127 = .ok (.iload_n 1, 1) := by decide +kernel
theorem dX9_next_128 : decode cX9_next 128 = .ok (.invokestatic 146, 3) := by decide +kernel
theorem dX9_next_131 : decode cX9_next 131 = .ok (.istore_n 2, 1) := by decide +kernel
theorem dX9_next_132 : decode cX9_next 132 = .ok (.iconst 1, 1) := by decide +kernel
theorem dX9_next_133 : decode cX9_next 133 = .ok (.istore_n 3, 1) := by decide +kernel
theorem dX9_next_134 : decode cX9_next 134 = .ok (.iconst 0, 1) := by decide +kernel
theorem dX9_next_135 : decode cX9_next 135 = .ok (.istore 4, 2) := by decide +kernel
theorem dX9_next_137 : decode cX9_next 137 = .ok (.aload_n 0, 1) := by decide +kernel
theorem dX9_next_138 : decode cX9_next 138 = .ok (.lconst 0, 1) := by decide +kernel
theorem dX9_next_139 : decode cX9_next 139 = .ok (.putfield 153, 3) := by decide +kernel
theorem dX9_next_142 : decode cX9_next 142 = .ok (.aload_n 0, 1) := by decide +kernel
theorem dX9_next_143 : decode cX9_next 143 = .ok (.iconst 0, 1) := by decide +kernel
theorem dX9_next_144 : decode cX9_next 144 = .ok (.putfield 157, 3) := by decide +kernel
theorem dX9_next_147 : decode cX9_next 147 = .ok (.aload_n 0, 1) := by decide +kernel
theorem dX9_next_148 : decode cX9_next 148 = .ok (.invokevirtual 136, 3) := by decide +kernel
theorem dX9_next_151 : decode cX9_next 151 = .ok (.invokestatic 146, 3) := by decide +kernel
theorem dX9_next_154 : decode cX9_next 154 = .ok (.ifCond .ne 13, 3) := by decide +kernel
theorem dX9_next_157 : decode cX9_next 157 = .ok (.aload_n 0, 1) := by decide +kernel
theorem dX9_next_158 : decode cX9_next 158 = .ok (.invokevirtual 136, 3) := by decide +kernel
theorem dX9_next_161 : decode cX9_next 161 = .ok (.invokestatic 150, 3) := by decide +kernel
theorem dX9_next_164 : decode cX9_next 164 = .ok (.ifCond .eq 89, 3) := by decide +kernel
theorem dX9_next_167 : decode cX9_next 167 = .ok (.iload_n 3, 1) := by decide +kernel
theorem dX9_next_168 : decode cX9_next 168 = .ok (.ifCond .eq 18, 3) := by decide +kernel
theorem dX9_next_171 : decode cX9_next 171 = .ok (.aload_n 0, 1) := by decide +kernel
theorem dX9_next_172 : decode cX9_next 172 = .ok (.invokevirtual 136, 3) := by decide +kernel
theorem dX9_next_175 : decode cX9_next 175 = .ok (.invokestatic 146, 3) := by decide +kernel
theorem dX9_next_178 : decode cX9_next 178 = .ok (.iload_n 2, 1) := by decide +kernel
theorem dX9_next_179 : decode cX9_next 179 = .ok (.if_icmp .ne 7, 3) := by decide +kernel
theorem dX9_next_182 : decode cX9_next 182 = .ok (.iconst 1, 1) := by decide +kernel
theorem dX9_next_183 : decode cX9_next 183 = .ok (.goto 4, 3) := by decide +kernel
theorem dX9_next_186 : decode cX9_next 186 = .ok (.iconst 0, 1) := by decide +kernel
theorem dX9_next_187 : decode cX9_next 187 = .ok (.istore_n 3, 1) := by decide +kernel
theorem dX9_next_188 : decode cX9_next 188 = .ok (.iload 4, 2) := by decide +kernel
theorem dX9_next_190 : decode cX9_next 190 = .ok (.bipush 7, 2) := by decide +kernel
theorem dX9_next_192 : decode cX9_next 192 = .ok (.if_icmp .ge 20, 3) := by decide +kernel
theorem dX9_next_195 : decode cX9_next 195 = .ok (.aload_n 0, 1) := by decide +kernel
theorem dX9_next_196 : decode cX9_next 196 = .ok (.aload_n 0, 1) := by decide +kernel
theorem dX9_next_197 : decode cX9_next 197 = .ok (.getfield 153, 3) := by decide +kernel
theorem dX9_next_200 : decode cX9_next 200 = .ok (.bipush 8, 2) := by decide +kernel
theorem dX9_next_202 : decode cX9_next 202 = .ok (.lshl, 1) := by decide +kernel
theorem dX9_next_203 : decode cX9_next 203 = .ok (.aload_n 0, 1) := by decide +kernel
theorem dX9_next_204 : decode cX9_next 204 = .ok (.invokevirtual 136, 3) := by decide +kernel
theorem dX9_next_207 : decode cX9_next 207 = .ok (.i2l, 1) := by decide +kernel
theorem dX9_next_208 : decode cX9_next 208 = .ok (.lor, 1) := by decide +kernel
theorem dX9_next_209 : decode cX9_next 209 = .ok (.putfield 153, 3) := by decide +kernel
theorem dX9_next_212 : decode cX9_next 212 = .ok (.iload 4, 2) := by decide +kernel
theorem dX9_next_214 : decode cX9_next 214 = .ok (.iconst 4, 1) := by decide +kernel
theorem dX9_next_215 : decode cX9_next 215 = .ok (.if_icmp .ge 22, 3) := by decide +kernel
theorem dX9_next_218 : decode cX9_next 218 = .ok (.aload_n 0, 1) := by decide +kernel
theorem dX9_next_219 : decode cX9_next 219 = .ok (.bipush 10, 2) := by decide +kernel
theorem dX9_next_221 : decode cX9_next 221 = .ok (.aload_n 0, 1) := by decide +kernel
theorem dX9_next_222 : decode cX9_next 222 = .ok (.getfield 157, 3) := by decide +kernel
theorem dX9_next_225 : decode cX9_next 225 = .ok (.imul, 1) := by decide +kernel
theorem dX9_next_226 : decode cX9_next 226 = .ok (.aload_n 0, 1) := by decide +kernel
theorem dX9_next_227 : decode cX9_next 227 = .ok (.invokevirtual 136, 3) := by decide +kernel
theorem dX9_next_230 : decode cX9_next 230 = .ok (.iadd, 1) := by decide +kernel
theorem dX9_next_231 : decode cX9_next 231 = .ok (.bipush 48, 2) := by decide +kernel
theorem dX9_next_233 : decode cX9_next 233 = .ok (.isub, 1) := by decide +kernel
theorem dX9_next_234 : decode cX9_next 234 = .ok (.putfield 157, 3) := by decide +kernel
theorem dX9_next_237 : decode cX9_next 237 = .ok (.iinc 4 1, 3) := by decide +kernel
theorem dX9_next_240 : decode cX9_next 240 = .ok (.aload_n 0, 1) := by decide +kernel
theorem dX9_next_241 : decode cX9_next 241 = .ok (.dup, 1) := by decide +kernel
theorem dX9_next_242 : decode cX9_next 242 = .ok (.getfield 116, 3) := by decide +kernel
theorem dX9_next_245 : decode cX9_next 245 = .ok (.iconst 1, 1) := by decide +kernel
theorem dX9_next_246 : decode cX9_next 246 = .ok (.iadd, 1) := by decide +kernel
theorem dX9_next_247 : decode cX9_next 247 = .ok (.putfield 116, 3) := by decide +kernel
theorem dX9_next_250 : decode cX9_next 250 = .ok (.goto (-103), 3) := by decide +kernel
theorem dX9_next_253 : decode cX9_next 253 = .ok (.iload 4, 2) := by decide +kernel
theorem dX9_next_255 : decode cX9_next 255 = .ok (.bipush 7, 2) := by decide +kernel
theorem dX9_next_257 : decode cX9_next 257 = .ok (.if_icmp .le 8, 3) := by decide +kernel
theorem dX9_next_260 : decode cX9_next 260 = .ok (.aload_n 0, 1) := by decide +kernel
theorem dX9_next_261 : decode cX9_next 261 = .ok (.lconst 0, 1) := by decide +kernel
theorem dX9_next_262 : decode cX9_next 262 = .ok (.putfield 153, 3) := by decide +kernel
theorem dX9_next_265 : decode cX9_next 265 = .ok (.aload_n 0, 1) := by decide +kernel
theorem dX9_next_266 : decode cX9_next 266 = .ok (.iload_n 3, 1) := by decide +kernel
theorem dX9_next_267 : decode cX9_next 267 = .ok (.ifCond .eq 13, 3) := by decide +kernel
theorem dX9_next_270 : decode cX9_next 270 = .ok (.iload_n 2, 1) := by decide +kernel
theorem dX9_next_271 : decode cX9_next 271 = .ok (.ifCond .ne 13, 3) := by decide +kernel
theorem dX9_next_274 : decode cX9_next 274 = .ok (.iload 4, 2) := by decide +kernel
theorem dX9_next_276 : decode cX9_next 276 = .ok (.iconst 4, 1) := by decide +kernel
theorem dX9_next_277 : decode cX9_next 277 = .ok (.if_icmp .le 7, 3) := by decide +kernel
theorem dX9_next_280 : decode cX9_next 280 = .ok (.iconst 4, 1) := by decide +kernel
theorem dX9_next_281 : decode cX9_next 281 = .ok (.goto 12, 3) := by decide +kernel
theorem dX9_next_284 : decode cX9_next 284 = .ok (.iload_n 2, 1) := by decide +kernel
theorem dX9_next_285 : decode cX9_next 285 = .ok (.ifCond .eq 7, 3) := by decide +kernel
theorem dX9_next_288 : decode cX9_next 288 = .ok (.iconst 1, 1) := by decide +kernel
theorem dX9_next_289 : decode cX9_next 289 = .ok (.goto 4, 3) := by decide +kernel
theorem dX9_next_292 : decode cX9_next 292 = .ok (.iconst 2, 1) := by decide +kernel
theorem dX9_next_293 : decode cX9_next 293 = .ok (.putfield 143, 3) := by decide +kernel
theorem dX9_next_296 : decode cX9_next 296 = .ok (.return_, 1) := by decide +kernel
theorem dX9_wrong_0 : decode cX9_wrong 0 = .ok (.aload_n 0, 1) := by decide +kernel
theorem dX9_wrong_1 : decode cX9_wrong 1 = .ok (.iload_n 1, 1) := by decide +kernel
theorem dX9_wrong_2 : decode cX9_wrong 2 = .ok (.putfield 160, 3) := by decide +kernel
theorem dX9_wrong_5 : decode cX9_wrong 5 = .ok (.aload_n 0, 1) := by decide +kernel
theorem dX9_wrong_6 : decode cX9_wrong 6 = .ok (.iload_n 2, 1) := by decide +kernel
theorem dX9_wrong_7 : decode cX9_wrong 7 = .ok (.putfield 163, 3) := by decide +kernel
theorem dX9_wrong_10 : decode cX9_wrong 10 = .ok (.iconst 0, 1) := by decide +kernel
theorem dX9_wrong_11 : decode cX9_wrong 11 = .ok (.ireturn, 1) := by decide +kernel
set_option maxRecDepth 20000 in
theorem ggX9_cant_X9_wrong : GoodIn wsX9_cant wsX9_wrong := goodIn_r _ [7, 8, 9, 10, 11, 12, 13, 14, 15, 16, 17, 18, 19, 20, 21, 22, 23, 24, 25, 26, 27, 28, 29, 30, 31, 32, 33, 34, 35, 36, 37, 38, 39, 40, 41, 42, 43, 44, 45, 46, 47, 48, 49, 50, 51, 52, 53, 54] (by decide +kernel) (by decide +kernel)
set_option maxRecDepth 20000 in
theorem gX9_cant_X9_wrong : GoodIn wsX9_cant (wsV RX9 166 RX9 yX9_wrong wsX9_wrong) := goodIn_app (goodIn_of _ (by decide +kernel)) ggX9_cant_X9_wrong
theorem dX9_cant_0 : decode cX9_cant 0 = .ok (.aload_n 0, 1) := by decide +kernel
theorem dX9_cant_1 : decode cX9_cant 1 = .ok (.aload_n 0, 1) := by decide +kernel
theorem dX9_cant_2 : decode cX9_cant 2 = .ok (.getfield 143, 3) := by decide +kernel
theorem dX9_cant_5 : decode cX9_cant 5 = .ok (.iconst 4, 1) := by decide +kernel
theorem dX9_cant_6 : decode cX9_cant 6 = .ok (.if_icmp .ne 7, 3) := by decide +kernel
theorem dX9_cant_9 : decode cX9_cant 9 = .ok (.iconst 1, 1) := by decide +kernel
theorem dX9_cant_10 : decode cX9_cant 10 = .ok (.goto 4, 3) := by decide +kernel
theorem dX9_cant_13 : decode cX9_cant 13 = .ok (.iconst 2, 1) := by decide +kernel
theorem dX9_cant_14 : decode cX9_cant 14 = .ok (.aload_n 0, 1) := by decide +kernel
theorem dX9_cant_15 : decode cX9_cant 15 = .ok (.getfield 140, 3) := by decide +kernel
theorem dX9_cant_18 : decode cX9_cant 18 = .ok (.invokevirtual 166, 3) := by decide +kernel
theorem dX9_cant_21 : decode cX9_cant 21 = .ok (.ireturn, 1) := by decide +kernel
theorem dX9_isWord_0 : decode cX9_isWord 0 = .ok (.aload_n 0, 1) := by decide +kernel
theorem dX9_isWord_1 : decode cX9_isWord 1 = .ok (.getfield 143, 3) := by decide +kernel
theorem dX9_isWord_4 : decode cX9_isWord 4 = .ok (.iconst 1, 1) := by decide +kernel
theorem dX9_isWord_5 : decode cX9_isWord 5 = .ok (.if_icmp .ne 16, 3) := by decide +kernel
theorem dX9_isWord_8 : decode cX9_isWord 8 = .ok (.aload_n 0, 1) := by decide +kernel
theorem dX9_isWord_9 : decode cX9_isWord 9 = .ok (.getfield 153, 3) := by decide +kernel
theorem dX9_isWord_12 : decode cX9_isWord 12 = .ok (.lload_n 1, 1) := by decide +kernel
theorem dX9_isWord_13 : decode cX9_isWord 13 = .ok (.lcmp, 1) := by decide +kernel
theorem dX9_isWord_14 : decode cX9_isWord 14 = .ok (.ifCond .ne 7, 3) := by decide +kernel
theorem dX9_isWord_17 : decode cX9_isWord 17 = .ok (.iconst 1, 1) := by decide +kernel
theorem dX9_isWord_18 : decode cX9_isWord 18 = .ok (.goto 4, 3) := by decide +kernel
theorem dX9_isWord_21 : decode cX9_isWord 21 = .ok (.iconst 0, 1) := by decide +kernel
theorem dX9_isWord_22 : decode cX9_isWord 22 = .ok (.ireturn, 1) := by decide +kernel
theorem dX9_isEnd_0 : decode cX9_isEnd 0 = .ok (.aload_n 0, 1) := by decide +kernel
theorem dX9_isEnd_1 : decode cX9_isEnd 1 = .ok (.getfield 143, 3) := by decide +kernel
theorem dX9_isEnd_4 : decode cX9_isEnd 4 = .ok (.ifCond .ne 27, 3) := by decide +kernel
theorem dX9_isEnd_7 : decode cX9_isEnd 7 = .ok (.aload_n 0, 1) := by decide +kernel
theorem dX9_isEnd_8 : decode cX9_isEnd 8 = .ok (.getfield 113, 3) := by decide +kernel
theorem dX9_isEnd_11 : decode cX9_isEnd 11 = .ok (.sipush 400, 3) := by decide +kernel
theorem dX9_isEnd_14 : decode cX9_isEnd 14 = .ok (.if_icmp .le 13, 3) := by decide +kernel
theorem dX9_isEnd_17 : decode cX9_isEnd 17 = .ok (.aload_n 0, 1) := by decide +kernel
theorem dX9_isEnd_18 : decode cX9_isEnd 18 = .ok (.getfield 140, 3) := by decide +kernel
theorem dX9_isEnd_21 : decode cX9_isEnd 21 = .ok (.sipush 400, 3) := by decide +kernel
theorem dX9_isEnd_24 : decode cX9_isEnd 24 = .ok (.if_icmp .eq 7, 3) := by decide +kernel
theorem dX9_isEnd_27 : decode cX9_isEnd 27 = .ok (.iconst 1, 1) := by decide +kernel
theorem dX9_isEnd_28 : decode cX9_isEnd 28 = .ok (.goto 4, 3) := by decide +kernel
theorem dX9_isEnd_31 : decode cX9_isEnd 31 = .ok (.iconst 0, 1) := by decide +kernel
theorem dX9_isEnd_32 : decode cX9_isEnd 32 = .ok (.ireturn, 1) := by decide +kernel
set_option maxRecDepth 20000 in
theorem ggX9_timetable_X9_taken : GoodIn wsX9_timetable wsX9_taken := goodIn_r _ [13, 14, 15, 16, 65, 66, 67, 68, 69, 70, 71, 72, 73, 74, 75, 76, 77, 78, 79, 80, 81, 82, 83, 84, 85, 86, 87, 88, 89, 90, 91, 92, 93, 94, 95, 96, 97, 98, 99, 100, 101, 102, 103, 104, 105, 106, 107, 108, 109] (by decide +kernel) (by decide +kernel)
set_option maxRecDepth 20000 in
theorem gX9_timetable_X9_taken : GoodIn wsX9_timetable (wsV RX9 129 RX9 yX9_taken wsX9_taken) := goodIn_app (goodIn_of _ (by decide +kernel)) ggX9_timetable_X9_taken
set_option maxRecDepth 20000 in
theorem ggX9_timetable_X9_next : GoodIn wsX9_timetable wsX9_next := goodIn_r _ [20, 16, 21, 15, 22, 23, 24, 25, 26, 27, 12, 28, 29, 30, 31, 32, 33, 34, 35, 65, 66, 67, 68, 69, 70, 71, 72, 73, 74, 75, 76, 77, 78, 79, 80, 81, 82, 83, 84, 85, 86, 87, 88, 89, 90, 91, 92, 93, 94, 95, 96, 97, 98, 99, 100, 101, 102, 103, 104, 105, 106, 107, 108, 109] (by decide +kernel) (by decide +kernel)
set_option maxRecDepth 20000 in
theorem gX9_timetable_X9_next : GoodIn wsX9_timetable (wsV RX9 170 RX9 yX9_next wsX9_next) := goodIn_app (goodIn_of _ (by decide +kernel)) ggX9_timetable_X9_next
set_option maxRecDepth 20000 in
theorem ggX9_timetable_X9_isEnd : GoodIn wsX9_timetable wsX9_isEnd := goodIn_r _ [39, 22, 15, 21, 65, 66, 67, 68, 69, 70, 71, 72, 73, 74, 75, 76, 77, 78, 79, 80, 81, 82, 83, 84, 85, 86, 87, 88, 89, 90, 91, 92, 93, 94, 95, 96, 97, 98, 99, 100, 101, 102, 103, 104, 105, 106, 107, 108, 109] (by decide +kernel) (by decide +kernel)
set_option maxRecDepth 20000 in
theorem gX9_timetable_X9_isEnd : GoodIn wsX9_timetable (wsV RX9 173 RX9 yX9_isEnd wsX9_isEnd) := goodIn_app (goodIn_of _ (by decide +kernel)) ggX9_timetable_X9_isEnd
set_option maxRecDepth 20000 in
theorem ggX9_timetable_X9_entry : GoodIn wsX9_timetable wsX9_entry := goodIn_r _ [43, 44, 22, 24, 21, 4, 45, 46, 47, 5, 48, 49, 50, 12, 51, 23, 52, 53, 54, 55, 56, 57, 58, 59, 3, 6, 17, 18, 19, 20, 16, 15, 25, 26, 27, 28, 29, 30, 31, 32, 33, 34, 35, 60, 61, 62, 63, 64, 7, 8, 65, 66, 67, 68, 69, 70, 71, 72, 73, 74, 75, 76, 77, 78, 79, 80, 81, 82, 83, 84, 85, 86, 87, 88, 89, 90, 91, 92, 93, 94, 95, 96, 97, 98, 99, 100, 101, 102, 103, 104, 105, 106, 107, 108, 109] (by decide +kernel) (by decide +kernel)
set_option maxRecDepth 20000 in
theorem gX9_timetable_X9_entry : GoodIn wsX9_timetable (wsV RX9 177 RX9 yX9_entry wsX9_entry) := goodIn_app (goodIn_of _ (by decide +kernel)) ggX9_timetable_X9_entry
theorem dX9_timetable_0 : decode cX9_timetable 0 = .ok (.aload_n 0, 1) := by decide +kernel
theorem dX9_timetable_1 : decode cX9_timetable 1 = .ok (.iconst 0, 1) := by decide +kernel
theorem dX9_timetable_2 : decode cX9_timetable 2 = .ok (.putfield 103, 3) := by decide +kernel
theorem dX9_timetable_5 : decode cX9_timetable 5 = .ok (.aload_n 0, 1) := by decide +kernel
theorem dX9_timetable_6 : decode cX9_timetable 6 = .ok (.invokevirtual 129, 3) := by decide +kernel
theorem dX9_timetable_9 : decode cX9_timetable 9 = .ok (.aload_n 0, 1) := by decide +kernel
theorem dX9_timetable_10 : decode cX9_timetable 10 = .ok (.getfield 122, 3) := by decide +kernel
theorem dX9_timetable_13 : decode cX9_timetable 13 = .ok (.ifCond .eq 7, 3) := by decide +kernel
theorem dX9_timetable_16 : decode cX9_timetable 16 = .ok (.sipush (-500), 3) := by decide +kernel
theorem dX9_timetable_19 : decode cX9_timetable 19 = .ok (.ireturn, 1) := by decide +kernel
theorem dX9_timetable_20 : decode cX9_timetable 20 = .ok (.aload_n 0, 1) := by decide +kernel
theorem dX9_timetable_21 : decode cX9_timetable 21 = .ok (.iconst 0, 1) := by decide +kernel
theorem dX9_timetable_22 : decode cX9_timetable 22 = .ok (.putfield 160, 3) := by decide +kernel
theorem dX9_timetable_25 : decode cX9_timetable 25 = .ok (.iconst 0, 1) := by decide +kernel
theorem dX9_timetable_26 : decode cX9_timetable 26 = .ok (.istore_n 1, 1) := by decide +kernel
theorem dX9_timetable_27 : decode cX9_timetable 27 = .ok (.iload_n 1, 1) := by decide +kernel
theorem dX9_timetable_28 : decode cX9_timetable 28 = .ok (.bipush 8, 2) := by decide +kernel
theorem dX9_timetable_30 : decode cX9_timetable 30 = .ok (.if_icmp .ge 26, 3) := by decide +kernel
theorem dX9_timetable_33 : decode cX9_timetable 33 = .ok (.aload_n 0, 1) := by decide +kernel
theorem dX9_timetable_34 : decode cX9_timetable 34 = .ok (.getfield 63, 3) := by decide +kernel
theorem dX9_timetable_37 : decode cX9_timetable 37 = .ok (.iload_n 1, 1) := by decide +kernel
theorem dX9_timetable_38 : decode cX9_timetable 38 = .ok (.iconst 0, 1) := by decide +kernel
theorem dX9_timetable_39 : decode cX9_timetable 39 = .ok (.bastore, 1) := by decide +kernel
theorem dX9_timetable_40 : decode cX9_timetable 40 = .ok (.aload_n 0, 1) := by decide +kernel
theorem dX9_timetable_41 : decode cX9_timetable 41 = .ok (.getfield 60, 3) := by decide +kernel
theorem dX9_timetable_44 : decode cX9_timetable 44 = .ok (.bipush 8, 2) := by decide +kernel
theorem dX9_timetable_46 : decode cX9_timetable 46 = .ok (.iload_n 1, 1) := by decide +kernel
theorem dX9_timetable_47 : decode cX9_timetable 47 = .ok (.iadd, 1) := by decide +kernel
theorem dX9_timetable_48 : decode cX9_timetable 48 = .ok (.iconst 0, 1) := by decide +kernel
theorem dX9_timetable_49 : decode cX9_timetable 49 = .ok (.iastore, 1) := by decide +kernel
theorem dX9_timetable_50 : decode cX9_timetable 50 = .ok (.iinc 1 1, 3) := by decide +kernel
theorem dX9_timetable_53 : decode cX9_timetable 53 = .ok (.goto (-26), 3) := by decide +kernel
theorem dX9_timetable_56 : decode cX9_timetable 56 = .ok (.iconst 0, 1) := by decide +kernel
theorem dX9_timetable_57 : decode cX9_timetable 57 = .ok (.istore_n 1, 1) := by decide +kernel
theorem dX9_timetable_58 : decode cX9_timetable 58 = .ok (.aload_n 0, 1) := by decide +kernel
theorem dX9_timetable_59 : decode cX9_timetable 59 = .ok (.invokevirtual 170, 3) := by decide +kernel
theorem dX9_timetable_62 : decode cX9_timetable 62 = .ok (.aload_n 0, 1) := by decide +kernel
theorem dX9_timetable_63 : decode cX9_timetable 63 = .ok (.invokevirtual 173, 3) := by decide +kernel
theorem dX9_timetable_66 : decode cX9_timetable 66 = .ok (.ifCond .ne 23, 3) := by decide +kernel
theorem dX9_timetable_69 : decode cX9_timetable 69 = .ok (.aload_n 0, 1) := by decide +kernel
theorem dX9_timetable_70 : decode cX9_timetable 70 = .ok (.invokevirtual 177, 3) := by decide +kernel
theorem dX9_timetable_73 : decode cX9_timetable 73 = .ok (.ifCond .ne 10, 3) := by decide +kernel
theorem dX9_timetable_76 : decode cX9_timetable 76 = .ok (.iconst (-1), 1) := by decide +kernel
theorem dX9_timetable_77 : decode cX9_timetable 77 = .ok (.aload_n 0, 1) := by decide +kernel
theorem dX9_timetable_78 : decode cX9_timetable 78 = .ok (.getfield 163, 3) := by decide +kernel
theorem dX9_timetable_81 : decode cX9_timetable 81 = .ok (.isub, 1) := by decide +kernel
theorem dX9_timetable_82 : decode cX9_timetable 82 = .ok (.ireturn, 1) := by decide +kernel
theorem dX9_timetable_83 : decode cX9_timetable 83 = .ok (.iinc 1 1, 3) := by decide +kernel
theorem dX9_timetable_86 : decode cX9_timetable 86 = .ok (.goto (-24), 3) := by decide +kernel
theorem dX9_timetable_89 : decode cX9_timetable 89 = .ok (.iconst 0, 1) := by decide +kernel
theorem dX9_timetable_90 : decode cX9_timetable 90 = .ok (.istore_n 2, 1) := by decide +kernel
theorem dX9_timetable_91 : decode cX9_timetable 91 = .ok (.iload_n 2, 1) := by decide +kernel
theorem dX9_timetable_92 : decode cX9_timetable 92 = .ok (.bipush 96, 2) := by decide +kernel
theorem dX9_timetable_94 : decode cX9_timetable 94 = .ok (.if_icmp .ge 39, 3) := by decide +kernel
theorem dX9_timetable_97 : decode cX9_timetable 97 = .ok (.aload_n 0, 1) := by decide +kernel
theorem dX9_timetable_98 : decode cX9_timetable 98 = .ok (.getfield 54, 3) := by decide +kernel
theorem dX9_timetable_101 : decode cX9_timetable 101 = .ok (.iload_n 2, 1) := by decide +kernel
theorem dX9_timetable_102 : decode cX9_timetable 102 = .ok (.aload_n 0, 1) := by decide +kernel
theorem dX9_timetable_103 : decode cX9_timetable 103 = .ok (.getfield 54, 3) := by decide +kernel
theorem dX9_timetable_106 : decode cX9_timetable 106 = .ok (.bipush 96, 2) := by decide +kernel
theorem dX9_timetable_108 : decode cX9_timetable 108 = .ok (.iload_n 2, 1) := by decide +kernel
theorem dX9_timetable_109 : decode cX9_timetable 109 = .ok (.iadd, 1) := by decide +kernel
theorem dX9_timetable_110 : decode cX9_timetable 110 = .ok (.iaload, 1) := by decide +kernel
theorem dX9_timetable_111 : decode cX9_timetable 111 = .ok (.iastore, 1) := by decide +kernel
theorem dX9_timetable_112 : decode cX9_timetable 112 = .ok (.aload_n 0, 1) := by decide +kernel
theorem dX9_timetable_113 : decode cX9_timetable 113 = .ok (.getfield 57, 3) := by decide +kernel
theorem dX9_timetable_116 : decode cX9_timetable 116 = .ok (.iload_n 2, 1) := by decide +kernel
theorem dX9_timetable_117 : decode cX9_timetable 117 = .ok (.aload_n 0, 1) := by decide +kernel
theorem dX9_timetable_118 : decode cX9_timetable 118 = .ok (.getfield 57, 3) := by decide +kernel
theorem dX9_timetable_121 : decode cX9_timetable 121 = .ok (.bipush 96, 2) := by decide +kernel
theorem dX9_timetable_123 : decode cX9_timetable 123 = .ok (.iload_n 2, 1) := by decide +kernel
theorem dX9_timetable_124 : decode cX9_timetable 124 = .ok (.iadd, 1) := by decide +kernel
theorem dX9_timetable_125 : decode cX9_timetable 125 = .ok (.iaload, 1) := by decide +kernel
theorem dX9_timetable_126 : decode cX9_timetable 126 = .ok (.iastore, 1) := by decide +kernel
theorem dX9_timetable_127 : decode cX9_timetable 127 = .ok (.iinc 2 1, 3) := by decide +kernel
theorem dX9_timetable_130 : decode cX9_timetable 130 = .ok (.goto (-39), 3) := by decide +kernel
theorem dX9_timetable_133 : decode cX9_timetable 133 = .ok (.iconst 0, 1) := by decide +kernel
theorem dX9_timetable_134 : decode cX9_timetable 134 = .ok (.istore_n 2, 1) := by decide +kernel
theorem dX9_timetable_135 : decode cX9_timetable 135 = .ok (.iload_n 2, 1) := by decide +kernel
theorem dX9_timetable_136 : decode cX9_timetable 136 = .ok (.bipush 8, 2) := by decide +kernel
theorem dX9_timetable_138 : decode cX9_timetable 138 = .ok (.if_icmp .ge 24, 3) := by decide +kernel
theorem dX9_timetable_141 : decode cX9_timetable 141 = .ok (.aload_n 0, 1) := by decide +kernel
theorem dX9_timetable_142 : decode cX9_timetable 142 = .ok (.getfield 60, 3) := by decide +kernel
theorem dX9_timetable_145 : decode cX9_timetable 145 = .ok (.iload_n 2, 1) := by decide +kernel
theorem dX9_timetable_146 : decode cX9_timetable 146 = .ok (.aload_n 0, 1) := by decide +kernel
theorem dX9_timetable_147 : decode cX9_timetable 147 = .ok (.getfield 60, 3) := by decide +kernel
theorem dX9_timetable_150 : decode cX9_timetable 150 = .ok (.bipush 8, 2) := by decide +kernel
theorem dX9_timetable_152 : decode cX9_timetable 152 = .ok (.iload_n 2, 1) := by decide +kernel
theorem dX9_timetable_153 : decode cX9_timetable 153 = .ok (.iadd, 1) := by decide +kernel
theorem dX9_timetable_154 : decode cX9_timetable 154 = .ok (.iaload, 1) := by decide +kernel
theorem dX9_timetable_155 : decode cX9_timetable 155 = .ok (.iastore, 1) := by decide +kernel
theorem dX9_timetable_156 : decode cX9_timetable 156 = .ok (.iinc 2 1, 3) := by decide +kernel
theorem dX9_timetable_159 : decode cX9_timetable 159 = .ok (.goto (-24), 3) := by decide +kernel
theorem dX9_timetable_162 : decode cX9_timetable 162 = .ok (.iload_n 1, 1) := by decide +kernel
theorem dX9_timetable_163 : decode cX9_timetable 163 = .ok (.ireturn, 1) := by decide +kernel
set_option maxRecDepth 20000 in
theorem ggX9_entry_X9_isWord : GoodIn wsX9_entry wsX9_isWord := goodIn_r _ [14, 2, 15, 50, 51, 52, 53, 54, 55, 56, 57, 58, 59, 60, 61, 62, 63, 64, 65, 66, 67, 68, 69, 70, 71, 72, 73, 74, 75, 76, 77, 78, 79, 80, 81, 82, 83, 84, 85, 86, 87, 88, 89, 90, 91, 92, 93, 94] (by decide +kernel) (by decide +kernel)
set_option maxRecDepth 20000 in
theorem gX9_entry_X9_isWord : GoodIn wsX9_entry (wsV RX9 182 RX9 yX9_isWord wsX9_isWord) := goodIn_app (goodIn_of _ (by decide +kernel)) ggX9_entry_X9_isWord
set_option maxRecDepth 20000 in
theorem ggX9_entry_X9_cant : GoodIn wsX9_entry wsX9_cant := goodIn_r _ [19, 2, 4, 20, 21, 22, 13, 23, 24, 25, 50, 51, 52, 53, 54, 55, 56, 57, 58, 59, 60, 61, 62, 63, 64, 65, 66, 67, 68, 69, 70, 71, 72, 73, 74, 75, 76, 77, 78, 79, 80, 81, 82, 83, 84, 85, 86, 87, 88, 89, 90, 91, 92, 93, 94] (by decide +kernel) (by decide +kernel)
set_option maxRecDepth 20000 in
theorem gX9_entry_X9_cant : GoodIn wsX9_entry (wsV RX9 186 RX9 yX9_cant wsX9_cant) := goodIn_app (goodIn_of _ (by decide +kernel)) ggX9_entry_X9_cant
set_option maxRecDepth 20000 in
theorem ggX9_entry_X9_next : GoodIn wsX9_entry wsX9_next := goodIn_r _ [29, 30, 4, 31, 2, 15, 3, 32, 33, 34, 13, 35, 36, 37, 38, 39, 40, 41, 42, 50, 51, 52, 53, 54, 55, 56, 57, 58, 59, 60, 61, 62, 63, 64, 65, 66, 67, 68, 69, 70, 71, 72, 73, 74, 75, 76, 77, 78, 79, 80, 81, 82, 83, 84, 85, 86, 87, 88, 89, 90, 91, 92, 93, 94] (by decide +kernel) (by decide +kernel)
set_option maxRecDepth 20000 in
theorem gX9_entry_X9_next : GoodIn wsX9_entry (wsV RX9 170 RX9 yX9_next wsX9_next) := goodIn_app (goodIn_of _ (by decide +kernel)) ggX9_entry_X9_next
set_option maxRecDepth 20000 in
theorem ggX9_entry_X9_wrong : GoodIn wsX9_entry wsX9_wrong := goodIn_r _ [23, 24, 25, 50, 51, 52, 53, 54, 55, 56, 57, 58, 59, 60, 61, 62, 63, 64, 65, 66, 67, 68, 69, 70, 71, 72, 73, 74, 75, 76, 77, 78, 79, 80, 81, 82, 83, 84, 85, 86, 87, 88, 89, 90, 91, 92, 93, 94] (by decide +kernel) (by decide +kernel)
set_option maxRecDepth 20000 in
theorem gX9_entry_X9_wrong : GoodIn wsX9_entry (wsV RX9 166 RX9 yX9_wrong wsX9_wrong) := goodIn_app (goodIn_of _ (by decide +kernel)) ggX9_entry_X9_wrong
set_option maxRecDepth 20000 in
theorem ggX9_entry_X9_span : GoodIn wsX9_entry wsX9_span := goodIn_r _ [46, 2, 3, 4, 47, 6, 9, 48, 49, 26, 27, 28, 13, 29, 30, 31, 15, 32, 33, 34, 35, 36, 37, 38, 39, 40, 41, 42, 16, 17, 18, 19, 20, 21, 22, 23, 24, 25, 10, 11, 12, 14, 50, 51, 52, 53, 54, 55, 56, 57, 58, 59, 60, 61, 62, 63, 64, 65, 66, 67, 68, 69, 70, 71, 72, 73, 74, 75, 76, 77, 78, 79, 80, 81, 82, 83, 84, 85, 86, 87, 88, 89, 90, 91, 92, 93, 94] (by decide +kernel) (by decide +kernel)
set_option maxRecDepth 20000 in
theorem gX9_entry_X9_span : GoodIn wsX9_entry (wsV RX9 196 RX9 yX9_span wsX9_span) := goodIn_app (goodIn_of _ (by decide +kernel)) ggX9_entry_X9_span
theorem dX9_entry_0 : decode cX9_entry 0 = .ok (.aload_n 0, 1) := by decide +kernel
theorem dX9_entry_1 : decode cX9_entry 1 = .ok (.ldc2_w 180, 3) := by decide +kernel
theorem dX9_entry_4 : decode cX9_entry 4 = .ok (.invokevirtual 182, 3) := by decide +kernel
theorem dX9_entry_7 : decode cX9_entry 7 = .ok (.ifCond .ne 8, 3) := by decide +kernel
theorem dX9_entry_10 : decode cX9_entry 10 = .ok (.aload_n 0, 1) := by decide +kernel
theorem dX9_entry_11 : decode cX9_entry 11 = .ok (.invokevirtual 186, 3) := by decide +kernel
theorem dX9_entry_14 : decode cX9_entry 14 = .ok (.ireturn, 1) := by decide +kernel
theorem dX9_entry_15 : decode cX9_entry 15 = .ok (.aload_n 0, 1) := by decide +kernel
theorem dX9_entry_16 : decode cX9_entry 16 = .ok (.invokevirtual 170, 3) := by decide +kernel
theorem dX9_entry_19 : decode cX9_entry 19 = .ok (.aload_n 0, 1) := by decide +kernel
theorem dX9_entry_20 : decode cX9_entry 20 = .ok (.getfield 143, 3) := by decide +kernel
theorem dX9_entry_23 : decode cX9_entry 23 = .ok (.iconst 2, 1) := by decide +kernel
theorem dX9_entry_24 : decode cX9_entry 24 = .ok (.if_icmp .eq 8, 3) := by decide +kernel
theorem dX9_entry_27 : decode cX9_entry 27 = .ok (.aload_n 0, 1) := by decide +kernel
theorem dX9_entry_28 : decode cX9_entry 28 = .ok (.invokevirtual 186, 3) := by decide +kernel
theorem dX9_entry_31 : decode cX9_entry 31 = .ok (.ireturn, 1) := by decide +kernel
theorem dX9_entry_32 : decode cX9_entry 32 = .ok (.aload_n 0, 1) := by decide +kernel
theorem dX9_entry_33 : decode cX9_entry 33 = .ok (.getfield 157, 3) := by decide +kernel
theorem dX9_entry_36 : decode cX9_entry 36 = .ok (.bipush 7, 2) := by decide +kernel
theorem dX9_entry_38 : decode cX9_entry 38 = .ok (.if_icmp .le 13, 3) := by decide +kernel
theorem dX9_entry_41 : decode cX9_entry 41 = .ok (.aload_n 0, 1) := by decide +kernel
theorem dX9_entry_42 : decode cX9_entry 42 = .ok (.iconst 3, 1) := by decide +kernel
theorem dX9_entry_43 : decode cX9_entry 43 = .ok (.aload_n 0, 1) := by decide +kernel
theorem dX9_entry_44 : decode cX9_entry 44 = .ok (.getfield 140, 3) := by decide +kernel
theorem dX9_entry_47 : decode cX9_entry 47 = .ok (.invokevirtual 166, 3) := by decide +kernel
theorem dX9_entry_50 : decode cX9_entry 50 = .ok (.ireturn, 1) := by decide +kernel
theorem dX9_entry_51 : decode cX9_entry 51 = .ok (.aload_n 0, 1) := by decide +kernel
theorem dX9_entry_52 : decode cX9_entry 52 = .ok (.getfield 63, 3) := by decide +kernel
theorem dX9_entry_55 : decode cX9_entry 55 = .ok (.aload_n 0, 1) := by decide +kernel
theorem dX9_entry_56 : decode cX9_entry 56 = .ok (.getfield 157, 3) := by decide +kernel
theorem dX9_entry_59 : decode cX9_entry 59 = .ok (.baload, 1) := by decide +kernel
theorem dX9_entry_60 : decode cX9_entry 60 = .ok (.ifCond .eq 13, 3) := by decide +kernel
theorem dX9_entry_63 : decode cX9_entry 63 = .ok (.aload_n 0, 1) := by decide +kernel
theorem dX9_entry_64 : decode cX9_entry 64 = .ok (.iconst 4, 1) := by decide +kernel
theorem dX9_entry_65 : decode cX9_entry 65 = .ok (.aload_n 0, 1) := by decide +kernel
theorem dX9_entry_66 : decode cX9_entry 66 = .ok (.getfield 140, 3) := by decide +kernel
theorem dX9_entry_69 : decode cX9_entry 69 = .ok (.invokevirtual 166, 3) := by decide +kernel
theorem dX9_entry_72 : decode cX9_entry 72 = .ok (.ireturn, 1) := by decide +kernel
theorem dX9_entry_73 : decode cX9_entry 73 = .ok (.aload_n 0, 1) := by decide +kernel
theorem dX9_entry_74 : decode cX9_entry 74 = .ok (.aload_n 0, 1) := by decide +kernel
theorem dX9_entry_75 : decode cX9_entry 75 = .ok (.getfield 157, 3) := by decide +kernel
theorem dX9_entry_78 : decode cX9_entry 78 = .ok (.putfield 189, 3) := by decide +kernel
theorem dX9_entry_81 : decode cX9_entry 81 = .ok (.aload_n 0, 1) := by decide +kernel
theorem dX9_entry_82 : decode cX9_entry 82 = .ok (.getfield 63, 3) := by decide +kernel
theorem dX9_entry_85 : decode cX9_entry 85 = .ok (.aload_n 0, 1) := by decide +kernel
theorem dX9_entry_86 : decode cX9_entry 86 = .ok (.getfield 189, 3) := by decide +kernel
theorem dX9_entry_89 : decode cX9_entry 89 = .ok (.iconst 1, 1) := by decide +kernel
theorem dX9_entry_90 : decode cX9_entry 90 = .ok (.bastore, 1) := by decide +kernel
theorem dX9_entry_91 : decode cX9_entry 91 = .ok (.aload_n 0, 1) := by decide +kernel
theorem dX9_entry_92 : decode cX9_entry 92 = .ok (.invokevirtual 170, 3) := by decide +kernel
theorem dX9_entry_95 : decode cX9_entry 95 = .ok (.aload_n 0, 1) := by decide +kernel
theorem dX9_entry_96 : decode cX9_entry 96 = .ok (.ldc2_w 192, 3) := by decide +kernel
theorem dX9_entry_99 : decode cX9_entry 99 = .ok (.invokevirtual 182, 3) := by decide +kernel
theorem dX9_entry_102 : decode cX9_entry 102 = .ok (.ifCond .ne 13, 3) := by decide +kernel
theorem dX9_entry_105 : decode cX9_entry 105 = .ok (.aload_n 0, 1) := by decide +kernel
theorem dX9_entry_106 : decode cX9_entry 106 = .ok (.ldc2_w 194, 3) := by decide +kernel
theorem dX9_entry_109 : decode cX9_entry 109 = .ok (.invokevirtual 182, 3) := by decide +kernel
theorem dX9_entry_112 : decode cX9_entry 112 = .ok (.ifCond .eq 46, 3) := by decide +kernel
theorem dX9_entry_115 : decode cX9_entry 115 = .ok (.aload_n 0, 1) := by decide +kernel
theorem dX9_entry_116 : decode cX9_entry 116 = .ok (.getfield 60, 3) := by decide +kernel
theorem dX9_entry_119 : decode cX9_entry 119 = .ok (.bipush 8, 2) := by decide +kernel
theorem dX9_entry_121 : decode cX9_entry 121 = .ok (.aload_n 0, 1) := by decide +kernel
theorem dX9_entry_122 : decode cX9_entry 122 = .ok (.getfield 189, 3) := by decide +kernel
theorem dX9_entry_125 : decode cX9_entry 125 = .ok (.iadd, 1) := by decide +kernel
theorem dX9_entry_126 : decode cX9_entry 126 = .ok (.iaload, 1) := by decide +kernel
theorem dX9_entry_127 : decode cX9_entry 127 = .ok (.bipush 12, 2) := by decide +kernel
theorem dX9_entry_129 : decode cX9_entry 129 = .ok (.if_icmp .ne 13, 3) := by decide +kernel
theorem dX9_entry_132 : decode cX9_entry 132 = .ok (.aload_n 0, 1) := by decide +kernel
theorem dX9_entry_133 : decode cX9_entry 133 = .ok (.iconst 4, 1) := by decide +kernel
theorem dX9_entry_134 : decode cX9_entry 134 = .ok (.aload_n 0, 1) := by decide +kernel
theorem dX9_entry_135 : decode cX9_entry 135 = .ok (.getfield 140, 3) := by decide +kernel
theorem dX9_entry_138 : decode cX9_entry 138 = .ok (.invokevirtual 166, 3) := by decide +kernel
theorem dX9_entry_141 : decode cX9_entry 141 = .ok (.ireturn, 1) := by decide +kernel
theorem dX9_entry_142 : decode cX9_entry 142 = .ok (.aload_n 0, 1) := by decide +kernel
theorem dX9_entry_143 : decode cX9_entry 143 = .ok (.aload_n 0, 1) := by decide +kernel
theorem dX9_entry_144 : decode cX9_entry 144 = .ok (.ldc2_w 192, 3) := by decide +kernel
theorem dX9_entry_147 : decode cX9_entry 147 = .ok (.invokevirtual 182, 3) := by decide +kernel
theorem dX9_entry_150 : decode cX9_entry 150 = .ok (.invokevirtual 196, 3) := by decide +kernel
theorem dX9_entry_153 : decode cX9_entry 153 = .ok (.ifCond .ne (-58), 3) := by decide +kernel
theorem dX9_entry_156 : decode cX9_entry 156 = .ok (.iconst 0, 1) := by decide +kernel
theorem dX9_entry_157 : decode cX9_entry 157 = .ok (.ireturn, 1) := by decide +kernel
theorem dX9_entry_158 : decode cX9_entry 158 = .ok (.aload_n 0, 1) := by decide +kernel
theorem dX9_entry_159 : decode cX9_entry 159 = .ok (.getfield 143, 3) := by decide +kernel
theorem dX9_entry_162 : decode cX9_entry 162 = .ok (.iconst 3, 1) := by decide +kernel
theorem dX9_entry_163 : decode cX9_entry 163 = .ok (.if_icmp .eq 8, 3) := by decide +kernel
theorem dX9_entry_166 : decode cX9_entry 166 = .ok (.aload_n 0, 1) := by decide +kernel
