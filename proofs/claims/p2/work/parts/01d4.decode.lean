theorem dX9_entry_167 : decode cX9_entry 167 = .ok (.invokevirtual 186, 3) := by decide +kernel
theorem dX9_entry_170 : decode cX9_entry 170 = .ok (.ireturn, 1) := by decide +kernel
theorem dX9_entry_171 : decode cX9_entry 171 = .ok (.aload_n 0, 1) := by decide +kernel
theorem dX9_entry_172 : decode cX9_entry 172 = .ok (.invokevirtual 170, 3) := by decide +kernel
theorem dX9_entry_175 : decode cX9_entry 175 = .ok (.iconst 1, 1) := by decide +kernel
theorem dX9_entry_176 : decode cX9_entry 176 = .ok (.ireturn, 1) := by decide +kernel
set_option maxRecDepth 20000 in
theorem ggX9_span_X9_next : GoodIn wsX9_span wsX9_next := goodIn_r _ [13, 14, 3, 15, 1, 16, 2, 17, 18, 19, 12, 20, 21, 22, 23, 24, 25, 26, 27, 42, 43, 44, 45, 46, 47, 48, 49, 50, 51, 52, 53, 54, 55, 56, 57, 58, 59, 60, 61, 62, 63, 64, 65, 66, 67, 68, 69, 70, 71, 72, 73, 74, 75, 76, 77, 78, 79, 80, 81, 82, 83, 84, 85, 86] (by decide +kernel) (by decide +kernel)
set_option maxRecDepth 20000 in
theorem gX9_span_X9_next : GoodIn wsX9_span (wsV RX9 170 RX9 yX9_next wsX9_next) := goodIn_app (goodIn_of _ (by decide +kernel)) ggX9_span_X9_next
set_option maxRecDepth 20000 in
theorem ggX9_span_X9_cant : GoodIn wsX9_span wsX9_cant := goodIn_r _ [31, 1, 3, 32, 33, 34, 12, 35, 36, 37, 42, 43, 44, 45, 46, 47, 48, 49, 50, 51, 52, 53, 54, 55, 56, 57, 58, 59, 60, 61, 62, 63, 64, 65, 66, 67, 68, 69, 70, 71, 72, 73, 74, 75, 76, 77, 78, 79, 80, 81, 82, 83, 84, 85, 86] (by decide +kernel) (by decide +kernel)
set_option maxRecDepth 20000 in
theorem gX9_span_X9_cant : GoodIn wsX9_span (wsV RX9 186 RX9 yX9_cant wsX9_cant) := goodIn_app (goodIn_of _ (by decide +kernel)) ggX9_span_X9_cant
set_option maxRecDepth 20000 in
theorem ggX9_span_X9_wrong : GoodIn wsX9_span wsX9_wrong := goodIn_r _ [35, 36, 37, 42, 43, 44, 45, 46, 47, 48, 49, 50, 51, 52, 53, 54, 55, 56, 57, 58, 59, 60, 61, 62, 63, 64, 65, 66, 67, 68, 69, 70, 71, 72, 73, 74, 75, 76, 77, 78, 79, 80, 81, 82, 83, 84, 85, 86] (by decide +kernel) (by decide +kernel)
set_option maxRecDepth 20000 in
theorem gX9_span_X9_wrong : GoodIn wsX9_span (wsV RX9 166 RX9 yX9_wrong wsX9_wrong) := goodIn_app (goodIn_of _ (by decide +kernel)) ggX9_span_X9_wrong
set_option maxRecDepth 20000 in
theorem ggX9_span_X9_isWord : GoodIn wsX9_span wsX9_isWord := goodIn_r _ [41, 1, 16, 42, 43, 44, 45, 46, 47, 48, 49, 50, 51, 52, 53, 54, 55, 56, 57, 58, 59, 60, 61, 62, 63, 64, 65, 66, 67, 68, 69, 70, 71, 72, 73, 74, 75, 76, 77, 78, 79, 80, 81, 82, 83, 84, 85, 86] (by decide +kernel) (by decide +kernel)
set_option maxRecDepth 20000 in
theorem gX9_span_X9_isWord : GoodIn wsX9_span (wsV RX9 182 RX9 yX9_isWord wsX9_isWord) := goodIn_app (goodIn_of _ (by decide +kernel)) ggX9_span_X9_isWord
theorem dX9_span_0 : decode cX9_span 0 = .ok (.aload_n 0, 1) := by decide +kernel
theorem dX9_span_1 : decode cX9_span 1 = .ok (.invokevirtual 170, 3) := by decide +kernel
theorem dX9_span_4 : decode cX9_span 4 = .ok (.aload_n 0, 1) := by decide +kernel
theorem dX9_span_5 : decode cX9_span 5 = .ok (.getfield 143, 3) := by decide +kernel
theorem dX9_span_8 : decode cX9_span 8 = .ok (.iconst 2, 1) := by decide +kernel
theorem dX9_span_9 : decode cX9_span 9 = .ok (.if_icmp .eq 8, 3) := by decide +kernel
theorem dX9_span_12 : decode cX9_span 12 = .ok (.aload_n 0, 1) := by decide +kernel
theorem dX9_span_13 : decode cX9_span 13 = .ok (.invokevirtual 186, 3) := by decide +kernel
theorem dX9_span_16 : decode cX9_span 16 = .ok (.ireturn, 1) := by decide +kernel
theorem dX9_span_17 : decode cX9_span 17 = .ok (.aload_n 0, 1) := by decide +kernel
theorem dX9_span_18 : decode cX9_span 18 = .ok (.getfield 157, 3) := by decide +kernel
theorem dX9_span_21 : decode cX9_span 21 = .ok (.sipush 1440, 3) := by decide +kernel
theorem dX9_span_24 : decode cX9_span 24 = .ok (.if_icmp .le 13, 3) := by decide +kernel
theorem dX9_span_27 : decode cX9_span 27 = .ok (.aload_n 0, 1) := by decide +kernel
theorem dX9_span_28 : decode cX9_span 28 = .ok (.iconst 3, 1) := by decide +kernel
theorem dX9_span_29 : decode cX9_span 29 = .ok (.aload_n 0, 1) := by decide +kernel
theorem dX9_span_30 : decode cX9_span 30 = .ok (.getfield 140, 3) := by decide +kernel
theorem dX9_span_33 : decode cX9_span 33 = .ok (.invokevirtual 166, 3) := by decide +kernel
theorem dX9_span_36 : decode cX9_span 36 = .ok (.ireturn, 1) := by decide +kernel
theorem dX9_span_37 : decode cX9_span 37 = .ok (.aload_n 0, 1) := by decide +kernel
theorem dX9_span_38 : decode cX9_span 38 = .ok (.getfield 157, 3) := by decide +kernel
theorem dX9_span_41 : decode cX9_span 41 = .ok (.istore_n 2, 1) := by decide +kernel
theorem dX9_span_42 : decode cX9_span 42 = .ok (.aload_n 0, 1) := by decide +kernel
theorem dX9_span_43 : decode cX9_span 43 = .ok (.getfield 157, 3) := by decide +kernel
theorem dX9_span_46 : decode cX9_span 46 = .ok (.istore_n 3, 1) := by decide +kernel
theorem dX9_span_47 : decode cX9_span 47 = .ok (.aload_n 0, 1) := by decide +kernel
theorem dX9_span_48 : decode cX9_span 48 = .ok (.invokevirtual 170, 3) := by decide +kernel
theorem dX9_span_51 : decode cX9_span 51 = .ok (.iload_n 1, 1) := by decide +kernel
theorem dX9_span_52 : decode cX9_span 52 = .ok (.ifCond .eq 72, 3) := by decide +kernel
theorem dX9_span_55 : decode cX9_span 55 = .ok (.aload_n 0, 1) := by decide +kernel
theorem dX9_span_56 : decode cX9_span 56 = .ok (.ldc2_w 200, 3) := by decide +kernel
theorem dX9_span_59 : decode cX9_span 59 = .ok (.invokevirtual 182, 3) := by decide +kernel
theorem dX9_span_62 : decode cX9_span 62 = .ok (.ifCond .ne 8, 3) := by decide +kernel
theorem dX9_span_65 : decode cX9_span 65 = .ok (.aload_n 0, 1) := by decide +kernel
theorem dX9_span_66 : decode cX9_span 66 = .ok (.invokevirtual 186, 3) := by decide +kernel
theorem dX9_span_69 : decode cX9_span 69 = .ok (.ireturn, 1) := by decide +kernel
theorem dX9_span_70 : decode cX9_span 70 = .ok (.aload_n 0, 1) := by decide +kernel
theorem dX9_span_71 : decode cX9_span 71 = .ok (.invokevirtual 170, 3) := by decide +kernel
theorem dX9_span_74 : decode cX9_span 74 = .ok (.aload_n 0, 1) := by decide +kernel
theorem dX9_span_75 : decode cX9_span 75 = .ok (.getfield 143, 3) := by decide +kernel
theorem dX9_span_78 : decode cX9_span 78 = .ok (.iconst 2, 1) := by decide +kernel
theorem dX9_span_79 : decode cX9_span 79 = .ok (.if_icmp .eq 8, 3) := by decide +kernel
theorem dX9_span_82 : decode cX9_span 82 = .ok (.aload_n 0, 1) := by decide +kernel
theorem dX9_span_83 : decode cX9_span 83 = .ok (.invokevirtual 186, 3) := by decide +kernel
theorem dX9_span_86 : decode cX9_span 86 = .ok (.ireturn, 1) := by decide +kernel
theorem dX9_span_87 : decode cX9_span 87 = .ok (.aload_n 0, 1) := by decide +kernel
theorem dX9_span_88 : decode cX9_span 88 = .ok (.getfield 157, 3) := by decide +kernel
theorem dX9_span_91 : decode cX9_span 91 = .ok (.iload_n 2, 1) := by decide +kernel
theorem dX9_span_92 : decode cX9_span 92 = .ok (.if_icmp .le 13, 3) := by decide +kernel
theorem dX9_span_95 : decode cX9_span 95 = .ok (.aload_n 0, 1) := by decide +kernel
theorem dX9_span_96 : decode cX9_span 96 = .ok (.getfield 157, 3) := by decide +kernel
theorem dX9_span_99 : decode cX9_span 99 = .ok (.sipush 1440, 3) := by decide +kernel
theorem dX9_span_102 : decode cX9_span 102 = .ok (.if_icmp .le 13, 3) := by decide +kernel
theorem dX9_span_105 : decode cX9_span 105 = .ok (.aload_n 0, 1) := by decide +kernel
theorem dX9_span_106 : decode cX9_span 106 = .ok (.iconst 3, 1) := by decide +kernel
theorem dX9_span_107 : decode cX9_span 107 = .ok (.aload_n 0, 1) := by decide +kernel
theorem dX9_span_108 : decode cX9_span 108 = .ok (.getfield 140, 3) := by decide +kernel
theorem dX9_span_111 : decode cX9_span 111 = .ok (.invokevirtual 166, 3) := by decide +kernel
theorem dX9_span_114 : decode cX9_span 114 = .ok (.ireturn, 1) := by decide +kernel
theorem dX9_span_115 : decode cX9_span 115 = .ok (.aload_n 0, 1) := by decide +kernel
theorem dX9_span_116 : decode cX9_span 116 = .ok (.getfield 157, 3) := by decide +kernel
theorem dX9_span_119 : decode cX9_span 119 = .ok (.istore_n 3, 1) := by decide +kernel
theorem dX9_span_120 : decode cX9_span 120 = .ok (.aload_n 0, 1) := by decide +kernel
theorem dX9_span_121 : decode cX9_span 121 = .ok (.invokevirtual 170, 3) := by decide +kernel
theorem dX9_span_124 : decode cX9_span 124 = .ok (.bipush 96, 2) := by decide +kernel
theorem dX9_span_126 : decode cX9_span 126 = .ok (.bipush 12, 2) := by decide +kernel
theorem dX9_span_128 : decode cX9_span 128 = .ok (.aload_n 0, 1) := by decide +kernel
theorem dX9_span_129 : decode cX9_span 129 = .ok (.getfield 189, 3) := by decide +kernel
theorem dX9_span_132 : decode cX9_span 132 = .ok (.imul, 1) := by decide +kernel
theorem dX9_span_133 : decode cX9_span 133 = .ok (.iadd, 1) := by decide +kernel
theorem dX9_span_134 : decode cX9_span 134 = .ok (.aload_n 0, 1) := by decide +kernel
theorem dX9_span_135 : decode cX9_span 135 = .ok (.getfield 60, 3) := by decide +kernel
theorem dX9_span_138 : decode cX9_span 138 = .ok (.bipush 8, 2) := by decide +kernel
theorem dX9_span_140 : decode cX9_span 140 = .ok (.aload_n 0, 1) := by decide +kernel
theorem dX9_span_141 : decode cX9_span 141 = .ok (.getfield 189, 3) := by decide +kernel
theorem dX9_span_144 : decode cX9_span 144 = .ok (.iadd, 1) := by decide +kernel
theorem dX9_span_145 : decode cX9_span 145 = .ok (.iaload, 1) := by decide +kernel
theorem dX9_span_146 : decode cX9_span 146 = .ok (.iadd, 1) := by decide +kernel
theorem dX9_span_147 : decode cX9_span 147 = .ok (.istore 4, 2) := by decide +kernel
theorem dX9_span_149 : decode cX9_span 149 = .ok (.aload_n 0, 1) := by decide +kernel
theorem dX9_span_150 : decode cX9_span 150 = .ok (.getfield 54, 3) := by decide +kernel
theorem dX9_span_153 : decode cX9_span 153 = .ok (.iload 4, 2) := by decide +kernel
theorem dX9_span_155 : decode cX9_span 155 = .ok (.iload_n 1, 1) := by decide +kernel
theorem dX9_span_156 : decode cX9_span 156 = .ok (.ifCond .eq 7, 3) := by decide +kernel
theorem dX9_span_159 : decode cX9_span 159 = .ok (.iload_n 2, 1) := by decide +kernel
theorem dX9_span_160 : decode cX9_span 160 = .ok (.goto 15, 3) := by decide +kernel
theorem dX9_span_163 : decode cX9_span 163 = .ok (.iload_n 2, 1) := by decide +kernel
theorem dX9_span_164 : decode cX9_span 164 = .ok (.iconst 2, 1) := by decide +kernel
theorem dX9_span_165 : decode cX9_span 165 = .ok (.if_icmp .ge 7, 3) := by decide +kernel
theorem dX9_span_168 : decode cX9_span 168 = .ok (.iconst 0, 1) := by decide +kernel
theorem dX9_span_169 : decode cX9_span 169 = .ok (.goto 6, 3) := by decide +kernel
theorem dX9_span_172 : decode cX9_span 172 = .ok (.iload_n 2, 1) := by decide +kernel
theorem dX9_span_173 : decode cX9_span 173 = .ok (.iconst 2, 1) := by decide +kernel
theorem dX9_span_174 : decode cX9_span 174 = .ok (.isub, 1) := by decide +kernel
theorem dX9_span_175 : decode cX9_span 175 = .ok (.iastore, 1) := by decide +kernel
theorem dX9_span_176 : decode cX9_span 176 = .ok (.aload_n 0, 1) := by decide +kernel
theorem dX9_span_177 : decode cX9_span 177 = .ok (.getfield 57, 3) := by decide +kernel
theorem dX9_span_180 : decode cX9_span 180 = .ok (.iload 4, 2) := by decide +kernel
theorem dX9_span_182 : decode cX9_span 182 = .ok (.iload_n 1, 1) := by decide +kernel
theorem dX9_span_183 : decode cX9_span 183 = .ok (.ifCond .eq 9, 3) := by decide +kernel
theorem dX9_span_186 : decode cX9_span 186 = .ok (.iload_n 3, 1) := by decide +kernel
theorem dX9_span_187 : decode cX9_span 187 = .ok (.iconst 1, 1) := by decide +kernel
theorem dX9_span_188 : decode cX9_span 188 = .ok (.isub, 1) := by decide +kernel
theorem dX9_span_189 : decode cX9_span 189 = .ok (.goto 19, 3) := by decide +kernel
theorem dX9_span_192 : decode cX9_span 192 = .ok (.iload_n 2, 1) := by decide +kernel
theorem dX9_span_193 : decode cX9_span 193 = .ok (.sipush 1438, 3) := by decide +kernel
theorem dX9_span_196 : decode cX9_span 196 = .ok (.if_icmp .le 9, 3) := by decide +kernel
theorem dX9_span_199 : decode cX9_span 199 = .ok (.sipush 1440, 3) := by decide +kernel
theorem dX9_span_202 : decode cX9_span 202 = .ok (.goto 6, 3) := by decide +kernel
theorem dX9_span_205 : decode cX9_span 205 = .ok (.iload_n 2, 1) := by decide +kernel
theorem dX9_span_206 : decode cX9_span 206 = .ok (.iconst 2, 1) := by decide +kernel
theorem dX9_span_207 : decode cX9_span 207 = .ok (.iadd, 1) := by decide +kernel
theorem dX9_span_208 : decode cX9_span 208 = .ok (.iastore, 1) := by decide +kernel
theorem dX9_span_209 : decode cX9_span 209 = .ok (.aload_n 0, 1) := by decide +kernel
theorem dX9_span_210 : decode cX9_span 210 = .ok (.getfield 60, 3) := by decide +kernel
theorem dX9_span_213 : decode cX9_span 213 = .ok (.bipush 8, 2) := by decide +kernel
theorem dX9_span_215 : decode cX9_span 215 = .ok (.aload_n 0, 1) := by decide +kernel
theorem dX9_span_216 : decode cX9_span 216 = .ok (.getfield 189, 3) := by decide +kernel
theorem dX9_span_219 : decode cX9_span 219 = .ok (.iadd, 1) := by decide +kernel
theorem dX9_span_220 : decode cX9_span 220 = .ok (.dup2, 1) := by decide +kernel
theorem dX9_span_221 : decode cX9_span 221 = .ok (.iaload, 1) := by decide +kernel
theorem dX9_span_222 : decode cX9_span 222 = .ok (.iconst 1, 1) := by decide +kernel
theorem dX9_span_223 : decode cX9_span 223 = .ok (.iadd, 1) := by decide +kernel
theorem dX9_span_224 : decode cX9_span 224 = .ok (.iastore, 1) := by decide +kernel
theorem dX9_span_225 : decode cX9_span 225 = .ok (.iconst 1, 1) := by decide +kernel
theorem dX9_span_226 : decode cX9_span 226 = .ok (.ireturn, 1) := by decide +kernel
theorem dX9_fault_0 : decode cX9_fault 0 = .ok (.aload_n 0, 1) := by decide +kernel
theorem dX9_fault_1 : decode cX9_fault 1 = .ok (.iconst 0, 1) := by decide +kernel
theorem dX9_fault_2 : decode cX9_fault 2 = .ok (.putfield 103, 3) := by decide +kernel
theorem dX9_fault_5 : decode cX9_fault 5 = .ok (.aload_n 0, 1) := by decide +kernel
theorem dX9_fault_6 : decode cX9_fault 6 = .ok (.getfield 160, 3) := by decide +kernel
theorem dX9_fault_9 : decode cX9_fault 9 = .ok (.ireturn, 1) := by decide +kernel
theorem dX9_isBarred_0 : decode cX9_isBarred 0 = .ok (.iconst 0, 1) := by decide +kernel
theorem dX9_isBarred_1 : decode cX9_isBarred 1 = .ok (.istore 4, 2) := by decide +kernel
theorem dX9_isBarred_3 : decode cX9_isBarred 3 = .ok (.iload 4, 2) := by decide +kernel
theorem dX9_isBarred_5 : decode cX9_isBarred 5 = .ok (.aload_n 0, 1) := by decide +kernel
theorem dX9_isBarred_6 : decode cX9_isBarred 6 = .ok (.getfield 60, 3) := by decide +kernel
theorem dX9_isBarred_9 : decode cX9_isBarred 9 = .ok (.iload_n 1, 1) := by decide +kernel
theorem dX9_isBarred_10 : decode cX9_isBarred 10 = .ok (.iaload, 1) := by decide +kernel
theorem dX9_isBarred_11 : decode cX9_isBarred 11 = .ok (.if_icmp .ge 43, 3) := by decide +kernel
theorem dX9_isBarred_14 : decode cX9_isBarred 14 = .ok (.aload_n 0, 1) := by decide +kernel
theorem dX9_isBarred_15 : decode cX9_isBarred 15 = .ok (.getfield 54, 3) := by decide +kernel
theorem dX9_isBarred_18 : decode cX9_isBarred 18 = .ok (.bipush 12, 2) := by decide +kernel
theorem dX9_isBarred_20 : decode cX9_isBarred 20 = .ok (.iload_n 1, 1) := by decide +kernel
theorem dX9_isBarred_21 : decode cX9_isBarred 21 = .ok (.imul, 1) := by decide +kernel
theorem dX9_isBarred_22 : decode cX9_isBarred 22 = .ok (.iload 4, 2) := by decide +kernel
theorem dX9_isBarred_24 : decode cX9_isBarred 24 = .ok (.iadd, 1) := by decide +kernel
theorem dX9_isBarred_25 : decode cX9_isBarred 25 = .ok (.iaload, 1) := by decide +kernel
theorem dX9_isBarred_26 : decode cX9_isBarred 26 = .ok (.iload_n 3, 1) := by decide +kernel
theorem dX9_isBarred_27 : decode cX9_isBarred 27 = .ok (.if_icmp .gt 21, 3) := by decide +kernel
theorem dX9_isBarred_30 : decode cX9_isBarred 30 = .ok (.aload_n 0, 1) := by decide +kernel
theorem dX9_isBarred_31 : decode cX9_isBarred 31 = .ok (.getfield 57, 3) := by decide +kernel
theorem dX9_isBarred_34 : decode cX9_isBarred 34 = .ok (.bipush 12, 2) := by decide +kernel
theorem dX9_isBarred_36 : decode cX9_isBarred 36 = .ok (.iload_n 1, 1) := by decide +kernel
theorem dX9_isBarred_37 : decode cX9_isBarred 37 = .ok (.imul, 1) := by decide +kernel
theorem dX9_isBarred_38 : decode cX9_isBarred 38 = .ok (.iload 4, 2) := by decide +kernel
theorem dX9_isBarred_40 : decode cX9_isBarred 40 = .ok (.iadd, 1) := by decide +kernel
theorem dX9_isBarred_41 : decode cX9_isBarred 41 = .ok (.iaload, 1) := by decide +kernel
theorem dX9_isBarred_42 : decode cX9_isBarred 42 = .ok (.iload_n 2, 1) := by decide +kernel
theorem dX9_isBarred_43 : decode cX9_isBarred 43 = .ok (.if_icmp .lt 5, 3) := by decide +kernel
theorem dX9_isBarred_46 : decode cX9_isBarred 46 = .ok (.iconst 1, 1) := by decide +kernel
theorem dX9_isBarred_47 : decode cX9_isBarred 47 = .ok (.ireturn, 1) := by decide +kernel
theorem dX9_isBarred_48 : decode cX9_isBarred 48 = .ok (.iinc 4 1, 3) := by decide +kernel
theorem dX9_isBarred_51 : decode cX9_isBarred 51 = .ok (.goto (-48), 3) := by decide +kernel
theorem dX9_isBarred_54 : decode cX9_isBarred 54 = .ok (.iconst 0, 1) := by decide +kernel
theorem dX9_isBarred_55 : decode cX9_isBarred 55 = .ok (.ireturn, 1) := by decide +kernel
set_option maxRecDepth 20000 in
theorem ggX9_barred_X9_isBridge : GoodIn wsX9_barred wsX9_isBridge := goodIn_r _ [6, 7, 18, 19, 20, 21, 22, 23, 24, 25, 26, 27, 28, 29, 30, 31, 32, 33, 34, 35, 36, 37, 38, 39, 40, 41, 42, 43, 44, 45, 46, 47, 48, 49, 50, 51, 52, 53, 54, 55, 56, 57, 58, 59, 60, 61, 62] (by decide +kernel) (by decide +kernel)
set_option maxRecDepth 20000 in
theorem gX9_barred_X9_isBridge : GoodIn wsX9_barred (wsV RX9 202 RX9 yX9_isBridge wsX9_isBridge) := goodIn_app (goodIn_of _ (by decide +kernel)) ggX9_barred_X9_isBridge
set_option maxRecDepth 20000 in
theorem ggX9_barred_X9_isIn : GoodIn wsX9_barred wsX9_isIn := goodIn_r _ [10] (by decide +kernel) (by decide +kernel)
set_option maxRecDepth 20000 in
theorem gX9_barred_X9_isIn : GoodIn wsX9_barred (va_wsS RX9 125 yX9_isIn wsX9_isIn) := goodIn_app (goodIn_of _ (by decide +kernel)) ggX9_barred_X9_isIn
set_option maxRecDepth 20000 in
theorem ggX9_barred_X9_isBarred : GoodIn wsX9_barred wsX9_isBarred := goodIn_r _ [14, 15, 16, 17, 18, 19, 20, 21, 22, 23, 24, 25, 26, 27, 28, 29, 30, 31, 32, 33, 34, 35, 36, 37, 38, 39, 40, 41, 42, 43, 44, 45, 46, 47, 48, 49, 50, 51, 52, 53, 54, 55, 56, 57, 58, 59, 60, 61, 62] (by decide +kernel) (by decide +kernel)
set_option maxRecDepth 20000 in
theorem gX9_barred_X9_isBarred : GoodIn wsX9_barred (wsV RX9 205 RX9 yX9_isBarred wsX9_isBarred) := goodIn_app (goodIn_of _ (by decide +kernel)) ggX9_barred_X9_isBarred
theorem dX9_barred_0 : decode cX9_barred 0 = .ok (.aload_n 0, 1) := by decide +kernel
theorem dX9_barred_1 : decode cX9_barred 1 = .ok (.iconst 0, 1) := by decide +kernel
theorem dX9_barred_2 : decode cX9_barred 2 = .ok (.putfield 103, 3) := by decide +kernel
theorem dX9_barred_5 : decode cX9_barred 5 = .ok (.aload_n 0, 1) := by decide +kernel
theorem dX9_barred_6 : decode cX9_barred 6 = .ok (.iload_n 1, 1) := by decide +kernel
theorem dX9_barred_7 : decode cX9_barred 7 = .ok (.invokevirtual 202, 3) := by decide +kernel
theorem dX9_barred_10 : decode cX9_barred 10 = .ok (.ifCond .eq 14, 3) := by decide +kernel
theorem dX9_barred_13 : decode cX9_barred 13 = .ok (.iload_n 2, 1) := by decide +kernel
theorem dX9_barred_14 : decode cX9_barred 14 = .ok (.iconst 0, 1) := by decide +kernel
theorem dX9_barred_15 : decode cX9_barred 15 = .ok (.sipush 1440, 3) := by decide +kernel
theorem dX9_barred_18 : decode cX9_barred 18 = .ok (.invokestatic 125, 3) := by decide +kernel
theorem dX9_barred_21 : decode cX9_barred 21 = .ok (.ifCond .ne 7, 3) := by decide +kernel
theorem dX9_barred_24 : decode cX9_barred 24 = .ok (.iconst (-1), 1) := by decide +kernel
theorem dX9_barred_25 : decode cX9_barred 25 = .ok (.goto 18, 3) := by decide +kernel
theorem dX9_barred_28 : decode cX9_barred 28 = .ok (.aload_n 0, 1) := by decide +kernel
theorem dX9_barred_29 : decode cX9_barred 29 = .ok (.iload_n 1, 1) := by decide +kernel
theorem dX9_barred_30 : decode cX9_barred 30 = .ok (.iload_n 2, 1) := by decide +kernel
theorem dX9_barred_31 : decode cX9_barred 31 = .ok (.iload_n 2, 1) := by decide +kernel
theorem dX9_barred_32 : decode cX9_barred 32 = .ok (.invokevirtual 205, 3) := by decide +kernel
theorem dX9_barred_35 : decode cX9_barred 35 = .ok (.ifCond .eq 7, 3) := by decide +kernel
theorem dX9_barred_38 : decode cX9_barred 38 = .ok (.iconst 1, 1) := by decide +kernel
theorem dX9_barred_39 : decode cX9_barred 39 = .ok (.goto 4, 3) := by decide +kernel
theorem dX9_barred_42 : decode cX9_barred 42 = .ok (.iconst 0, 1) := by decide +kernel
theorem dX9_barred_43 : decode cX9_barred 43 = .ok (.ireturn, 1) := by decide +kernel
theorem dX9_isShip_0 : decode cX9_isShip 0 = .ok (.iload_n 1, 1) := by decide +kernel
theorem dX9_isShip_1 : decode cX9_isShip 1 = .ok (.ifCond .lt 15, 3) := by decide +kernel
theorem dX9_isShip_4 : decode cX9_isShip 4 = .ok (.iload_n 1, 1) := by decide +kernel
theorem dX9_isShip_5 : decode cX9_isShip 5 = .ok (.aload_n 0, 1) := by decide +kernel
theorem dX9_isShip_6 : decode cX9_isShip 6 = .ok (.getfield 208, 3) := by decide +kernel
theorem dX9_isShip_9 : decode cX9_isShip 9 = .ok (.if_icmp .ge 7, 3) := by decide +kernel
theorem dX9_isShip_12 : decode cX9_isShip 12 = .ok (.iconst 1, 1) := by decide +kernel
theorem dX9_isShip_13 : decode cX9_isShip 13 = .ok (.goto 4, 3) := by decide +kernel
theorem dX9_isShip_16 : decode cX9_isShip 16 = .ok (.iconst 0, 1) := by decide +kernel
theorem dX9_isShip_17 : decode cX9_isShip 17 = .ok (.ireturn, 1) := by decide +kernel
set_option maxRecDepth 20000 in
theorem ggX9_ship_X9_isIn : GoodIn wsX9_ship wsX9_isIn := goodIn_r _ [13] (by decide +kernel) (by decide +kernel)
set_option maxRecDepth 20000 in
theorem gX9_ship_X9_isIn : GoodIn wsX9_ship (va_wsS RX9 125 yX9_isIn wsX9_isIn) := goodIn_app (goodIn_of _ (by decide +kernel)) ggX9_ship_X9_isIn
theorem dX9_ship_0 : decode cX9_ship 0 = .ok (.aload_n 0, 1) := by decide +kernel
theorem dX9_ship_1 : decode cX9_ship 1 = .ok (.iconst 0, 1) := by decide +kernel
theorem dX9_ship_2 : decode cX9_ship 2 = .ok (.putfield 103, 3) := by decide +kernel
theorem dX9_ship_5 : decode cX9_ship 5 = .ok (.aload_n 0, 1) := by decide +kernel
theorem dX9_ship_6 : decode cX9_ship 6 = .ok (.getfield 208, 3) := by decide +kernel
theorem dX9_ship_9 : decode cX9_ship 9 = .ok (.bipush 40, 2) := by decide +kernel
theorem dX9_ship_11 : decode cX9_ship 11 = .ok (.if_icmp .eq 35, 3) := by decide +kernel
theorem dX9_ship_14 : decode cX9_ship 14 = .ok (.aload_n 0, 1) := by decide +kernel
theorem dX9_ship_15 : decode cX9_ship 15 = .ok (.getfield 119, 3) := by decide +kernel
theorem dX9_ship_18 : decode cX9_ship 18 = .ok (.ifCond .eq 28, 3) := by decide +kernel
theorem dX9_ship_21 : decode cX9_ship 21 = .ok (.iload_n 1, 1) := by decide +kernel
theorem dX9_ship_22 : decode cX9_ship 22 = .ok (.iconst 0, 1) := by decide +kernel
theorem dX9_ship_23 : decode cX9_ship 23 = .ok (.sipush 500, 3) := by decide +kernel
theorem dX9_ship_26 : decode cX9_ship 26 = .ok (.invokestatic 125, 3) := by decide +kernel
theorem dX9_ship_29 : decode cX9_ship 29 = .ok (.ifCond .eq 17, 3) := by decide +kernel
theorem dX9_ship_32 : decode cX9_ship 32 = .ok (.iload_n 3, 1) := by decide +kernel
theorem dX9_ship_33 : decode cX9_ship 33 = .ok (.aload_n 0, 1) := by decide +kernel
theorem dX9_ship_34 : decode cX9_ship 34 = .ok (.getfield 122, 3) := by decide +kernel
theorem dX9_ship_37 : decode cX9_ship 37 = .ok (.sipush 1440, 3) := by decide +kernel
theorem dX9_ship_40 : decode cX9_ship 40 = .ok (.invokestatic 125, 3) := by decide +kernel
theorem dX9_ship_43 : decode cX9_ship 43 = .ok (.ifCond .ne 5, 3) := by decide +kernel
theorem dX9_ship_46 : decode cX9_ship 46 = .ok (.iconst (-1), 1) := by decide +kernel
theorem dX9_ship_47 : decode cX9_ship 47 = .ok (.ireturn, 1) := by decide +kernel
theorem dX9_ship_48 : decode cX9_ship 48 = .ok (.aload_n 0, 1) := by decide +kernel
theorem dX9_ship_49 : decode cX9_ship 49 = .ok (.getfield 67, 3) := by decide +kernel
theorem dX9_ship_52 : decode cX9_ship 52 = .ok (.aload_n 0, 1) := by decide +kernel
theorem dX9_ship_53 : decode cX9_ship 53 = .ok (.getfield 208, 3) := by decide +kernel
theorem dX9_ship_56 : decode cX9_ship 56 = .ok (.iload_n 1, 1) := by decide +kernel
theorem dX9_ship_57 : decode cX9_ship 57 = .ok (.iastore, 1) := by decide +kernel
theorem dX9_ship_58 : decode cX9_ship 58 = .ok (.aload_n 0, 1) := by decide +kernel
theorem dX9_ship_59 : decode cX9_ship 59 = .ok (.getfield 91, 3) := by decide +kernel
theorem dX9_ship_62 : decode cX9_ship 62 = .ok (.aload_n 0, 1) := by decide +kernel
theorem dX9_ship_63 : decode cX9_ship 63 = .ok (.getfield 208, 3) := by decide +kernel
theorem dX9_ship_66 : decode cX9_ship 66 = .ok (.iload_n 2, 1) := by decide +kernel
theorem dX9_ship_67 : decode cX9_ship 67 = .ok (.bastore, 1) := by decide +kernel
theorem dX9_ship_68 : decode cX9_ship 68 = .ok (.aload_n 0, 1) := by decide +kernel
theorem dX9_ship_69 : decode cX9_ship 69 = .ok (.getfield 76, 3) := by decide +kernel
theorem dX9_ship_72 : decode cX9_ship 72 = .ok (.aload_n 0, 1) := by decide +kernel
theorem dX9_ship_73 : decode cX9_ship 73 = .ok (.getfield 208, 3) := by decide +kernel
theorem dX9_ship_76 : decode cX9_ship 76 = .ok (.iload_n 3, 1) := by decide +kernel
theorem dX9_ship_77 : decode cX9_ship 77 = .ok (.iastore, 1) := by decide +kernel
theorem dX9_ship_78 : decode cX9_ship 78 = .ok (.aload_n 0, 1) := by decide +kernel
theorem dX9_ship_79 : decode cX9_ship 79 = .ok (.getfield 85, 3) := by decide +kernel
theorem dX9_ship_82 : decode cX9_ship 82 = .ok (.aload_n 0, 1) := by decide +kernel
theorem dX9_ship_83 : decode cX9_ship 83 = .ok (.getfield 208, 3) := by decide +kernel
theorem dX9_ship_86 : decode cX9_ship 86 = .ok (.iconst (-1), 1) := by decide +kernel
theorem dX9_ship_87 : decode cX9_ship 87 = .ok (.iastore, 1) := by decide +kernel
theorem dX9_ship_88 : decode cX9_ship 88 = .ok (.iconst 0, 1) := by decide +kernel
theorem dX9_ship_89 : decode cX9_ship 89 = .ok (.istore 4, 2) := by decide +kernel
theorem dX9_ship_91 : decode cX9_ship 91 = .ok (.iload 4, 2) := by decide +kernel
theorem dX9_ship_93 : decode cX9_ship 93 = .ok (.bipush 8, 2) := by decide +kernel
theorem dX9_ship_95 : decode cX9_ship 95 = .ok (.if_icmp .ge 25, 3) := by decide +kernel
theorem dX9_ship_98 : decode cX9_ship 98 = .ok (.aload_n 0, 1) := by decide +kernel
theorem dX9_ship_99 : decode cX9_ship 99 = .ok (.getfield 88, 3) := by decide +kernel
theorem dX9_ship_102 : decode cX9_ship 102 = .ok (.bipush 8, 2) := by decide +kernel
theorem dX9_ship_104 : decode cX9_ship 104 = .ok (.aload_n 0, 1) := by decide +kernel
theorem dX9_ship_105 : decode cX9_ship 105 = .ok (.getfield 208, 3) := by decide +kernel
theorem dX9_ship_108 : decode cX9_ship 108 = .ok (.imul, 1) := by decide +kernel
theorem dX9_ship_109 : decode cX9_ship 109 = .ok (.iload 4, 2) := by decide +kernel
theorem dX9_ship_111 : decode cX9_ship 111 = .ok (.iadd, 1) := by decide +kernel
theorem dX9_ship_112 : decode cX9_ship 112 = .ok (.iconst (-1), 1) := by decide +kernel
theorem dX9_ship_113 : decode cX9_ship 113 = .ok (.iastore, 1) := by decide +kernel
theorem dX9_ship_114 : decode cX9_ship 114 = .ok (.iinc 4 1, 3) := by decide +kernel
theorem dX9_ship_117 : decode cX9_ship 117 = .ok (.goto (-26), 3) := by decide +kernel
theorem dX9_ship_120 : decode cX9_ship 120 = .ok (.aload_n 0, 1) := by decide +kernel
theorem dX9_ship_121 : decode cX9_ship 121 = .ok (.dup, 1) := by decide +kernel
theorem dX9_ship_122 : decode cX9_ship 122 = .ok (.getfield 208, 3) := by decide +kernel
theorem dX9_ship_125 : decode cX9_ship 125 = .ok (.iconst 1, 1) := by decide +kernel
theorem dX9_ship_126 : decode cX9_ship 126 = .ok (.iadd, 1) := by decide +kernel
theorem dX9_ship_127 : decode cX9_ship 127 = .ok (.putfield 208, 3) := by decide +kernel
theorem dX9_ship_130 : decode cX9_ship 130 = .ok (.aload_n 0, 1) := by decide +kernel
theorem dX9_ship_131 : decode cX9_ship 131 = .ok (.getfield 208, 3) := by decide +kernel
theorem dX9_ship_134 : decode cX9_ship 134 = .ok (.iconst 1, 1) := by decide +kernel
theorem dX9_ship_135 : decode cX9_ship 135 = .ok (.isub, 1) := by decide +kernel
theorem dX9_ship_136 : decode cX9_ship 136 = .ok (.ireturn, 1) := by decide +kernel
theorem dX9_first_0 : decode cX9_first 0 = .ok (.iload_n 1, 1) := by decide +kernel
theorem dX9_first_1 : decode cX9_first 1 = .ok (.ifCond .eq 7, 3) := by decide +kernel
theorem dX9_first_4 : decode cX9_first 4 = .ok (.iconst 0, 1) := by decide +kernel
theorem dX9_first_5 : decode cX9_first 5 = .ok (.goto 9, 3) := by decide +kernel
theorem dX9_first_8 : decode cX9_first 8 = .ok (.aload_n 0, 1) := by decide +kernel
theorem dX9_first_9 : decode cX9_first 9 = .ok (.getfield 119, 3) := by decide +kernel
theorem dX9_first_12 : decode cX9_first 12 = .ok (.iconst 1, 1) := by decide +kernel
theorem dX9_first_13 : decode cX9_first 13 = .ok (.isub, 1) := by decide +kernel
theorem dX9_first_14 : decode cX9_first 14 = .ok (.ireturn, 1) := by decide +kernel
set_option maxRecDepth 20000 in
theorem ggX9_isUnder_X9_levelAt : GoodIn wsX9_isUnder wsX9_levelAt := goodIn_r _ [6, 7, 8, 9, 10, 11, 12, 13, 14, 15, 16, 17, 18, 19, 20, 21, 22, 23, 24, 25, 26, 27, 28, 29, 30, 31, 32, 33, 34, 35, 36, 37, 38, 39, 40, 41, 42, 43, 44, 45, 46, 47, 48, 49, 50, 51, 52] (by decide +kernel) (by decide +kernel)
set_option maxRecDepth 20000 in
theorem gX9_isUnder_X9_levelAt : GoodIn wsX9_isUnder (wsV RX9 132 RX9 yX9_levelAt wsX9_levelAt) := goodIn_app (goodIn_of _ (by decide +kernel)) ggX9_isUnder_X9_levelAt
theorem dX9_isUnder_0 : decode cX9_isUnder 0 = .ok (.iload_n 1, 1) := by decide +kernel
theorem dX9_isUnder_1 : decode cX9_isUnder 1 = .ok (.aload_n 0, 1) := by decide +kernel
theorem dX9_isUnder_2 : decode cX9_isUnder 2 = .ok (.iload_n 3, 1) := by decide +kernel
theorem dX9_isUnder_3 : decode cX9_isUnder 3 = .ok (.invokevirtual 132, 3) := by decide +kernel
theorem dX9_isUnder_6 : decode cX9_isUnder 6 = .ok (.iadd, 1) := by decide +kernel
theorem dX9_isUnder_7 : decode cX9_isUnder 7 = .ok (.aload_n 0, 1) := by decide +kernel
theorem dX9_isUnder_8 : decode cX9_isUnder 8 = .ok (.getfield 13, 3) := by decide +kernel
theorem dX9_isUnder_11 : decode cX9_isUnder 11 = .ok (.iload_n 2, 1) := by decide +kernel
theorem dX9_isUnder_12 : decode cX9_isUnder 12 = .ok (.iaload, 1) := by decide +kernel
theorem dX9_isUnder_13 : decode cX9_isUnder 13 = .ok (.if_icmp .gt 7, 3) := by decide +kernel
theorem dX9_isUnder_16 : decode cX9_isUnder 16 = .ok (.iconst 1, 1) := by decide +kernel
theorem dX9_isUnder_17 : decode cX9_isUnder 17 = .ok (.goto 4, 3) := by decide +kernel
theorem dX9_isUnder_20 : decode cX9_isUnder 20 = .ok (.iconst 0, 1) := by decide +kernel
theorem dX9_isUnder_21 : decode cX9_isUnder 21 = .ok (.ireturn, 1) := by decide +kernel
set_option maxRecDepth 20000 in
theorem ggX9_goThrough_X9_first : GoodIn wsX9_goThrough wsX9_first := goodIn_r _ [13, 14, 15, 16, 17, 18, 19, 20, 21, 22, 23, 24, 25, 26, 27, 28, 29, 30, 31, 32, 33, 34, 35, 36, 37, 38, 39, 40, 41, 42, 43, 44, 45, 46, 47, 48, 49, 50, 51, 52, 53, 54, 55, 56, 57, 58, 59] (by decide +kernel) (by decide +kernel)
set_option maxRecDepth 20000 in
theorem gX9_goThrough_X9_first : GoodIn wsX9_goThrough (wsV RX9 211 RX9 yX9_first wsX9_first) := goodIn_app (goodIn_of _ (by decide +kernel)) ggX9_goThrough_X9_first
theorem dX9_goThrough_0 : decode cX9_goThrough 0 = .ok (.aload_n 0, 1) := by decide +kernel
theorem dX9_goThrough_1 : decode cX9_goThrough 1 = .ok (.getfield 73, 3) := by decide +kernel
theorem dX9_goThrough_4 : decode cX9_goThrough 4 = .ok (.iload_n 1, 1) := by decide +kernel
theorem dX9_goThrough_5 : decode cX9_goThrough 5 = .ok (.iaload, 1) := by decide +kernel
theorem dX9_goThrough_6 : decode cX9_goThrough 6 = .ok (.istore_n 2, 1) := by decide +kernel
theorem dX9_goThrough_7 : decode cX9_goThrough 7 = .ok (.aload_n 0, 1) := by decide +kernel
theorem dX9_goThrough_8 : decode cX9_goThrough 8 = .ok (.getfield 88, 3) := by decide +kernel
theorem dX9_goThrough_11 : decode cX9_goThrough 11 = .ok (.bipush 8, 2) := by decide +kernel
theorem dX9_goThrough_13 : decode cX9_goThrough 13 = .ok (.iload_n 1, 1) := by decide +kernel
theorem dX9_goThrough_14 : decode cX9_goThrough 14 = .ok (.imul, 1) := by decide +kernel
theorem dX9_goThrough_15 : decode cX9_goThrough 15 = .ok (.iload_n 2, 1) := by decide +kernel
theorem dX9_goThrough_16 : decode cX9_goThrough 16 = .ok (.iadd, 1) := by decide +kernel
theorem dX9_goThrough_17 : decode cX9_goThrough 17 = .ok (.aload_n 0, 1) := by decide +kernel
theorem dX9_goThrough_18 : decode cX9_goThrough 18 = .ok (.getfield 122, 3) := by decide +kernel
theorem dX9_goThrough_21 : decode cX9_goThrough 21 = .ok (.iastore, 1) := by decide +kernel
theorem dX9_goThrough_22 : decode cX9_goThrough 22 = .ok (.iload_n 2, 1) := by decide +kernel
theorem dX9_goThrough_23 : decode cX9_goThrough 23 = .ok (.aload_n 0, 1) := by decide +kernel
theorem dX9_goThrough_24 : decode cX9_goThrough 24 = .ok (.aload_n 0, 1) := by decide +kernel
theorem dX9_goThrough_25 : decode cX9_goThrough 25 = .ok (.getfield 91, 3) := by decide +kernel
theorem dX9_goThrough_28 : decode cX9_goThrough 28 = .ok (.iload_n 1, 1) := by decide +kernel
theorem dX9_goThrough_29 : decode cX9_goThrough 29 = .ok (.baload, 1) := by decide +kernel
theorem dX9_goThrough_30 : decode cX9_goThrough 30 = .ok (.ifCond .ne 7, 3) := by decide +kernel
theorem dX9_goThrough_33 : decode cX9_goThrough 33 = .ok (.iconst 1, 1) := by decide +kernel
theorem dX9_goThrough_34 : decode cX9_goThrough 34 = .ok (.goto 4, 3) := by decide +kernel
theorem dX9_goThrough_37 : decode cX9_goThrough 37 = .ok (.iconst 0, 1) := by decide +kernel
theorem dX9_goThrough_38 : decode cX9_goThrough 38 = .ok (.invokevirtual 211, 3) := by decide +kernel
theorem dX9_goThrough_41 : decode cX9_goThrough 41 = .ok (.if_icmp .ne 21, 3) := by decide +kernel
theorem dX9_goThrough_44 : decode cX9_goThrough 44 = .ok (.aload_n 0, 1) := by decide +kernel
theorem dX9_goThrough_45 : decode cX9_goThrough 45 = .ok (.getfield 70, 3) := by decide +kernel
theorem dX9_goThrough_48 : decode cX9_goThrough 48 = .ok (.iload_n 1, 1) := by decide +kernel
theorem dX9_goThrough_49 : decode cX9_goThrough 49 = .ok (.iconst 3, 1) := by decide +kernel
theorem dX9_goThrough_50 : decode cX9_goThrough 50 = .ok (.iastore, 1) := by decide +kernel
theorem dX9_goThrough_51 : decode cX9_goThrough 51 = .ok (.aload_n 0, 1) := by decide +kernel
theorem dX9_goThrough_52 : decode cX9_goThrough 52 = .ok (.getfield 85, 3) := by decide +kernel
theorem dX9_goThrough_55 : decode cX9_goThrough 55 = .ok (.iload_n 1, 1) := by decide +kernel
theorem dX9_goThrough_56 : decode cX9_goThrough 56 = .ok (.aload_n 0, 1) := by decide +kernel
theorem dX9_goThrough_57 : decode cX9_goThrough 57 = .ok (.getfield 122, 3) := by decide +kernel
theorem dX9_goThrough_60 : decode cX9_goThrough 60 = .ok (.iastore, 1) := by decide +kernel
theorem dX9_goThrough_61 : decode cX9_goThrough 61 = .ok (.return_, 1) := by decide +kernel
theorem dX9_goThrough_62 : decode cX9_goThrough 62 = .ok (.aload_n 0, 1) := by decide +kernel
theorem dX9_goThrough_63 : decode cX9_goThrough 63 = .ok (.getfield 70, 3) := by decide +kernel
theorem dX9_goThrough_66 : decode cX9_goThrough 66 = .ok (.iload_n 1, 1) := by decide +kernel
theorem dX9_goThrough_67 : decode cX9_goThrough 67 = .ok (.iconst 2, 1) := by decide +kernel
theorem dX9_goThrough_68 : decode cX9_goThrough 68 = .ok (.iastore, 1) := by decide +kernel
theorem dX9_goThrough_69 : decode cX9_goThrough 69 = .ok (.aload_n 0, 1) := by decide +kernel
theorem dX9_goThrough_70 : decode cX9_goThrough 70 = .ok (.getfield 73, 3) := by decide +kernel
theorem dX9_goThrough_73 : decode cX9_goThrough 73 = .ok (.iload_n 1, 1) := by decide +kernel
theorem dX9_goThrough_74 : decode cX9_goThrough 74 = .ok (.aload_n 0, 1) := by decide +kernel
theorem dX9_goThrough_75 : decode cX9_goThrough 75 = .ok (.getfield 91, 3) := by decide +kernel
theorem dX9_goThrough_78 : decode cX9_goThrough 78 = .ok (.iload_n 1, 1) := by decide +kernel
theorem dX9_goThrough_79 : decode cX9_goThrough 79 = .ok (.baload, 1) := by decide +kernel
theorem dX9_goThrough_80 : decode cX9_goThrough 80 = .ok (.ifCond .eq 9, 3) := by decide +kernel
theorem dX9_goThrough_83 : decode cX9_goThrough 83 = .ok (.iload_n 2, 1) := by decide +kernel
theorem dX9_goThrough_84 : decode cX9_goThrough 84 = .ok (.iconst 1, 1) := by decide +kernel
theorem dX9_goThrough_85 : decode cX9_goThrough 85 = .ok (.iadd, 1) := by decide +kernel
theorem dX9_goThrough_86 : decode cX9_goThrough 86 = .ok (.goto 6, 3) := by decide +kernel
theorem dX9_goThrough_89 : decode cX9_goThrough 89 = .ok (.iload_n 2, 1) := by decide +kernel
theorem dX9_goThrough_90 : decode cX9_goThrough 90 = .ok (.iconst 1, 1) := by decide +kernel
theorem dX9_goThrough_91 : decode cX9_goThrough 91 = .ok (.isub, 1) := by decide +kernel
theorem dX9_goThrough_92 : decode cX9_goThrough 92 = .ok (.iastore, 1) := by decide +kernel
theorem dX9_goThrough_93 : decode cX9_goThrough 93 = .ok (.aload_n 0, 1) := by decide +kernel
theorem dX9_goThrough_94 : decode cX9_goThrough 94 = .ok (.getfield 76, 3) := by decide +kernel
theorem dX9_goThrough_97 : decode cX9_goThrough 97 = .ok (.iload_n 1, 1) := by decide +kernel
theorem dX9_goThrough_98 : decode cX9_goThrough 98 = .ok (.aload_n 0, 1) := by decide +kernel
theorem dX9_goThrough_99 : decode cX9_goThrough 99 = .ok (.getfield 122, 3) := by decide +kernel
theorem dX9_goThrough_102 : decode cX9_goThrough 102 = .ok (.aload_n 0, 1) := by decide +kernel
theorem dX9_goThrough_103 : decode cX9_goThrough 103 = .ok (.getfield 23, 3) := by decide +kernel
theorem dX9_goThrough_106 : decode cX9_goThrough 106 = .ok (.aload_n 0, 1) := by decide +kernel
theorem dX9_goThrough_107 : decode cX9_goThrough 107 = .ok (.getfield 91, 3) := by decide +kernel
theorem dX9_goThrough_110 : decode cX9_goThrough 110 = .ok (.iload_n 1, 1) := by decide +kernel
theorem dX9_goThrough_111 : decode cX9_goThrough 111 = .ok (.baload, 1) := by decide +kernel
theorem dX9_goThrough_112 : decode cX9_goThrough 112 = .ok (.ifCond .eq 7, 3) := by decide +kernel
theorem dX9_goThrough_115 : decode cX9_goThrough 115 = .ok (.iload_n 2, 1) := by decide +kernel
theorem dX9_goThrough_116 : decode cX9_goThrough 116 = .ok (.goto 6, 3) := by decide +kernel
theorem dX9_goThrough_119 : decode cX9_goThrough 119 = .ok (.iload_n 2, 1) := by decide +kernel
theorem dX9_goThrough_120 : decode cX9_goThrough 120 = .ok (.iconst 1, 1) := by decide +kernel
theorem dX9_goThrough_121 : decode cX9_goThrough 121 = .ok (.isub, 1) := by decide +kernel
theorem dX9_goThrough_122 : decode cX9_goThrough 122 = .ok (.iaload, 1) := by decide +kernel
theorem dX9_goThrough_123 : decode cX9_goThrough 123 = .ok (.iadd, 1) := by decide +kernel
theorem dX9_goThrough_124 : decode cX9_goThrough 124 = .ok (.iastore, 1) := by decide +kernel
theorem dX9_goThrough_125 : decode cX9_goThrough 125 = .ok (.return_, 1) := by decide +kernel
set_option maxRecDepth 20000 in
theorem ggX9_keeper_X9_isBridge : GoodIn wsX9_keeper wsX9_isBridge := goodIn_r _ [11, 12, 13, 14, 15, 16, 17, 18, 19, 20, 21, 22, 23, 24, 25, 26, 27, 28, 29, 30, 31, 32, 33, 34, 35, 36, 37, 38, 39, 40, 41, 42, 43, 44, 45, 46, 47, 48, 49, 50, 51, 52, 53, 54, 55, 56, 57] (by decide +kernel) (by decide +kernel)
set_option maxRecDepth 20000 in
theorem gX9_keeper_X9_isBridge : GoodIn wsX9_keeper (wsV RX9 202 RX9 yX9_isBridge wsX9_isBridge) := goodIn_app (goodIn_of _ (by decide +kernel)) ggX9_keeper_X9_isBridge
theorem dX9_keeper_0 : decode cX9_keeper 0 = .ok (.aload_n 0, 1) := by decide +kernel
theorem dX9_keeper_1 : decode cX9_keeper 1 = .ok (.iconst 0, 1) := by decide +kernel
theorem dX9_keeper_2 : decode cX9_keeper 2 = .ok (.putfield 103, 3) := by decide +kernel
theorem dX9_keeper_5 : decode cX9_keeper 5 = .ok (.aload_n 0, 1) := by decide +kernel
theorem dX9_keeper_6 : decode cX9_keeper 6 = .ok (.getfield 215, 3) := by decide +kernel
theorem dX9_keeper_9 : decode cX9_keeper 9 = .ok (.iconst 4, 1) := by decide +kernel
theorem dX9_keeper_10 : decode cX9_keeper 10 = .ok (.if_icmp .eq 18, 3) := by decide +kernel
theorem dX9_keeper_13 : decode cX9_keeper 13 = .ok (.aload_n 0, 1) := by decide +kernel
theorem dX9_keeper_14 : decode cX9_keeper 14 = .ok (.iload_n 1, 1) := by decide +kernel
theorem dX9_keeper_15 : decode cX9_keeper 15 = .ok (.invokevirtual 202, 3) := by decide +kernel
theorem dX9_keeper_18 : decode cX9_keeper 18 = .ok (.ifCond .eq 10, 3) := by decide +kernel
theorem dX9_keeper_21 : decode cX9_keeper 21 = .ok (.aload_n 0, 1) := by decide +kernel
theorem dX9_keeper_22 : decode cX9_keeper 22 = .ok (.getfield 122, 3) := by decide +kernel
theorem dX9_keeper_25 : decode cX9_keeper 25 = .ok (.ifCond .eq 5, 3) := by decide +kernel
theorem dX9_keeper_28 : decode cX9_keeper 28 = .ok (.iconst (-1), 1) := by decide +kernel
theorem dX9_keeper_29 : decode cX9_keeper 29 = .ok (.ireturn, 1) := by decide +kernel
theorem dX9_keeper_30 : decode cX9_keeper 30 = .ok (.aload_n 0, 1) := by decide +kernel
theorem dX9_keeper_31 : decode cX9_keeper 31 = .ok (.getfield 94, 3) := by decide +kernel
theorem dX9_keeper_34 : decode cX9_keeper 34 = .ok (.aload_n 0, 1) := by decide +kernel
theorem dX9_keeper_35 : decode cX9_keeper 35 = .ok (.getfield 215, 3) := by decide +kernel
theorem dX9_keeper_38 : decode cX9_keeper 38 = .ok (.iload_n 1, 1) := by decide +kernel
theorem dX9_keeper_39 : decode cX9_keeper 39 = .ok (.iastore, 1) := by decide +kernel
theorem dX9_keeper_40 : decode cX9_keeper 40 = .ok (.aload_n 0, 1) := by decide +kernel
theorem dX9_keeper_41 : decode cX9_keeper 41 = .ok (.getfield 97, 3) := by decide +kernel
theorem dX9_keeper_44 : decode cX9_keeper 44 = .ok (.aload_n 0, 1) := by decide +kernel
theorem dX9_keeper_45 : decode cX9_keeper 45 = .ok (.getfield 215, 3) := by decide +kernel
theorem dX9_keeper_48 : decode cX9_keeper 48 = .ok (.iconst (-1), 1) := by decide +kernel
theorem dX9_keeper_49 : decode cX9_keeper 49 = .ok (.iastore, 1) := by decide +kernel
theorem dX9_keeper_50 : decode cX9_keeper 50 = .ok (.aload_n 0, 1) := by decide +kernel
theorem dX9_keeper_51 : decode cX9_keeper 51 = .ok (.getfield 100, 3) := by decide +kernel
theorem dX9_keeper_54 : decode cX9_keeper 54 = .ok (.aload_n 0, 1) := by decide +kernel
theorem dX9_keeper_55 : decode cX9_keeper 55 = .ok (.getfield 215, 3) := by decide +kernel
theorem dX9_keeper_58 : decode cX9_keeper 58 = .ok (.iconst (-1), 1) := by decide +kernel
theorem dX9_keeper_59 : decode cX9_keeper 59 = .ok (.iastore, 1) := by decide +kernel
theorem dX9_keeper_60 : decode cX9_keeper 60 = .ok (.aload_n 0, 1) := by decide +kernel
theorem dX9_keeper_61 : decode cX9_keeper 61 = .ok (.dup, 1) := by decide +kernel
theorem dX9_keeper_62 : decode cX9_keeper 62 = .ok (.getfield 215, 3) := by decide +kernel
theorem dX9_keeper_65 : decode cX9_keeper 65 = .ok (.iconst 1, 1) := by decide +kernel
theorem dX9_keeper_66 : decode cX9_keeper 66 = .ok (.iadd, 1) := by decide +kernel
theorem dX9_keeper_67 : decode cX9_keeper 67 = .ok (.putfield 215, 3) := by decide +kernel
theorem dX9_keeper_70 : decode cX9_keeper 70 = .ok (.aload_n 0, 1) := by decide +kernel
theorem dX9_keeper_71 : decode cX9_keeper 71 = .ok (.getfield 215, 3) := by decide +kernel
theorem dX9_keeper_74 : decode cX9_keeper 74 = .ok (.iconst 1, 1) := by decide +kernel
theorem dX9_keeper_75 : decode cX9_keeper 75 = .ok (.isub, 1) := by decide +kernel
theorem dX9_keeper_76 : decode cX9_keeper 76 = .ok (.ireturn, 1) := by decide +kernel
theorem dX9_hasKeeper_0 : decode cX9_hasKeeper 0 = .ok (.iconst 0, 1) := by decide +kernel
theorem dX9_hasKeeper_1 : decode cX9_hasKeeper 1 = .ok (.istore_n 3, 1) := by decide +kernel
theorem dX9_hasKeeper_2 : decode cX9_hasKeeper 2 = .ok (.iconst 0, 1) := by decide +kernel
theorem dX9_hasKeeper_3 : decode cX9_hasKeeper 3 = .ok (.istore 4, 2) := by decide +kernel
theorem dX9_hasKeeper_5 : decode cX9_hasKeeper 5 = .ok (.iload 4, 2) := by decide +kernel
theorem dX9_hasKeeper_7 : decode cX9_hasKeeper 7 = .ok (.aload_n 0, 1) := by decide +kernel
theorem dX9_hasKeeper_8 : decode cX9_hasKeeper 8 = .ok (.getfield 215, 3) := by decide +kernel
theorem dX9_hasKeeper_11 : decode cX9_hasKeeper 11 = .ok (.if_icmp .ge 45, 3) := by decide +kernel
theorem dX9_hasKeeper_14 : decode cX9_hasKeeper 14 = .ok (.iload_n 3, 1) := by decide +kernel
theorem dX9_hasKeeper_15 : decode cX9_hasKeeper 15 = .ok (.ifCond .ne 29, 3) := by decide +kernel
theorem dX9_hasKeeper_18 : decode cX9_hasKeeper 18 = .ok (.aload_n 0, 1) := by decide +kernel
theorem dX9_hasKeeper_19 : decode cX9_hasKeeper 19 = .ok (.getfield 94, 3) := by decide +kernel
theorem dX9_hasKeeper_22 : decode cX9_hasKeeper 22 = .ok (.iload 4, 2) := by decide +kernel
theorem dX9_hasKeeper_24 : decode cX9_hasKeeper 24 = .ok (.iaload, 1) := by decide +kernel
theorem dX9_hasKeeper_25 : decode cX9_hasKeeper 25 = .ok (.iload_n 1, 1) := by decide +kernel
theorem dX9_hasKeeper_26 : decode cX9_hasKeeper 26 = .ok (.if_icmp .eq 18, 3) := by decide +kernel
theorem dX9_hasKeeper_29 : decode cX9_hasKeeper 29 = .ok (.iload_n 2, 1) := by decide +kernel
theorem dX9_hasKeeper_30 : decode cX9_hasKeeper 30 = .ok (.ifCond .eq 18, 3) := by decide +kernel
theorem dX9_hasKeeper_33 : decode cX9_hasKeeper 33 = .ok (.aload_n 0, 1) := by decide +kernel
theorem dX9_hasKeeper_34 : decode cX9_hasKeeper 34 = .ok (.getfield 97, 3) := by decide +kernel
theorem dX9_hasKeeper_37 : decode cX9_hasKeeper 37 = .ok (.iload 4, 2) := by decide +kernel
theorem dX9_hasKeeper_39 : decode cX9_hasKeeper 39 = .ok (.iaload, 1) := by decide +kernel
theorem dX9_hasKeeper_40 : decode cX9_hasKeeper 40 = .ok (.iload_n 1, 1) := by decide +kernel
theorem dX9_hasKeeper_41 : decode cX9_hasKeeper 41 = .ok (.if_icmp .ne 7, 3) := by decide +kernel
theorem dX9_hasKeeper_44 : decode cX9_hasKeeper 44 = .ok (.iconst 1, 1) := by decide +kernel
theorem dX9_hasKeeper_45 : decode cX9_hasKeeper 45 = .ok (.goto 4, 3) := by decide +kernel
theorem dX9_hasKeeper_48 : decode cX9_hasKeeper 48 = .ok (.iconst 0, 1) := by decide +kernel
theorem dX9_hasKeeper_49 : decode cX9_hasKeeper 49 = .ok (.istore_n 3, 1) := by decide +kernel
theorem dX9_hasKeeper_50 : decode cX9_hasKeeper 50 = .ok (.iinc 4 1, 3) := by decide +kernel
theorem dX9_hasKeeper_53 : decode cX9_hasKeeper 53 = .ok (.goto (-48), 3) := by decide +kernel
theorem dX9_hasKeeper_56 : decode cX9_hasKeeper 56 = .ok (.iload_n 3, 1) := by decide +kernel
theorem dX9_hasKeeper_57 : decode cX9_hasKeeper 57 = .ok (.ireturn, 1) := by decide +kernel
theorem dX9_isWanted_0 : decode cX9_isWanted 0 = .ok (.iconst 0, 1) := by decide +kernel
theorem dX9_isWanted_1 : decode cX9_isWanted 1 = .ok (.istore_n 2, 1) := by decide +kernel
theorem dX9_isWanted_2 : decode cX9_isWanted 2 = .ok (.iconst 0, 1) := by decide +kernel
theorem dX9_isWanted_3 : decode cX9_isWanted 3 = .ok (.istore_n 3, 1) := by decide +kernel
theorem dX9_isWanted_4 : decode cX9_isWanted 4 = .ok (.iload_n 3, 1) := by decide +kernel
theorem dX9_isWanted_5 : decode cX9_isWanted 5 = .ok (.aload_n 0, 1) := by decide +kernel
theorem dX9_isWanted_6 : decode cX9_isWanted 6 = .ok (.getfield 208, 3) := by decide +kernel
theorem dX9_isWanted_9 : decode cX9_isWanted 9 = .ok (.if_icmp .ge 39, 3) := by decide +kernel
theorem dX9_isWanted_12 : decode cX9_isWanted 12 = .ok (.iload_n 2, 1) := by decide +kernel
theorem dX9_isWanted_13 : decode cX9_isWanted 13 = .ok (.ifCond .ne 23, 3) := by decide +kernel
theorem dX9_isWanted_16 : decode cX9_isWanted 16 = .ok (.aload_n 0, 1) := by decide +kernel
theorem dX9_isWanted_17 : decode cX9_isWanted 17 = .ok (.getfield 70, 3) := by decide +kernel
theorem dX9_isWanted_20 : decode cX9_isWanted 20 = .ok (.iload_n 3, 1) := by decide +kernel
theorem dX9_isWanted_21 : decode cX9_isWanted 21 = .ok (.iaload, 1) := by decide +kernel
theorem dX9_isWanted_22 : decode cX9_isWanted 22 = .ok (.iconst 1, 1) := by decide +kernel
theorem dX9_isWanted_23 : decode cX9_isWanted 23 = .ok (.if_icmp .ne 17, 3) := by decide +kernel
theorem dX9_isWanted_26 : decode cX9_isWanted 26 = .ok (.aload_n 0, 1) := by decide +kernel
theorem dX9_isWanted_27 : decode cX9_isWanted 27 = .ok (.getfield 73, 3) := by decide +kernel
theorem dX9_isWanted_30 : decode cX9_isWanted 30 = .ok (.iload_n 3, 1) := by decide +kernel
theorem dX9_isWanted_31 : decode cX9_isWanted 31 = .ok (.iaload, 1) := by decide +kernel
theorem dX9_isWanted_32 : decode cX9_isWanted 32 = .ok (.iload_n 1, 1) := by decide +kernel
theorem dX9_isWanted_33 : decode cX9_isWanted 33 = .ok (.if_icmp .ne 7, 3) := by decide +kernel
theorem dX9_isWanted_36 : decode cX9_isWanted 36 = .ok (.iconst 1, 1) := by decide +kernel
theorem dX9_isWanted_37 : decode cX9_isWanted 37 = .ok (.goto 4, 3) := by decide +kernel
theorem dX9_isWanted_40 : decode cX9_isWanted 40 = .ok (.iconst 0, 1) := by decide +kernel
theorem dX9_isWanted_41 : decode cX9_isWanted 41 = .ok (.istore_n 2, 1) := by decide +kernel
theorem dX9_isWanted_42 : decode cX9_isWanted 42 = .ok (.iinc 3 1, 3) := by decide +kernel
theorem dX9_isWanted_45 : decode cX9_isWanted 45 = .ok (.goto (-41), 3) := by decide +kernel
theorem dX9_isWanted_48 : decode cX9_isWanted 48 = .ok (.iload_n 2, 1) := by decide +kernel
theorem dX9_isWanted_49 : decode cX9_isWanted 49 = .ok (.ireturn, 1) := by decide +kernel
set_option maxRecDepth 20000 in
theorem ggX9_go_X9_isIn : GoodIn wsX9_go wsX9_isIn := goodIn_r _ [16] (by decide +kernel) (by decide +kernel)
set_option maxRecDepth 20000 in
theorem gX9_go_X9_isIn : GoodIn wsX9_go (va_wsS RX9 125 yX9_isIn wsX9_isIn) := goodIn_app (goodIn_of _ (by decide +kernel)) ggX9_go_X9_isIn
set_option maxRecDepth 20000 in
theorem ggX9_go_X9_come : GoodIn wsX9_go wsX9_come := goodIn_r _ [20, 4, 6, 21, 2, 22, 23, 24, 7, 25, 26, 27, 3, 28, 10, 29, 30, 31, 15, 32, 85, 86, 87, 88, 89, 90, 91, 92, 93, 94, 95, 96, 97, 98, 99, 100, 101, 102, 103, 104, 105, 106, 107, 108, 109, 110, 111, 112, 113, 114, 115, 116, 117, 118, 119, 120, 121, 122, 123, 124, 125, 126, 127, 128, 129] (by decide +kernel) (by decide +kernel)
set_option maxRecDepth 20000 in
theorem gX9_go_X9_come : GoodIn wsX9_go (wsV RX9 218 RX9 yX9_come wsX9_come) := goodIn_app (goodIn_of _ (by decide +kernel)) ggX9_go_X9_come
set_option maxRecDepth 20000 in
theorem ggX9_go_X9_pass : GoodIn wsX9_go wsX9_pass := goodIn_r _ [36, 4, 6, 22, 37, 2, 10, 24, 38, 39, 40, 15, 41, 42, 43, 44, 45, 46, 47, 48, 49, 50, 51, 52, 23, 53, 21, 54, 29, 30, 31, 32, 3, 85, 86, 87, 88, 89, 90, 91, 92, 93, 94, 95, 96, 97, 98, 99, 100, 101, 102, 103, 104, 105, 106, 107, 108, 109, 110, 111, 112, 113, 114, 115, 116, 117, 118, 119, 120, 121, 122, 123, 124, 125, 126, 127, 128, 129] (by decide +kernel) (by decide +kernel)
set_option maxRecDepth 20000 in
theorem gX9_go_X9_pass : GoodIn wsX9_go (wsV RX9 221 RX9 yX9_pass wsX9_pass) := goodIn_app (goodIn_of _ (by decide +kernel)) ggX9_go_X9_pass
set_option maxRecDepth 20000 in
theorem ggX9_go_X9_turn : GoodIn wsX9_go wsX9_turn := goodIn_r _ [58, 10, 2, 59, 28, 60, 61, 62, 63, 64, 15, 65, 4, 6, 22, 66, 67, 68, 69, 70, 71, 72, 73, 74, 75, 76, 7, 26, 27, 85, 86, 87, 88, 89, 90, 91, 92, 93, 94, 95, 96, 97, 98, 99, 100, 101, 102, 103, 104, 105, 106, 107, 108, 109, 110, 111, 112, 113, 114, 115, 116, 117, 118, 119, 120, 121, 122, 123, 124, 125, 126, 127, 128, 129] (by decide +kernel) (by decide +kernel)
set_option maxRecDepth 20000 in
theorem gX9_go_X9_turn : GoodIn wsX9_go (wsV RX9 224 RX9 yX9_turn wsX9_turn) := goodIn_app (goodIn_of _ (by decide +kernel)) ggX9_go_X9_turn
set_option maxRecDepth 20000 in
theorem ggX9_go_X9_send : GoodIn wsX9_go wsX9_send := goodIn_r _ [80, 26, 10, 3, 27, 25, 2, 81, 62, 63, 64, 15, 65, 4, 6, 22, 73, 74, 75, 76, 7, 82, 83, 84, 85, 86, 87, 88, 89, 90, 91, 92, 93, 94, 95, 96, 97, 98, 99, 100, 101, 102, 103, 104, 105, 106, 107, 108, 109, 110, 111, 112, 113, 114, 115, 116, 117, 118, 119, 120, 121, 122, 123, 124, 125, 126, 127, 128, 129] (by decide +kernel) (by decide +kernel)
set_option maxRecDepth 20000 in
theorem gX9_go_X9_send : GoodIn wsX9_go (wsV RX9 227 RX9 yX9_send wsX9_send) := goodIn_app (goodIn_of _ (by decide +kernel)) ggX9_go_X9_send
theorem dX9_go_0 : decode cX9_go 0 = .ok (.aload_n 0, 1) := by decide +kernel
theorem dX9_go_1 : decode cX9_go 1 = .ok (.iconst 0, 1) := by decide +kernel
theorem dX9_go_2 : decode cX9_go 2 = .ok (.putfield 103, 3) := by decide +kernel
theorem dX9_go_5 : decode cX9_go 5 = .ok (.iload_n 1, 1) := by decide +kernel
theorem dX9_go_6 : decode cX9_go 6 = .ok (.iconst 0, 1) := by decide +kernel
theorem dX9_go_7 : decode cX9_go 7 = .ok (.sipush 1440, 3) := by decide +kernel
theorem dX9_go_10 : decode cX9_go 10 = .ok (.invokestatic 125, 3) := by decide +kernel
theorem dX9_go_13 : decode cX9_go 13 = .ok (.ifCond .ne 5, 3) := by decide +kernel
theorem dX9_go_16 : decode cX9_go 16 = .ok (.iconst (-1), 1) := by decide +kernel
theorem dX9_go_17 : decode cX9_go 17 = .ok (.ireturn, 1) := by decide +kernel
theorem dX9_go_18 : decode cX9_go 18 = .ok (.iconst 0, 1) := by decide +kernel
theorem dX9_go_19 : decode cX9_go 19 = .ok (.istore_n 2, 1) := by decide +kernel
theorem dX9_go_20 : decode cX9_go 20 = .ok (.iload_n 2, 1) := by decide +kernel
theorem dX9_go_21 : decode cX9_go 21 = .ok (.iload_n 1, 1) := by decide +kernel
theorem dX9_go_22 : decode cX9_go 22 = .ok (.if_icmp .ge 230, 3) := by decide +kernel
theorem dX9_go_25 : decode cX9_go 25 = .ok (.aload_n 0, 1) := by decide +kernel
theorem dX9_go_26 : decode cX9_go 26 = .ok (.getfield 122, 3) := by decide +kernel
theorem dX9_go_29 : decode cX9_go 29 = .ok (.sipush 1440, 3) := by decide +kernel
theorem dX9_go_32 : decode cX9_go 32 = .ok (.if_icmp .ge 220, 3) := by decide +kernel
theorem dX9_go_35 : decode cX9_go 35 = .ok (.aload_n 0, 1) := by decide +kernel
theorem dX9_go_36 : decode cX9_go 36 = .ok (.invokevirtual 218, 3) := by decide +kernel
theorem dX9_go_39 : decode cX9_go 39 = .ok (.iconst 0, 1) := by decide +kernel
theorem dX9_go_40 : decode cX9_go 40 = .ok (.istore_n 3, 1) := by decide +kernel
theorem dX9_go_41 : decode cX9_go 41 = .ok (.iload_n 3, 1) := by decide +kernel
theorem dX9_go_42 : decode cX9_go 42 = .ok (.aload_n 0, 1) := by decide +kernel
theorem dX9_go_43 : decode cX9_go 43 = .ok (.getfield 119, 3) := by decide +kernel
theorem dX9_go_46 : decode cX9_go 46 = .ok (.if_icmp .ge 14, 3) := by decide +kernel
theorem dX9_go_49 : decode cX9_go 49 = .ok (.aload_n 0, 1) := by decide +kernel
theorem dX9_go_50 : decode cX9_go 50 = .ok (.iload_n 3, 1) := by decide +kernel
theorem dX9_go_51 : decode cX9_go 51 = .ok (.invokevirtual 221, 3) := by decide +kernel
theorem dX9_go_54 : decode cX9_go 54 = .ok (.iinc 3 1, 3) := by decide +kernel
theorem dX9_go_57 : decode cX9_go 57 = .ok (.goto (-16), 3) := by decide +kernel
theorem dX9_go_60 : decode cX9_go 60 = .ok (.iconst 0, 1) := by decide +kernel
theorem dX9_go_61 : decode cX9_go 61 = .ok (.istore_n 3, 1) := by decide +kernel
theorem dX9_go_62 : decode cX9_go 62 = .ok (.iload_n 3, 1) := by decide +kernel
theorem dX9_go_63 : decode cX9_go 63 = .ok (.aload_n 0, 1) := by decide +kernel
theorem dX9_go_64 : decode cX9_go 64 = .ok (.getfield 208, 3) := by decide +kernel
theorem dX9_go_67 : decode cX9_go 67 = .ok (.if_icmp .ge 33, 3) := by decide +kernel
theorem dX9_go_70 : decode cX9_go 70 = .ok (.aload_n 0, 1) := by decide +kernel
theorem dX9_go_71 : decode cX9_go 71 = .ok (.getfield 82, 3) := by decide +kernel
theorem dX9_go_74 : decode cX9_go 74 = .ok (.iload_n 3, 1) := by decide +kernel
theorem dX9_go_75 : decode cX9_go 75 = .ok (.dup2, 1) := by decide +kernel
theorem dX9_go_76 : decode cX9_go 76 = .ok (.iaload, 1) := by decide +kernel
theorem dX9_go_77 : decode cX9_go 77 = .ok (.aload_n 0, 1) := by decide +kernel
theorem dX9_go_78 : decode cX9_go 78 = .ok (.getfield 70, 3) := by decide +kernel
theorem dX9_go_81 : decode cX9_go 81 = .ok (.iload_n 3, 1) := by decide +kernel
theorem dX9_go_82 : decode cX9_go 82 = .ok (.iaload, 1) := by decide +kernel
theorem dX9_go_83 : decode cX9_go 83 = .ok (.iconst 1, 1) := by decide +kernel
theorem dX9_go_84 : decode cX9_go 84 = .ok (.if_icmp .ne 7, 3) := by decide +kernel
theorem dX9_go_87 : decode cX9_go 87 = .ok (.iconst 1, 1) := by decide +kernel
theorem dX9_go_88 : decode cX9_go 88 = .ok (.goto 4, 3) := by decide +kernel
theorem dX9_go_91 : decode cX9_go 91 = .ok (.iconst 0, 1) := by decide +kernel
theorem dX9_go_92 : decode cX9_go 92 = .ok (.iadd, 1) := by decide +kernel
theorem dX9_go_93 : decode cX9_go 93 = .ok (.iastore, 1) := by decide +kernel
theorem dX9_go_94 : decode cX9_go 94 = .ok (.iinc 3 1, 3) := by decide +kernel
theorem dX9_go_97 : decode cX9_go 97 = .ok (.goto (-35), 3) := by decide +kernel
theorem dX9_go_100 : decode cX9_go 100 = .ok (.iconst 0, 1) := by decide +kernel
theorem dX9_go_101 : decode cX9_go 101 = .ok (.istore_n 3, 1) := by decide +kernel
theorem dX9_go_102 : decode cX9_go 102 = .ok (.iload_n 3, 1) := by decide +kernel
theorem dX9_go_103 : decode cX9_go 103 = .ok (.aload_n 0, 1) := by decide +kernel
theorem dX9_go_104 : decode cX9_go 104 = .ok (.getfield 119, 3) := by decide +kernel
theorem dX9_go_107 : decode cX9_go 107 = .ok (.if_icmp .ge 14, 3) := by decide +kernel
theorem dX9_go_110 : decode cX9_go 110 = .ok (.aload_n 0, 1) := by decide +kernel
theorem dX9_go_111 : decode cX9_go 111 = .ok (.iload_n 3, 1) := by decide +kernel
theorem dX9_go_112 : decode cX9_go 112 = .ok (.invokevirtual 224, 3) := by decide +kernel
theorem dX9_go_115 : decode cX9_go 115 = .ok (.iinc 3 1, 3) := by decide +kernel
theorem dX9_go_118 : decode cX9_go 118 = .ok (.goto (-16), 3) := by decide +kernel
theorem dX9_go_121 : decode cX9_go 121 = .ok (.iconst 0, 1) := by decide +kernel
theorem dX9_go_122 : decode cX9_go 122 = .ok (.istore_n 3, 1) := by decide +kernel
theorem dX9_go_123 : decode cX9_go 123 = .ok (.iload_n 3, 1) := by decide +kernel
theorem dX9_go_124 : decode cX9_go 124 = .ok (.aload_n 0, 1) := by decide +kernel
theorem dX9_go_125 : decode cX9_go 125 = .ok (.getfield 215, 3) := by decide +kernel
theorem dX9_go_128 : decode cX9_go 128 = .ok (.if_icmp .ge 14, 3) := by decide +kernel
theorem dX9_go_131 : decode cX9_go 131 = .ok (.aload_n 0, 1) := by decide +kernel
theorem dX9_go_132 : decode cX9_go 132 = .ok (.iload_n 3, 1) := by decide +kernel
theorem dX9_go_133 : decode cX9_go 133 = .ok (.invokevirtual 227, 3) := by decide +kernel
theorem dX9_go_136 : decode cX9_go 136 = .ok (.iinc 3 1, 3) := by decide +kernel
theorem dX9_go_139 : decode cX9_go 139 = .ok (.goto (-16), 3) := by decide +kernel
theorem dX9_go_142 : decode cX9_go 142 = .ok (.iconst 0, 1) := by decide +kernel
theorem dX9_go_143 : decode cX9_go 143 = .ok (.istore_n 3, 1) := by decide +kernel
theorem dX9_go_144 : decode cX9_go 144 = .ok (.iload_n 3, 1) := by decide +kernel
theorem dX9_go_145 : decode cX9_go 145 = .ok (.aload_n 0, 1) := by decide +kernel
theorem dX9_go_146 : decode cX9_go 146 = .ok (.getfield 119, 3) := by decide +kernel
theorem dX9_go_149 : decode cX9_go 149 = .ok (.if_icmp .ge 87, 3) := by decide +kernel
theorem dX9_go_152 : decode cX9_go 152 = .ok (.aload_n 0, 1) := by decide +kernel
theorem dX9_go_153 : decode cX9_go 153 = .ok (.getfield 38, 3) := by decide +kernel
theorem dX9_go_156 : decode cX9_go 156 = .ok (.iload_n 3, 1) := by decide +kernel
theorem dX9_go_157 : decode cX9_go 157 = .ok (.dup2, 1) := by decide +kernel
theorem dX9_go_158 : decode cX9_go 158 = .ok (.iaload, 1) := by decide +kernel
theorem dX9_go_159 : decode cX9_go 159 = .ok (.aload_n 0, 1) := by decide +kernel
theorem dX9_go_160 : decode cX9_go 160 = .ok (.getfield 26, 3) := by decide +kernel
theorem dX9_go_163 : decode cX9_go 163 = .ok (.iload_n 3, 1) := by decide +kernel
theorem dX9_go_164 : decode cX9_go 164 = .ok (.iaload, 1) := by decide +kernel
theorem dX9_go_165 : decode cX9_go 165 = .ok (.iadd, 1) := by decide +kernel
theorem dX9_go_166 : decode cX9_go 166 = .ok (.iastore, 1) := by decide +kernel
theorem dX9_go_167 : decode cX9_go 167 = .ok (.aload_n 0, 1) := by decide +kernel
theorem dX9_go_168 : decode cX9_go 168 = .ok (.getfield 32, 3) := by decide +kernel
theorem dX9_go_171 : decode cX9_go 171 = .ok (.iload_n 3, 1) := by decide +kernel
theorem dX9_go_172 : decode cX9_go 172 = .ok (.iaload, 1) := by decide +kernel
theorem dX9_go_173 : decode cX9_go 173 = .ok (.ifCond .ne 42, 3) := by decide +kernel
theorem dX9_go_176 : decode cX9_go 176 = .ok (.aload_n 0, 1) := by decide +kernel
theorem dX9_go_177 : decode cX9_go 177 = .ok (.getfield 38, 3) := by decide +kernel
theorem dX9_go_180 : decode cX9_go 180 = .ok (.iload_n 3, 1) := by decide +kernel
theorem dX9_go_181 : decode cX9_go 181 = .ok (.dup2, 1) := by decide +kernel
theorem dX9_go_182 : decode cX9_go 182 = .ok (.iaload, 1) := by decide +kernel
theorem dX9_go_183 : decode cX9_go 183 = .ok (.aload_n 0, 1) := by decide +kernel
theorem dX9_go_184 : decode cX9_go 184 = .ok (.getfield 38, 3) := by decide +kernel
theorem dX9_go_187 : decode cX9_go 187 = .ok (.iload_n 3, 1) := by decide +kernel
theorem dX9_go_188 : decode cX9_go 188 = .ok (.iaload, 1) := by decide +kernel
theorem dX9_go_189 : decode cX9_go 189 = .ok (.aload_n 0, 1) := by decide +kernel
theorem dX9_go_190 : decode cX9_go 190 = .ok (.getfield 29, 3) := by decide +kernel
theorem dX9_go_193 : decode cX9_go 193 = .ok (.iload_n 3, 1) := by decide +kernel
theorem dX9_go_194 : decode cX9_go 194 = .ok (.iaload, 1) := by decide +kernel
theorem dX9_go_195 : decode cX9_go 195 = .ok (.if_icmp .ge 12, 3) := by decide +kernel
theorem dX9_go_198 : decode cX9_go 198 = .ok (.aload_n 0, 1) := by decide +kernel
theorem dX9_go_199 : decode cX9_go 199 = .ok (.getfield 38, 3) := by decide +kernel
theorem dX9_go_202 : decode cX9_go 202 = .ok (.iload_n 3, 1) := by decide +kernel
theorem dX9_go_203 : decode cX9_go 203 = .ok (.iaload, 1) := by decide +kernel
theorem dX9_go_204 : decode cX9_go 204 = .ok (.goto 9, 3) := by decide +kernel
theorem dX9_go_207 : decode cX9_go 207 = .ok (.aload_n 0, 1) := by decide +kernel
theorem dX9_go_208 : decode cX9_go 208 = .ok (.getfield 29, 3) := by decide +kernel
theorem dX9_go_211 : decode cX9_go 211 = .ok (.iload_n 3, 1) := by decide +kernel
theorem dX9_go_212 : decode cX9_go 212 = .ok (.iaload, 1) := by decide +kernel
theorem dX9_go_213 : decode cX9_go 213 = .ok (.isub, 1) := by decide +kernel
theorem dX9_go_214 : decode cX9_go 214 = .ok (.iastore, 1) := by decide +kernel
theorem dX9_go_215 : decode cX9_go 215 = .ok (.aload_n 0, 1) := by decide +kernel
theorem dX9_go_216 : decode cX9_go 216 = .ok (.getfield 44, 3) := by decide +kernel
theorem dX9_go_219 : decode cX9_go 219 = .ok (.iload_n 3, 1) := by decide +kernel
theorem dX9_go_220 : decode cX9_go 220 = .ok (.dup2, 1) := by decide +kernel
theorem dX9_go_221 : decode cX9_go 221 = .ok (.iaload, 1) := by decide +kernel
theorem dX9_go_222 : decode cX9_go 222 = .ok (.aload_n 0, 1) := by decide +kernel
theorem dX9_go_223 : decode cX9_go 223 = .ok (.getfield 38, 3) := by decide +kernel
theorem dX9_go_226 : decode cX9_go 226 = .ok (.iload_n 3, 1) := by decide +kernel
theorem dX9_go_227 : decode cX9_go 227 = .ok (.iaload, 1) := by decide +kernel
theorem dX9_go_228 : decode cX9_go 228 = .ok (.iadd, 1) := by decide +kernel
theorem dX9_go_229 : decode cX9_go 229 = .ok (.iastore, 1) := by decide +kernel
theorem dX9_go_230 : decode cX9_go 230 = .ok (.iinc 3 1, 3) := by decide +kernel
theorem dX9_go_233 : decode cX9_go 233 = .ok (.goto (-89), 3) := by decide +kernel
theorem dX9_go_236 : decode cX9_go 236 = .ok (.aload_n 0, 1) := by decide +kernel
theorem dX9_go_237 : decode cX9_go 237 = .ok (.dup, 1) := by decide +kernel
theorem dX9_go_238 : decode cX9_go 238 = .ok (.getfield 122, 3) := by decide +kernel
theorem dX9_go_241 : decode cX9_go 241 = .ok (.iconst 1, 1) := by decide +kernel
theorem dX9_go_242 : decode cX9_go 242 = .ok (.iadd, 1) := by decide +kernel
theorem dX9_go_243 : decode cX9_go 243 = .ok (.putfield 122, 3) := by decide +kernel
theorem dX9_go_246 : decode cX9_go 246 = .ok (.iinc 2 1, 3) := by decide +kernel
theorem dX9_go_249 : decode cX9_go 249 = .ok (.goto (-229), 3) := by decide +kernel
theorem dX9_go_252 : decode cX9_go 252 = .ok (.aload_n 0, 1) := by decide +kernel
theorem dX9_go_253 : decode cX9_go 253 = .ok (.getfield 122, 3) := by decide +kernel
theorem dX9_go_256 : decode cX9_go 256 = .ok (.ireturn, 1) := by decide +kernel
set_option maxRecDepth 20000 in
theorem ggX9_come_X9_first : GoodIn wsX9_come wsX9_first := goodIn_r _ [19, 12, 20, 21, 22, 23, 24, 25, 26, 27, 28, 29, 30, 31, 32, 33, 34, 35, 36, 37, 38, 39, 40, 41, 42, 43, 44, 45, 46, 47, 48, 49, 50, 51, 52, 53, 54, 55, 56, 57, 58, 59, 60, 61, 62, 63, 64] (by decide +kernel) (by decide +kernel)
set_option maxRecDepth 20000 in
theorem gX9_come_X9_first : GoodIn wsX9_come (wsV RX9 211 RX9 yX9_first wsX9_first) := goodIn_app (goodIn_of _ (by decide +kernel)) ggX9_come_X9_first
theorem dX9_come_0 : decode cX9_come 0 = .ok (.iconst 0, 1) := by decide +kernel
theorem dX9_come_1 : decode cX9_come 1 = .ok (.istore_n 1, 1) := by decide +kernel
theorem dX9_come_2 : decode cX9_come 2 = .ok (.iload_n 1, 1) := by decide +kernel
theorem dX9_come_3 : decode cX9_come 3 = .ok (.aload_n 0, 1) := by decide +kernel
theorem dX9_come_4 : decode cX9_come 4 = .ok (.getfield 208, 3) := by decide +kernel
theorem dX9_come_7 : decode cX9_come 7 = .ok (.if_icmp .ge 95, 3) := by decide +kernel
theorem dX9_come_10 : decode cX9_come 10 = .ok (.aload_n 0, 1) := by decide +kernel
theorem dX9_come_11 : decode cX9_come 11 = .ok (.getfield 70, 3) := by decide +kernel
theorem dX9_come_14 : decode cX9_come 14 = .ok (.iload_n 1, 1) := by decide +kernel
theorem dX9_come_15 : decode cX9_come 15 = .ok (.iaload, 1) := by decide +kernel
theorem dX9_come_16 : decode cX9_come 16 = .ok (.ifCond .eq 13, 3) := by decide +kernel
theorem dX9_come_19 : decode cX9_come 19 = .ok (.aload_n 0, 1) := by decide +kernel
theorem dX9_come_20 : decode cX9_come 20 = .ok (.getfield 70, 3) := by decide +kernel
theorem dX9_come_23 : decode cX9_come 23 = .ok (.iload_n 1, 1) := by decide +kernel
theorem dX9_come_24 : decode cX9_come 24 = .ok (.iaload, 1) := by decide +kernel
theorem dX9_come_25 : decode cX9_come 25 = .ok (.iconst 2, 1) := by decide +kernel
theorem dX9_come_26 : decode cX9_come 26 = .ok (.if_icmp .ne 70, 3) := by decide +kernel
theorem dX9_come_29 : decode cX9_come 29 = .ok (.aload_n 0, 1) := by decide +kernel
theorem dX9_come_30 : decode cX9_come 30 = .ok (.getfield 76, 3) := by decide +kernel
theorem dX9_come_33 : decode cX9_come 33 = .ok (.iload_n 1, 1) := by decide +kernel
theorem dX9_come_34 : decode cX9_come 34 = .ok (.iaload, 1) := by decide +kernel
theorem dX9_come_35 : decode cX9_come 35 = .ok (.aload_n 0, 1) := by decide +kernel
theorem dX9_come_36 : decode cX9_come 36 = .ok (.getfield 122, 3) := by decide +kernel
theorem dX9_come_39 : decode cX9_come 39 = .ok (.if_icmp .eq 6, 3) := by decide +kernel
theorem dX9_come_42 : decode cX9_come 42 = .ok (.goto 54, 3) := by decide +kernel
theorem dX9_come_45 : decode cX9_come 45 = .ok (.aload_n 0, 1) := by decide +kernel
theorem dX9_come_46 : decode cX9_come 46 = .ok (.getfield 73, 3) := by decide +kernel
theorem dX9_come_49 : decode cX9_come 49 = .ok (.iload_n 1, 1) := by decide +kernel
theorem dX9_come_50 : decode cX9_come 50 = .ok (.aload_n 0, 1) := by decide +kernel
theorem dX9_come_51 : decode cX9_come 51 = .ok (.getfield 70, 3) := by decide +kernel
theorem dX9_come_54 : decode cX9_come 54 = .ok (.iload_n 1, 1) := by decide +kernel
theorem dX9_come_55 : decode cX9_come 55 = .ok (.iaload, 1) := by decide +kernel
theorem dX9_come_56 : decode cX9_come 56 = .ok (.ifCond .ne 16, 3) := by decide +kernel
theorem dX9_come_59 : decode cX9_come 59 = .ok (.aload_n 0, 1) := by decide +kernel
theorem dX9_come_60 : decode cX9_come 60 = .ok (.aload_n 0, 1) := by decide +kernel
theorem dX9_come_61 : decode cX9_come 61 = .ok (.getfield 91, 3) := by decide +kernel
theorem dX9_come_64 : decode cX9_come 64 = .ok (.iload_n 1, 1) := by decide +kernel
theorem dX9_come_65 : decode cX9_come 65 = .ok (.baload, 1) := by decide +kernel
theorem dX9_come_66 : decode cX9_come 66 = .ok (.invokevirtual 211, 3) := by decide +kernel
theorem dX9_come_69 : decode cX9_come 69 = .ok (.goto 9, 3) := by decide +kernel
theorem dX9_come_72 : decode cX9_come 72 = .ok (.aload_n 0, 1) := by decide +kernel
theorem dX9_come_73 : decode cX9_come 73 = .ok (.getfield 73, 3) := by decide +kernel
theorem dX9_come_76 : decode cX9_come 76 = .ok (.iload_n 1, 1) := by decide +kernel
theorem dX9_come_77 : decode cX9_come 77 = .ok (.iaload, 1) := by decide +kernel
theorem dX9_come_78 : decode cX9_come 78 = .ok (.iastore, 1) := by decide +kernel
theorem dX9_come_79 : decode cX9_come 79 = .ok (.aload_n 0, 1) := by decide +kernel
theorem dX9_come_80 : decode cX9_come 80 = .ok (.getfield 70, 3) := by decide +kernel
theorem dX9_come_83 : decode cX9_come 83 = .ok (.iload_n 1, 1) := by decide +kernel
theorem dX9_come_84 : decode cX9_come 84 = .ok (.iconst 1, 1) := by decide +kernel
theorem dX9_come_85 : decode cX9_come 85 = .ok (.iastore, 1) := by decide +kernel
theorem dX9_come_86 : decode cX9_come 86 = .ok (.aload_n 0, 1) := by decide +kernel
theorem dX9_come_87 : decode cX9_come 87 = .ok (.getfield 79, 3) := by decide +kernel
theorem dX9_come_90 : decode cX9_come 90 = .ok (.iload_n 1, 1) := by decide +kernel
theorem dX9_come_91 : decode cX9_come 91 = .ok (.aload_n 0, 1) := by decide +kernel
theorem dX9_come_92 : decode cX9_come 92 = .ok (.getfield 122, 3) := by decide +kernel
theorem dX9_come_95 : decode cX9_come 95 = .ok (.iastore, 1) := by decide +kernel
theorem dX9_come_96 : decode cX9_come 96 = .ok (.iinc 1 1, 3) := by decide +kernel
theorem dX9_come_99 : decode cX9_come 99 = .ok (.goto (-97), 3) := by decide +kernel
theorem dX9_come_102 : decode cX9_come 102 = .ok (.iconst 0, 1) := by decide +kernel
theorem dX9_come_103 : decode cX9_come 103 = .ok (.istore_n 1, 1) := by decide +kernel
theorem dX9_come_104 : decode cX9_come 104 = .ok (.iload_n 1, 1) := by decide +kernel
theorem dX9_come_105 : decode cX9_come 105 = .ok (.aload_n 0, 1) := by decide +kernel
theorem dX9_come_106 : decode cX9_come 106 = .ok (.getfield 215, 3) := by decide +kernel
theorem dX9_come_109 : decode cX9_come 109 = .ok (.if_icmp .ge 51, 3) := by decide +kernel
theorem dX9_come_112 : decode cX9_come 112 = .ok (.aload_n 0, 1) := by decide +kernel
theorem dX9_come_113 : decode cX9_come 113 = .ok (.getfield 100, 3) := by decide +kernel
theorem dX9_come_116 : decode cX9_come 116 = .ok (.iload_n 1, 1) := by decide +kernel
theorem dX9_come_117 : decode cX9_come 117 = .ok (.iaload, 1) := by decide +kernel
theorem dX9_come_118 : decode cX9_come 118 = .ok (.aload_n 0, 1) := by decide +kernel
theorem dX9_come_119 : decode cX9_come 119 = .ok (.getfield 122, 3) := by decide +kernel
theorem dX9_come_122 : decode cX9_come 122 = .ok (.if_icmp .eq 6, 3) := by decide +kernel
theorem dX9_come_125 : decode cX9_come 125 = .ok (.goto 29, 3) := by decide +kernel
theorem dX9_come_128 : decode cX9_come 128 = .ok (.aload_n 0, 1) := by decide +kernel
theorem dX9_come_129 : decode cX9_come 129 = .ok (.getfield 94, 3) := by decide +kernel
theorem dX9_come_132 : decode cX9_come 132 = .ok (.iload_n 1, 1) := by decide +kernel
theorem dX9_come_133 : decode cX9_come 133 = .ok (.aload_n 0, 1) := by decide +kernel
theorem dX9_come_134 : decode cX9_come 134 = .ok (.getfield 97, 3) := by decide +kernel
theorem dX9_come_137 : decode cX9_come 137 = .ok (.iload_n 1, 1) := by decide +kernel
theorem dX9_come_138 : decode cX9_come 138 = .ok (.iaload, 1) := by decide +kernel
theorem dX9_come_139 : decode cX9_come 139 = .ok (.iastore, 1) := by decide +kernel
theorem dX9_come_140 : decode cX9_come 140 = .ok (.aload_n 0, 1) := by decide +kernel
theorem dX9_come_141 : decode cX9_come 141 = .ok (.getfield 97, 3) := by decide +kernel
theorem dX9_come_144 : decode cX9_come 144 = .ok (.iload_n 1, 1) := by decide +kernel
theorem dX9_come_145 : decode cX9_come 145 = .ok (.iconst (-1), 1) := by decide +kernel
theorem dX9_come_146 : decode cX9_come 146 = .ok (.iastore, 1) := by decide +kernel
theorem dX9_come_147 : decode cX9_come 147 = .ok (.aload_n 0, 1) := by decide +kernel
theorem dX9_come_148 : decode cX9_come 148 = .ok (.getfield 100, 3) := by decide +kernel
theorem dX9_come_151 : decode cX9_come 151 = .ok (.iload_n 1, 1) := by decide +kernel
theorem dX9_come_152 : decode cX9_come 152 = .ok (.iconst (-1), 1) := by decide +kernel
theorem dX9_come_153 : decode cX9_come 153 = .ok (.iastore, 1) := by decide +kernel
theorem dX9_come_154 : decode cX9_come 154 = .ok (.iinc 1 1, 3) := by decide +kernel
theorem dX9_come_157 : decode cX9_come 157 = .ok (.goto (-53), 3) := by decide +kernel
theorem dX9_come_160 : decode cX9_come 160 = .ok (.iconst 0, 1) := by decide +kernel
theorem dX9_come_161 : decode cX9_come 161 = .ok (.istore_n 1, 1) := by decide +kernel
theorem dX9_come_162 : decode cX9_come 162 = .ok (.iload_n 1, 1) := by decide +kernel
theorem dX9_come_163 : decode cX9_come 163 = .ok (.aload_n 0, 1) := by decide +kernel
theorem dX9_come_164 : decode cX9_come 164 = .ok (.getfield 119, 3) := by decide +kernel
theorem dX9_come_167 : decode cX9_come 167 = .ok (.if_icmp .ge 53, 3) := by decide +kernel
theorem dX9_come_170 : decode cX9_come 170 = .ok (.aload_n 0, 1) := by decide +kernel
theorem dX9_come_171 : decode cX9_come 171 = .ok (.getfield 35, 3) := by decide +kernel
theorem dX9_come_174 : decode cX9_come 174 = .ok (.iload_n 1, 1) := by decide +kernel
theorem dX9_come_175 : decode cX9_come 175 = .ok (.iaload, 1) := by decide +kernel
theorem dX9_come_176 : decode cX9_come 176 = .ok (.aload_n 0, 1) := by decide +kernel
theorem dX9_come_177 : decode cX9_come 177 = .ok (.getfield 122, 3) := by decide +kernel
theorem dX9_come_180 : decode cX9_come 180 = .ok (.if_icmp .eq 6, 3) := by decide +kernel
theorem dX9_come_183 : decode cX9_come 183 = .ok (.goto 31, 3) := by decide +kernel
theorem dX9_come_186 : decode cX9_come 186 = .ok (.aload_n 0, 1) := by decide +kernel
theorem dX9_come_187 : decode cX9_come 187 = .ok (.getfield 32, 3) := by decide +kernel
theorem dX9_come_190 : decode cX9_come 190 = .ok (.iload_n 1, 1) := by decide +kernel
theorem dX9_come_191 : decode cX9_come 191 = .ok (.aload_n 0, 1) := by decide +kernel
theorem dX9_come_192 : decode cX9_come 192 = .ok (.getfield 32, 3) := by decide +kernel
theorem dX9_come_195 : decode cX9_come 195 = .ok (.iload_n 1, 1) := by decide +kernel
theorem dX9_come_196 : decode cX9_come 196 = .ok (.iaload, 1) := by decide +kernel
theorem dX9_come_197 : decode cX9_come 197 = .ok (.iconst 1, 1) := by decide +kernel
theorem dX9_come_198 : decode cX9_come 198 = .ok (.if_icmp .ne 7, 3) := by decide +kernel
theorem dX9_come_201 : decode cX9_come 201 = .ok (.iconst 2, 1) := by decide +kernel
theorem dX9_come_202 : decode cX9_come 202 = .ok (.goto 4, 3) := by decide +kernel
theorem dX9_come_205 : decode cX9_come 205 = .ok (.iconst 0, 1) := by decide +kernel
theorem dX9_come_206 : decode cX9_come 206 = .ok (.iastore, 1) := by decide +kernel
theorem dX9_come_207 : decode cX9_come 207 = .ok (.aload_n 0, 1) := by decide +kernel
theorem dX9_come_208 : decode cX9_come 208 = .ok (.getfield 35, 3) := by decide +kernel
theorem dX9_come_211 : decode cX9_come 211 = .ok (.iload_n 1, 1) := by decide +kernel
theorem dX9_come_212 : decode cX9_come 212 = .ok (.iconst (-1), 1) := by decide +kernel
theorem dX9_come_213 : decode cX9_come 213 = .ok (.iastore, 1) := by decide +kernel
theorem dX9_come_214 : decode cX9_come 214 = .ok (.iinc 1 1, 3) := by decide +kernel
theorem dX9_come_217 : decode cX9_come 217 = .ok (.goto (-55), 3) := by decide +kernel
theorem dX9_come_220 : decode cX9_come 220 = .ok (.return_, 1) := by decide +kernel
set_option maxRecDepth 20000 in
theorem ggX9_pass_X9_isUnder : GoodIn wsX9_pass wsX9_isUnder := goodIn_r _ [12, 13, 14, 15, 16, 11, 17, 18, 33, 34, 35, 36, 37, 38, 39, 40, 41, 42, 43, 44, 45, 46, 47, 48, 49, 50, 51, 52, 53, 54, 55, 56, 57, 58, 59, 60, 61, 62, 63, 64, 65, 66, 67, 68, 69, 70, 71, 72, 73, 74, 75, 76, 77] (by decide +kernel) (by decide +kernel)
set_option maxRecDepth 20000 in
theorem gX9_pass_X9_isUnder : GoodIn wsX9_pass (wsV RX9 230 RX9 yX9_isUnder wsX9_isUnder) := goodIn_app (goodIn_of _ (by decide +kernel)) ggX9_pass_X9_isUnder
set_option maxRecDepth 20000 in
theorem ggX9_pass_X9_goThrough : GoodIn wsX9_pass wsX9_goThrough := goodIn_r _ [22, 3, 23, 5, 24, 2, 25, 26, 27, 28, 29, 30, 11, 31, 32, 33, 34, 35, 36, 37, 38, 39, 40, 41, 42, 43, 44, 45, 46, 47, 48, 49, 50, 51, 52, 53, 54, 55, 56, 57, 58, 59, 60, 61, 62, 63, 64, 65, 66, 67, 68, 69, 70, 71, 72, 73, 74, 75, 76, 77] (by decide +kernel) (by decide +kernel)
set_option maxRecDepth 20000 in
theorem gX9_pass_X9_goThrough : GoodIn wsX9_pass (wsV RX9 233 RX9 yX9_goThrough wsX9_goThrough) := goodIn_app (goodIn_of _ (by decide +kernel)) ggX9_pass_X9_goThrough
theorem dX9_pass_0 : decode cX9_pass 0 = .ok (.iconst 0, 1) := by decide +kernel
theorem dX9_pass_1 : decode cX9_pass 1 = .ok (.istore_n 2, 1) := by decide +kernel
theorem dX9_pass_2 : decode cX9_pass 2 = .ok (.iload_n 2, 1) := by decide +kernel
theorem dX9_pass_3 : decode cX9_pass 3 = .ok (.aload_n 0, 1) := by decide +kernel
theorem dX9_pass_4 : decode cX9_pass 4 = .ok (.getfield 208, 3) := by decide +kernel
theorem dX9_pass_7 : decode cX9_pass 7 = .ok (.if_icmp .ge 52, 3) := by decide +kernel
theorem dX9_pass_10 : decode cX9_pass 10 = .ok (.aload_n 0, 1) := by decide +kernel
theorem dX9_pass_11 : decode cX9_pass 11 = .ok (.getfield 70, 3) := by decide +kernel
theorem dX9_pass_14 : decode cX9_pass 14 = .ok (.iload_n 2, 1) := by decide +kernel
theorem dX9_pass_15 : decode cX9_pass 15 = .ok (.iaload, 1) := by decide +kernel
theorem dX9_pass_16 : decode cX9_pass 16 = .ok (.iconst 1, 1) := by decide +kernel
theorem dX9_pass_17 : decode cX9_pass 17 = .ok (.if_icmp .ne 36, 3) := by decide +kernel
theorem dX9_pass_20 : decode cX9_pass 20 = .ok (.aload_n 0, 1) := by decide +kernel
theorem dX9_pass_21 : decode cX9_pass 21 = .ok (.getfield 73, 3) := by decide +kernel
theorem dX9_pass_24 : decode cX9_pass 24 = .ok (.iload_n 2, 1) := by decide +kernel
theorem dX9_pass_25 : decode cX9_pass 25 = .ok (.iaload, 1) := by decide +kernel
theorem dX9_pass_26 : decode cX9_pass 26 = .ok (.iload_n 1, 1) := by decide +kernel
theorem dX9_pass_27 : decode cX9_pass 27 = .ok (.if_icmp .ne 26, 3) := by decide +kernel
theorem dX9_pass_30 : decode cX9_pass 30 = .ok (.aload_n 0, 1) := by decide +kernel
theorem dX9_pass_31 : decode cX9_pass 31 = .ok (.aload_n 0, 1) := by decide +kernel
theorem dX9_pass_32 : decode cX9_pass 32 = .ok (.getfield 67, 3) := by decide +kernel
theorem dX9_pass_35 : decode cX9_pass 35 = .ok (.iload_n 2, 1) := by decide +kernel
theorem dX9_pass_36 : decode cX9_pass 36 = .ok (.iaload, 1) := by decide +kernel
theorem dX9_pass_37 : decode cX9_pass 37 = .ok (.iload_n 1, 1) := by decide +kernel
theorem dX9_pass_38 : decode cX9_pass 38 = .ok (.aload_n 0, 1) := by decide +kernel
theorem dX9_pass_39 : decode cX9_pass 39 = .ok (.getfield 122, 3) := by decide +kernel
theorem dX9_pass_42 : decode cX9_pass 42 = .ok (.invokevirtual 230, 3) := by decide +kernel
theorem dX9_pass_45 : decode cX9_pass 45 = .ok (.ifCond .eq 8, 3) := by decide +kernel
theorem dX9_pass_48 : decode cX9_pass 48 = .ok (.aload_n 0, 1) := by decide +kernel
theorem dX9_pass_49 : decode cX9_pass 49 = .ok (.iload_n 2, 1) := by decide +kernel
theorem dX9_pass_50 : decode cX9_pass 50 = .ok (.invokevirtual 233, 3) := by decide +kernel
theorem dX9_pass_53 : decode cX9_pass 53 = .ok (.iinc 2 1, 3) := by decide +kernel
theorem dX9_pass_56 : decode cX9_pass 56 = .ok (.goto (-54), 3) := by decide +kernel
theorem dX9_pass_59 : decode cX9_pass 59 = .ok (.aload_n 0, 1) := by decide +kernel
theorem dX9_pass_60 : decode cX9_pass 60 = .ok (.getfield 32, 3) := by decide +kernel
theorem dX9_pass_63 : decode cX9_pass 63 = .ok (.iload_n 1, 1) := by decide +kernel
theorem dX9_pass_64 : decode cX9_pass 64 = .ok (.iaload, 1) := by decide +kernel
theorem dX9_pass_65 : decode cX9_pass 65 = .ok (.iconst 2, 1) := by decide +kernel
theorem dX9_pass_66 : decode cX9_pass 66 = .ok (.if_icmp .eq 4, 3) := by decide +kernel
theorem dX9_pass_69 : decode cX9_pass 69 = .ok (.return_, 1) := by decide +kernel
theorem dX9_pass_70 : decode cX9_pass 70 = .ok (.iconst (-1), 1) := by decide +kernel
theorem dX9_pass_71 : decode cX9_pass 71 = .ok (.istore_n 2, 1) := by decide +kernel
theorem dX9_pass_72 : decode cX9_pass 72 = .ok (.iconst 0, 1) := by decide +kernel
theorem dX9_pass_73 : decode cX9_pass 73 = .ok (.istore_n 3, 1) := by decide +kernel
theorem dX9_pass_74 : decode cX9_pass 74 = .ok (.iload_n 3, 1) := by decide +kernel
theorem dX9_pass_75 : decode cX9_pass 75 = .ok (.aload_n 0, 1) := by decide +kernel
theorem dX9_pass_76 : decode cX9_pass 76 = .ok (.getfield 208, 3) := by decide +kernel
theorem dX9_pass_79 : decode cX9_pass 79 = .ok (.if_icmp .ge 50, 3) := by decide +kernel
theorem dX9_pass_82 : decode cX9_pass 82 = .ok (.aload_n 0, 1) := by decide +kernel
theorem dX9_pass_83 : decode cX9_pass 83 = .ok (.getfield 70, 3) := by decide +kernel
theorem dX9_pass_86 : decode cX9_pass 86 = .ok (.iload_n 3, 1) := by decide +kernel
theorem dX9_pass_87 : decode cX9_pass 87 = .ok (.iaload, 1) := by decide +kernel
theorem dX9_pass_88 : decode cX9_pass 88 = .ok (.iconst 1, 1) := by decide +kernel
theorem dX9_pass_89 : decode cX9_pass 89 = .ok (.if_icmp .ne 34, 3) := by decide +kernel
theorem dX9_pass_92 : decode cX9_pass 92 = .ok (.aload_n 0, 1) := by decide +kernel
theorem dX9_pass_93 : decode cX9_pass 93 = .ok (.getfield 73, 3) := by decide +kernel
theorem dX9_pass_96 : decode cX9_pass 96 = .ok (.iload_n 3, 1) := by decide +kernel
theorem dX9_pass_97 : decode cX9_pass 97 = .ok (.iaload, 1) := by decide +kernel
theorem dX9_pass_98 : decode cX9_pass 98 = .ok (.iload_n 1, 1) := by decide +kernel
theorem dX9_pass_99 : decode cX9_pass 99 = .ok (.if_icmp .ne 24, 3) := by decide +kernel
theorem dX9_pass_102 : decode cX9_pass 102 = .ok (.iload_n 2, 1) := by decide +kernel
theorem dX9_pass_103 : decode cX9_pass 103 = .ok (.ifCond .lt 18, 3) := by decide +kernel
theorem dX9_pass_106 : decode cX9_pass 106 = .ok (.aload_n 0, 1) := by decide +kernel
theorem dX9_pass_107 : decode cX9_pass 107 = .ok (.getfield 79, 3) := by decide +kernel
theorem dX9_pass_110 : decode cX9_pass 110 = .ok (.iload_n 3, 1) := by decide +kernel
theorem dX9_pass_111 : decode cX9_pass 111 = .ok (.iaload, 1) := by decide +kernel
theorem dX9_pass_112 : decode cX9_pass 112 = .ok (.aload_n 0, 1) := by decide +kernel
theorem dX9_pass_113 : decode cX9_pass 113 = .ok (.getfield 79, 3) := by decide +kernel
theorem dX9_pass_116 : decode cX9_pass 116 = .ok (.iload_n 2, 1) := by decide +kernel
theorem dX9_pass_117 : decode cX9_pass 117 = .ok (.iaload, 1) := by decide +kernel
theorem dX9_pass_118 : decode cX9_pass 118 = .ok (.if_icmp .ge 5, 3) := by decide +kernel
theorem dX9_pass_121 : decode cX9_pass 121 = .ok (.iload_n 3, 1) := by decide +kernel
theorem dX9_pass_122 : decode cX9_pass 122 = .ok (.istore_n 2, 1) := by decide +kernel
theorem dX9_pass_123 : decode cX9_pass 123 = .ok (.iinc 3 1, 3) := by decide +kernel
theorem dX9_pass_126 : decode cX9_pass 126 = .ok (.goto (-52), 3) := by decide +kernel
theorem dX9_pass_129 : decode cX9_pass 129 = .ok (.iload_n 2, 1) := by decide +kernel
theorem dX9_pass_130 : decode cX9_pass 130 = .ok (.ifCond .lt 8, 3) := by decide +kernel
theorem dX9_pass_133 : decode cX9_pass 133 = .ok (.aload_n 0, 1) := by decide +kernel
theorem dX9_pass_134 : decode cX9_pass 134 = .ok (.iload_n 2, 1) := by decide +kernel
theorem dX9_pass_135 : decode cX9_pass 135 = .ok (.invokevirtual 233, 3) := by decide +kernel
theorem dX9_pass_138 : decode cX9_pass 138 = .ok (.return_, 1) := by decide +kernel
set_option maxRecDepth 20000 in
theorem ggX9_turn_X9_isWanted : GoodIn wsX9_turn wsX9_isWanted := goodIn_r _ [11, 12, 13, 14, 29, 30, 31, 32, 33, 34, 35, 36, 37, 38, 39, 40, 41, 42, 43, 44, 45, 46, 47, 48, 49, 50, 51, 52, 53, 54, 55, 56, 57, 58, 59, 60, 61, 62, 63, 64, 65, 66, 67, 68, 69, 70, 71, 72, 73] (by decide +kernel) (by decide +kernel)
set_option maxRecDepth 20000 in
theorem gX9_turn_X9_isWanted : GoodIn wsX9_turn (wsV RX9 236 RX9 yX9_isWanted wsX9_isWanted) := goodIn_app (goodIn_of _ (by decide +kernel)) ggX9_turn_X9_isWanted
set_option maxRecDepth 20000 in
theorem ggX9_turn_X9_isBarred : GoodIn wsX9_turn wsX9_isBarred := goodIn_r _ [18, 19, 20, 21, 29, 30, 31, 32, 33, 34, 35, 36, 37, 38, 39, 40, 41, 42, 43, 44, 45, 46, 47, 48, 49, 50, 51, 52, 53, 54, 55, 56, 57, 58, 59, 60, 61, 62, 63, 64, 65, 66, 67, 68, 69, 70, 71, 72, 73] (by decide +kernel) (by decide +kernel)
set_option maxRecDepth 20000 in
theorem gX9_turn_X9_isBarred : GoodIn wsX9_turn (wsV RX9 205 RX9 yX9_isBarred wsX9_isBarred) := goodIn_app (goodIn_of _ (by decide +kernel)) ggX9_turn_X9_isBarred
set_option maxRecDepth 20000 in
theorem ggX9_turn_X9_hasKeeper : GoodIn wsX9_turn wsX9_hasKeeper := goodIn_r _ [25, 26, 27, 28, 29, 30, 31, 32, 33, 34, 35, 36, 37, 38, 39, 40, 41, 42, 43, 44, 45, 46, 47, 48, 49, 50, 51, 52, 53, 54, 55, 56, 57, 58, 59, 60, 61, 62, 63, 64, 65, 66, 67, 68, 69, 70, 71, 72, 73] (by decide +kernel) (by decide +kernel)
set_option maxRecDepth 20000 in
theorem gX9_turn_X9_hasKeeper : GoodIn wsX9_turn (wsV RX9 239 RX9 yX9_hasKeeper wsX9_hasKeeper) := goodIn_app (goodIn_of _ (by decide +kernel)) ggX9_turn_X9_hasKeeper
theorem dX9_turn_0 : decode cX9_turn 0 = .ok (.aload_n 0, 1) := by decide +kernel
theorem dX9_turn_1 : decode cX9_turn 1 = .ok (.iload_n 1, 1) := by decide +kernel
theorem dX9_turn_2 : decode cX9_turn 2 = .ok (.invokevirtual 236, 3) := by decide +kernel
theorem dX9_turn_5 : decode cX9_turn 5 = .ok (.istore_n 2, 1) := by decide +kernel
theorem dX9_turn_6 : decode cX9_turn 6 = .ok (.aload_n 0, 1) := by decide +kernel
theorem dX9_turn_7 : decode cX9_turn 7 = .ok (.getfield 32, 3) := by decide +kernel
theorem dX9_turn_10 : decode cX9_turn 10 = .ok (.iload_n 1, 1) := by decide +kernel
