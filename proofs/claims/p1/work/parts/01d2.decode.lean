theorem dX9_tide_29 : decode cX9_tide 29 = .ok (.iload_n 1, 1) := by decide +kernel
theorem dX9_tide_30 : decode cX9_tide 30 = .ok (.bipush 25, 2) := by decide +kernel
theorem dX9_tide_32 : decode cX9_tide 32 = .ok (.if_icmp .ge 26, 3) := by decide +kernel
theorem dX9_tide_35 : decode cX9_tide 35 = .ok (.aload_n 0, 1) := by decide +kernel
theorem dX9_tide_36 : decode cX9_tide 36 = .ok (.getfield 7, 3) := by decide +kernel
theorem dX9_tide_39 : decode cX9_tide 39 = .ok (.iload_n 1, 1) := by decide +kernel
theorem dX9_tide_40 : decode cX9_tide 40 = .ok (.baload, 1) := by decide +kernel
theorem dX9_tide_41 : decode cX9_tide 41 = .ok (.iconst 0, 1) := by decide +kernel
theorem dX9_tide_42 : decode cX9_tide 42 = .ok (.bipush 100, 2) := by decide +kernel
theorem dX9_tide_44 : decode cX9_tide 44 = .ok (.invokestatic 125, 3) := by decide +kernel
theorem dX9_tide_47 : decode cX9_tide 47 = .ok (.ifCond .ne 5, 3) := by decide +kernel
theorem dX9_tide_50 : decode cX9_tide 50 = .ok (.iconst 0, 1) := by decide +kernel
theorem dX9_tide_51 : decode cX9_tide 51 = .ok (.ireturn, 1) := by decide +kernel
theorem dX9_tide_52 : decode cX9_tide 52 = .ok (.iinc 1 1, 3) := by decide +kernel
theorem dX9_tide_55 : decode cX9_tide 55 = .ok (.goto (-26), 3) := by decide +kernel
theorem dX9_tide_58 : decode cX9_tide 58 = .ok (.iconst 0, 1) := by decide +kernel
theorem dX9_tide_59 : decode cX9_tide 59 = .ok (.istore_n 1, 1) := by decide +kernel
theorem dX9_tide_60 : decode cX9_tide 60 = .ok (.iload_n 1, 1) := by decide +kernel
theorem dX9_tide_61 : decode cX9_tide 61 = .ok (.bipush 25, 2) := by decide +kernel
theorem dX9_tide_63 : decode cX9_tide 63 = .ok (.if_icmp .ge 21, 3) := by decide +kernel
theorem dX9_tide_66 : decode cX9_tide 66 = .ok (.aload_n 0, 1) := by decide +kernel
theorem dX9_tide_67 : decode cX9_tide 67 = .ok (.getfield 47, 3) := by decide +kernel
theorem dX9_tide_70 : decode cX9_tide 70 = .ok (.iload_n 1, 1) := by decide +kernel
theorem dX9_tide_71 : decode cX9_tide 71 = .ok (.aload_n 0, 1) := by decide +kernel
theorem dX9_tide_72 : decode cX9_tide 72 = .ok (.getfield 7, 3) := by decide +kernel
theorem dX9_tide_75 : decode cX9_tide 75 = .ok (.iload_n 1, 1) := by decide +kernel
theorem dX9_tide_76 : decode cX9_tide 76 = .ok (.baload, 1) := by decide +kernel
theorem dX9_tide_77 : decode cX9_tide 77 = .ok (.iastore, 1) := by decide +kernel
theorem dX9_tide_78 : decode cX9_tide 78 = .ok (.iinc 1 1, 3) := by decide +kernel
theorem dX9_tide_81 : decode cX9_tide 81 = .ok (.goto (-21), 3) := by decide +kernel
theorem dX9_tide_84 : decode cX9_tide 84 = .ok (.iconst 1, 1) := by decide +kernel
theorem dX9_tide_85 : decode cX9_tide 85 = .ok (.ireturn, 1) := by decide +kernel
theorem dX9_levelAt_0 : decode cX9_levelAt 0 = .ok (.iload_n 1, 1) := by decide +kernel
theorem dX9_levelAt_1 : decode cX9_levelAt 1 = .ok (.bipush 60, 2) := by decide +kernel
theorem dX9_levelAt_3 : decode cX9_levelAt 3 = .ok (.idiv, 1) := by decide +kernel
theorem dX9_levelAt_4 : decode cX9_levelAt 4 = .ok (.istore_n 2, 1) := by decide +kernel
theorem dX9_levelAt_5 : decode cX9_levelAt 5 = .ok (.iload_n 1, 1) := by decide +kernel
theorem dX9_levelAt_6 : decode cX9_levelAt 6 = .ok (.bipush 60, 2) := by decide +kernel
theorem dX9_levelAt_8 : decode cX9_levelAt 8 = .ok (.irem, 1) := by decide +kernel
theorem dX9_levelAt_9 : decode cX9_levelAt 9 = .ok (.ifCond .ne 12, 3) := by decide +kernel
theorem dX9_levelAt_12 : decode cX9_levelAt 12 = .ok (.aload_n 0, 1) := by decide +kernel
theorem dX9_levelAt_13 : decode cX9_levelAt 13 = .ok (.getfield 47, 3) := by decide +kernel
theorem dX9_levelAt_16 : decode cX9_levelAt 16 = .ok (.iload_n 2, 1) := by decide +kernel
theorem dX9_levelAt_17 : decode cX9_levelAt 17 = .ok (.iaload, 1) := by decide +kernel
theorem dX9_levelAt_18 : decode cX9_levelAt 18 = .ok (.goto 33, 3) := by decide +kernel
theorem dX9_levelAt_21 : decode cX9_levelAt 21 = .ok (.aload_n 0, 1) := by decide +kernel
theorem dX9_levelAt_22 : decode cX9_levelAt 22 = .ok (.getfield 47, 3) := by decide +kernel
theorem dX9_levelAt_25 : decode cX9_levelAt 25 = .ok (.iload_n 2, 1) := by decide +kernel
theorem dX9_levelAt_26 : decode cX9_levelAt 26 = .ok (.iaload, 1) := by decide +kernel
theorem dX9_levelAt_27 : decode cX9_levelAt 27 = .ok (.aload_n 0, 1) := by decide +kernel
theorem dX9_levelAt_28 : decode cX9_levelAt 28 = .ok (.getfield 47, 3) := by decide +kernel
theorem dX9_levelAt_31 : decode cX9_levelAt 31 = .ok (.iload_n 2, 1) := by decide +kernel
theorem dX9_levelAt_32 : decode cX9_levelAt 32 = .ok (.iconst 1, 1) := by decide +kernel
theorem dX9_levelAt_33 : decode cX9_levelAt 33 = .ok (.iadd, 1) := by decide +kernel
theorem dX9_levelAt_34 : decode cX9_levelAt 34 = .ok (.iaload, 1) := by decide +kernel
theorem dX9_levelAt_35 : decode cX9_levelAt 35 = .ok (.aload_n 0, 1) := by decide +kernel
theorem dX9_levelAt_36 : decode cX9_levelAt 36 = .ok (.getfield 47, 3) := by decide +kernel
theorem dX9_levelAt_39 : decode cX9_levelAt 39 = .ok (.iload_n 2, 1) := by decide +kernel
theorem dX9_levelAt_40 : decode cX9_levelAt 40 = .ok (.iaload, 1) := by decide +kernel
theorem dX9_levelAt_41 : decode cX9_levelAt 41 = .ok (.isub, 1) := by decide +kernel
theorem dX9_levelAt_42 : decode cX9_levelAt 42 = .ok (.iload_n 1, 1) := by decide +kernel
theorem dX9_levelAt_43 : decode cX9_levelAt 43 = .ok (.bipush 60, 2) := by decide +kernel
theorem dX9_levelAt_45 : decode cX9_levelAt 45 = .ok (.irem, 1) := by decide +kernel
theorem dX9_levelAt_46 : decode cX9_levelAt 46 = .ok (.imul, 1) := by decide +kernel
theorem dX9_levelAt_47 : decode cX9_levelAt 47 = .ok (.bipush 60, 2) := by decide +kernel
theorem dX9_levelAt_49 : decode cX9_levelAt 49 = .ok (.idiv, 1) := by decide +kernel
theorem dX9_levelAt_50 : decode cX9_levelAt 50 = .ok (.iadd, 1) := by decide +kernel
theorem dX9_levelAt_51 : decode cX9_levelAt 51 = .ok (.ireturn, 1) := by decide +kernel
set_option maxRecDepth 20000 in
theorem ggX9_level_X9_isIn : GoodIn wsX9_level wsX9_isIn := goodIn_r _ [5] (by decide +kernel) (by decide +kernel)
set_option maxRecDepth 20000 in
theorem gX9_level_X9_isIn : GoodIn wsX9_level (va_wsS RX9 125 yX9_isIn wsX9_isIn) := goodIn_app (goodIn_of _ (by decide +kernel)) ggX9_level_X9_isIn
set_option maxRecDepth 20000 in
theorem ggX9_level_X9_levelAt : GoodIn wsX9_level wsX9_levelAt := goodIn_r _ [9, 10, 11, 12, 13, 14, 15, 16, 17, 18, 19, 20, 21, 22, 23, 24, 25, 26, 27, 28, 29, 30, 31, 32, 33, 34, 35, 36, 37, 38, 39, 40, 41, 42, 43, 44, 45, 46, 47, 48, 49, 50, 51, 52, 53, 54, 55] (by decide +kernel) (by decide +kernel)
set_option maxRecDepth 20000 in
theorem gX9_level_X9_levelAt : GoodIn wsX9_level (wsV RX9 132 RX9 yX9_levelAt wsX9_levelAt) := goodIn_app (goodIn_of _ (by decide +kernel)) ggX9_level_X9_levelAt
theorem dX9_level_0 : decode cX9_level 0 = .ok (.aload_n 0, 1) := by decide +kernel
theorem dX9_level_1 : decode cX9_level 1 = .ok (.iconst 0, 1) := by decide +kernel
theorem dX9_level_2 : decode cX9_level 2 = .ok (.putfield 103, 3) := by decide +kernel
theorem dX9_level_5 : decode cX9_level 5 = .ok (.iload_n 1, 1) := by decide +kernel
theorem dX9_level_6 : decode cX9_level 6 = .ok (.iconst 0, 1) := by decide +kernel
theorem dX9_level_7 : decode cX9_level 7 = .ok (.sipush 1440, 3) := by decide +kernel
theorem dX9_level_10 : decode cX9_level 10 = .ok (.invokestatic 125, 3) := by decide +kernel
theorem dX9_level_13 : decode cX9_level 13 = .ok (.ifCond .eq 11, 3) := by decide +kernel
theorem dX9_level_16 : decode cX9_level 16 = .ok (.aload_n 0, 1) := by decide +kernel
theorem dX9_level_17 : decode cX9_level 17 = .ok (.iload_n 1, 1) := by decide +kernel
theorem dX9_level_18 : decode cX9_level 18 = .ok (.invokevirtual 132, 3) := by decide +kernel
theorem dX9_level_21 : decode cX9_level 21 = .ok (.goto 4, 3) := by decide +kernel
theorem dX9_level_24 : decode cX9_level 24 = .ok (.iconst (-1), 1) := by decide +kernel
theorem dX9_level_25 : decode cX9_level 25 = .ok (.ireturn, 1) := by decide +kernel
set_option maxRecDepth 20000 in
theorem ggX9_legs_X9_isIn : GoodIn wsX9_legs wsX9_isIn := goodIn_r _ [7] (by decide +kernel) (by decide +kernel)
set_option maxRecDepth 20000 in
theorem gX9_legs_X9_isIn : GoodIn wsX9_legs (va_wsS RX9 125 yX9_isIn wsX9_isIn) := goodIn_app (goodIn_of _ (by decide +kernel)) ggX9_legs_X9_isIn
theorem dX9_legs_0 : decode cX9_legs 0 = .ok (.aload_n 0, 1) := by decide +kernel
theorem dX9_legs_1 : decode cX9_legs 1 = .ok (.iconst 0, 1) := by decide +kernel
theorem dX9_legs_2 : decode cX9_legs 2 = .ok (.putfield 103, 3) := by decide +kernel
theorem dX9_legs_5 : decode cX9_legs 5 = .ok (.aload_n 0, 1) := by decide +kernel
theorem dX9_legs_6 : decode cX9_legs 6 = .ok (.getfield 122, 3) := by decide +kernel
theorem dX9_legs_9 : decode cX9_legs 9 = .ok (.ifCond .ne 13, 3) := by decide +kernel
theorem dX9_legs_12 : decode cX9_legs 12 = .ok (.iload_n 1, 1) := by decide +kernel
theorem dX9_legs_13 : decode cX9_legs 13 = .ok (.iconst 1, 1) := by decide +kernel
theorem dX9_legs_14 : decode cX9_legs 14 = .ok (.bipush 30, 2) := by decide +kernel
theorem dX9_legs_16 : decode cX9_legs 16 = .ok (.invokestatic 125, 3) := by decide +kernel
theorem dX9_legs_19 : decode cX9_legs 19 = .ok (.ifCond .ne 5, 3) := by decide +kernel
theorem dX9_legs_22 : decode cX9_legs 22 = .ok (.iconst 0, 1) := by decide +kernel
theorem dX9_legs_23 : decode cX9_legs 23 = .ok (.ireturn, 1) := by decide +kernel
theorem dX9_legs_24 : decode cX9_legs 24 = .ok (.aload_n 0, 1) := by decide +kernel
theorem dX9_legs_25 : decode cX9_legs 25 = .ok (.iload_n 1, 1) := by decide +kernel
theorem dX9_legs_26 : decode cX9_legs 26 = .ok (.putfield 50, 3) := by decide +kernel
theorem dX9_legs_29 : decode cX9_legs 29 = .ok (.iconst 1, 1) := by decide +kernel
theorem dX9_legs_30 : decode cX9_legs 30 = .ok (.ireturn, 1) := by decide +kernel
theorem dX9_peek_0 : decode cX9_peek 0 = .ok (.aload_n 0, 1) := by decide +kernel
theorem dX9_peek_1 : decode cX9_peek 1 = .ok (.getfield 116, 3) := by decide +kernel
theorem dX9_peek_4 : decode cX9_peek 4 = .ok (.aload_n 0, 1) := by decide +kernel
theorem dX9_peek_5 : decode cX9_peek 5 = .ok (.getfield 113, 3) := by decide +kernel
theorem dX9_peek_8 : decode cX9_peek 8 = .ok (.if_icmp .ge 19, 3) := by decide +kernel
theorem dX9_peek_11 : decode cX9_peek 11 = .ok (.aload_n 0, 1) := by decide +kernel
theorem dX9_peek_12 : decode cX9_peek 12 = .ok (.getfield 7, 3) := by decide +kernel
theorem dX9_peek_15 : decode cX9_peek 15 = .ok (.aload_n 0, 1) := by decide +kernel
theorem dX9_peek_16 : decode cX9_peek 16 = .ok (.getfield 116, 3) := by decide +kernel
theorem dX9_peek_19 : decode cX9_peek 19 = .ok (.baload, 1) := by decide +kernel
theorem dX9_peek_20 : decode cX9_peek 20 = .ok (.sipush 255, 3) := by decide +kernel
theorem dX9_peek_23 : decode cX9_peek 23 = .ok (.iand, 1) := by decide +kernel
theorem dX9_peek_24 : decode cX9_peek 24 = .ok (.goto 4, 3) := by decide +kernel
theorem dX9_peek_27 : decode cX9_peek 27 = .ok (.iconst (-1), 1) := by decide +kernel
theorem dX9_peek_28 : decode cX9_peek 28 = .ok (.ireturn, 1) := by decide +kernel
set_option maxRecDepth 20000 in
theorem ggX9_next_X9_peek : GoodIn wsX9_next wsX9_peek := goodIn_r _ [11, 1, 3, 12, 19, 20, 21, 22, 23, 24, 25, 26, 27, 28, 29, 30, 31, 32, 33, 34, 35, 36, 37, 38, 39, 40, 41, 42, 43, 44, 45, 46, 47, 48, 49, 50, 51, 52, 53, 54, 55, 56, 57, 58, 59, 60, 61, 62, 63] (by decide +kernel) (by decide +kernel)
set_option maxRecDepth 20000 in
theorem gX9_next_X9_peek : GoodIn wsX9_next (wsV RX9 136 RX9 yX9_peek wsX9_peek) := goodIn_app (goodIn_of _ (by decide +kernel)) ggX9_next_X9_peek
set_option maxRecDepth 20000 in
theorem ggX9_next_X9_isSmall : GoodIn wsX9_next wsX9_isSmall := goodIn_r _ [15] (by decide +kernel) (by decide +kernel)
set_option maxRecDepth 20000 in
theorem gX9_next_X9_isSmall : GoodIn wsX9_next (va_wsS RX9 146 yX9_isSmall wsX9_isSmall) := goodIn_app (goodIn_of _ (by decide +kernel)) ggX9_next_X9_isSmall
set_option maxRecDepth 20000 in
theorem ggX9_next_X9_isDigit : GoodIn wsX9_next wsX9_isDigit := goodIn_r _ [18] (by decide +kernel) (by decide +kernel)
set_option maxRecDepth 20000 in
theorem gX9_next_X9_isDigit : GoodIn wsX9_next (va_wsS RX9 150 yX9_isDigit wsX9_isDigit) := goodIn_app (goodIn_of _ (by decide +kernel)) ggX9_next_X9_isDigit
theorem dX9_next_0 : decode cX9_next 0 = .ok (.aload_n 0, 1) := by decide +kernel
theorem dX9_next_1 : decode cX9_next 1 = .ok (.invokevirtual 136, 3) := by decide +kernel
theorem dX9_next_4 : decode cX9_next 4 = .ok (.bipush 32, 2) := by decide +kernel
theorem dX9_next_6 : decode cX9_next 6 = .ok (.if_icmp .eq 12, 3) := by decide +kernel
theorem dX9_next_9 : decode cX9_next 9 = .ok (.aload_n 0, 1) := by decide +kernel
theorem dX9_next_10 : decode cX9_next 10 = .ok (.invokevirtual 136, 3) := by decide +kernel
theorem dX9_next_13 : decode cX9_next 13 = .ok (.bipush 10, 2) := by decide +kernel
theorem dX9_next_15 : decode cX9_next 15 = .ok (.if_icmp .ne 16, 3) := by decide +kernel
theorem dX9_next_18 : decode cX9_next 18 = .ok (.aload_n 0, 1) := by decide +kernel
theorem dX9_next_19 : decode cX9_next 19 = .ok (.dup, 1) := by decide +kernel
theorem dX9_next_20 : decode cX9_next 20 = .ok (.getfield 116, 3) := by decide +kernel
theorem dX9_next_23 : decode cX9_next 23 = .ok (.iconst 1, 1) := by decide +kernel
theorem dX9_next_24 : decode cX9_next 24 = .ok (.iadd, 1) := by decide +kernel
theorem dX9_next_25 : decode cX9_next 25 = .ok (.putfield 116, 3) := by decide +kernel
theorem dX9_next_28 : decode cX9_next 28 = .ok (.goto (-28), 3) := by decide +kernel
theorem dX9_next_31 : decode cX9_next 31 = .ok (.aload_n 0, 1) := by decide +kernel
theorem dX9_next_32 : decode cX9_next 32 = .ok (.aload_n 0, 1) := by decide +kernel
theorem dX9_next_33 : decode cX9_next 33 = .ok (.getfield 116, 3) := by decide +kernel
theorem dX9_next_36 : decode cX9_next 36 = .ok (.putfield 140, 3) := by decide +kernel
theorem dX9_next_39 : decode cX9_next 39 = .ok (.aload_n 0, 1) := by decide +kernel
theorem dX9_next_40 : decode cX9_next 40 = .ok (.getfield 113, 3) := by decide +kernel
theorem dX9_next_43 : decode cX9_next 43 = .ok (.sipush 400, 3) := by decide +kernel
theorem dX9_next_46 : decode cX9_next 46 = .ok (.if_icmp .le 26, 3) := by decide +kernel
theorem dX9_next_49 : decode cX9_next 49 = .ok (.aload_n 0, 1) := by decide +kernel
theorem dX9_next_50 : decode cX9_next 50 = .ok (.getfield 116, 3) := by decide +kernel
theorem dX9_next_53 : decode cX9_next 53 = .ok (.sipush 400, 3) := by decide +kernel
theorem dX9_next_56 : decode cX9_next 56 = .ok (.if_icmp .lt 16, 3) := by decide +kernel
theorem dX9_next_59 : decode cX9_next 59 = .ok (.aload_n 0, 1) := by decide +kernel
theorem dX9_next_60 : decode cX9_next 60 = .ok (.sipush 400, 3) := by decide +kernel
theorem dX9_next_63 : decode cX9_next 63 = .ok (.putfield 140, 3) := by decide +kernel
theorem dX9_next_66 : decode cX9_next 66 = .ok (.aload_n 0, 1) := by decide +kernel
theorem dX9_next_67 : decode cX9_next 67 = .ok (.iconst 0, 1) := by decide +kernel
theorem dX9_next_68 : decode cX9_next 68 = .ok (.putfield 143, 3) := by decide +kernel
theorem dX9_next_71 : decode cX9_next 71 = .ok (.return_, 1) := by decide +kernel
theorem dX9_next_72 : decode cX9_next 72 = .ok (.aload_n 0, 1) := by decide +kernel
theorem dX9_next_73 : decode cX9_next 73 = .ok (.invokevirtual 136, 3) := by decide +kernel
theorem dX9_next_76 : decode cX9_next 76 = .ok (.istore_n 1, 1) := by decide +kernel
theorem dX9_next_77 : decode cX9_next 77 = .ok (.iload_n 1, 1) := by decide +kernel
theorem dX9_next_78 : decode cX9_next 78 = .ok (.ifCond .ge 9, 3) := by decide +kernel
theorem dX9_next_81 : decode cX9_next 81 = .ok (.aload_n 0, 1) := by decide +kernel
theorem dX9_next_82 : decode cX9_next 82 = .ok (.iconst 0, 1) := by decide +kernel
theorem dX9_next_83 : decode cX9_next 83 = .ok (.putfield 143, 3) := by decide +kernel
theorem dX9_next_86 : decode cX9_next 86 = .ok (.return_, 1) := by decide +kernel
theorem dX9_next_87 : decode cX9_next 87 = .ok (.iload_n 1, 1) := by decide +kernel
theorem dX9_next_88 : decode cX9_next 88 = .ok (.invokestatic 146, 3) := by decide +kernel
theorem dX9_next_91 : decode cX9_next 91 = .ok (.ifCond .ne 36, 3) := by decide +kernel
theorem dX9_next_94 : decode cX9_next 94 = .ok (.iload_n 1, 1) := by decide +kernel
theorem dX9_next_95 : decode cX9_next 95 = .ok (.invokestatic 150, 3) := by decide +kernel
theorem dX9_next_98 : decode cX9_next 98 = .ok (.ifCond .ne 29, 3) := by decide +kernel
theorem dX9_next_101 : decode cX9_next 101 = .ok (.aload_n 0, 1) := by decide +kernel
theorem dX9_next_102 : decode cX9_next 102 = .ok (.iload_n 1, 1) := by decide +kernel
theorem dX9_next_103 : decode cX9_next 103 = .ok (.bipush 59, 2) := by decide +kernel
theorem dX9_next_105 : decode cX9_next 105 = .ok (.if_icmp .ne 7, 3) := by decide +kernel
theorem dX9_next_108 : decode cX9_next 108 = .ok (.iconst 3, 1) := by decide +kernel
theorem dX9_next_109 : decode cX9_next 109 = .ok (.goto 4, 3) := by decide +kernel
theorem dX9_next_112 : decode cX9_next 112 = .ok (.iconst 4, 1) := by decide +kernel
theorem dX9_next_113 : decode cX9_next 113 = .ok (.putfield 143, 3) := by decide +kernel
theorem dX9_next_116 : decode cX9_next 116 = .ok (.aload_n 0, 1) := by decide +kernel
theorem dX9_next_117 : decode cX9_next 117 = .ok (.dup, 1) := by decide +kernel
theorem dX9_next_118 : decode cX9_next 118 = .ok (.getfield 116, 3) := by decide +kernel
theorem dX9_next_121 : decode cX9_next 121 = .ok (.iconst 1, 1) := by decide +kernel
theorem dX9_next_122 : decode cX9_next 122 = .ok (.iadd, 1) := by decide +kernel
theorem dX9_next_123 : decode cX9_next 123 = .ok (.putfield 116, 3) := by decide +kernel
theorem dX9_next_126 : decode cX9_next 126 = .ok (.return_, 1) := by decide +kernel
theorem dX9_next_127 : decode cX9_next 127 = .ok (.iload_n 1, 1) := by decide +kernel
theorem dX9_next_128 : decode cX9_next 128 = .ok (.invokestatic 146, 3) := by decide +kernel
theorem dX9_next_131 : decode cX9_next 131 = .ok (.istore_n 2, 1) := by decide +kernel
theorem dX9_next_132 : decode cX9_next 132 = .ok (.iconst 1, 1) := by decide +kernel
theorem dX9_next_133 : decode cX9_next 133 = .ok (.istore_n 3, 1) := by decide +kernel
theorem dX9_next_134 : decode cX9_next 134 = .ok (.iconst 0, 1) := by decide +kernel
theorem dX9_next_135 : decode cX9_next 135 = .ok (.istore 4, 2) := by decide +kernel
theorem dX9_next_137 : decode cX9_next 137 = .ok (.aload_n 0, 1) := by decide +kernel
theorem dX9_next_138 : decode cX9_next 138 = .ok (.lconst 0, 1) := by decide +kernel
theorem dX9_next_139 : decode cX9_next 139 = .ok (.putfield 153, 3) := by decide +kernel
theorem dX9_next_142 : decode cX9_next 142 = .ok (.aload_n 0, 1) := by decide +kernel
theorem dX9_next_143 : decode cX9_next 143 = .ok (.iconst 0, 1) := by decide +kernel
theorem dX9_next_144 : decode cX9_next 144 = .ok (.putfield 157, 3) := by decide +kernel
theorem dX9_next_147 : decode cX9_next 147 = .ok (.aload_n 0, 1) := by decide +kernel
theorem dX9_next_148 : decode cX9_next 148 = .ok (.invokevirtual 136, 3) := by decide +kernel
theorem dX9_next_151 : decode cX9_next 151 = .ok (.invokestatic 146, 3) := by decide +kernel
theorem dX9_next_154 : decode cX9_next 154 = .ok (.ifCond .ne 13, 3) := by decide +kernel
theorem dX9_next_157 : decode cX9_next 157 = .ok (.aload_n 0, 1) := by decide +kernel
theorem dX9_next_158 : decode cX9_next 158 = .ok (.invokevirtual 136, 3) := by decide +kernel
theorem dX9_next_161 : decode cX9_next 161 = .ok (.invokestatic 150, 3) := by decide +kernel
theorem dX9_next_164 : decode cX9_next 164 = .ok (.ifCond .eq 89, 3) := by decide +kernel
theorem dX9_next_167 : decode cX9_next 167 = .ok (.iload_n 3, 1) := by decide +kernel
theorem dX9_next_168 : decode cX9_next 168 = .ok (.ifCond .eq 18, 3) := by decide +kernel
theorem dX9_next_171 : decode cX9_next 171 = .ok (.aload_n 0, 1) := by decide +kernel
theorem dX9_next_172 : decode cX9_next 172 = .ok (.invokevirtual 136, 3) := by decide +kernel
theorem dX9_next_175 : decode cX9_next 175 = .ok (.invokestatic 146, 3) := by decide +kernel
theorem dX9_next_178 : decode cX9_next 178 = .ok (.iload_n 2, 1) := by decide +kernel
theorem dX9_next_179 : decode cX9_next 179 = .ok (.if_icmp .ne 7, 3) := by decide +kernel
theorem dX9_next_182 : decode cX9_next 182 = .ok (.iconst 1, 1) := by decide +kernel
theorem dX9_next_183 : decode cX9_next 183 = .ok (.goto 4, 3) := by decide +kernel
theorem dX9_next_186 : decode cX9_next 186 = .ok (.iconst 0, 1) := by decide +kernel
theorem dX9_next_187 : decode cX9_next 187 = .ok (.istore_n 3, 1) := by decide +kernel
theorem dX9_next_188 : decode cX9_next 188 = .ok (.iload 4, 2) := by decide +kernel
theorem dX9_next_190 : decode cX9_next 190 = .ok (.bipush 7, 2) := by decide +kernel
theorem dX9_next_192 : decode cX9_next 192 = .ok (.if_icmp .ge 20, 3) := by decide +kernel
theorem dX9_next_195 : decode cX9_next 195 = .ok (.aload_n 0, 1) := by decide +kernel
theorem dX9_next_196 : decode cX9_next 196 = .ok (.aload_n 0, 1) := by decide +kernel
theorem dX9_next_197 : decode cX9_next 197 = .ok (.getfield 153, 3) := by decide +kernel
theorem dX9_next_200 : decode cX9_next 200 = .ok (.bipush 8, 2) := by decide +kernel
theorem dX9_next_202 : decode cX9_next 202 = .ok (.lshl, 1) := by decide +kernel
theorem dX9_next_203 : decode cX9_next 203 = .ok (.aload_n 0, 1) := by decide +kernel
theorem dX9_next_204 : decode cX9_next 204 = .ok (.invokevirtual 136, 3) := by decide +kernel
theorem dX9_next_207 : decode cX9_next 207 = .ok (.i2l, 1) := by decide +kernel
theorem dX9_next_208 : decode cX9_next 208 = .ok (.lor, 1) := by decide +kernel
theorem dX9_next_209 : decode cX9_next 209 = .ok (.putfield 153, 3) := by decide +kernel
theorem dX9_next_212 : decode cX9_next 212 = .ok (.iload 4, 2) := by decide +kernel
theorem dX9_next_214 : decode cX9_next 214 = .ok (.iconst 4, 1) := by decide +kernel
theorem dX9_next_215 : decode cX9_next 215 = .ok (.if_icmp .ge 22, 3) := by decide +kernel
theorem dX9_next_218 : decode cX9_next 218 = .ok (.aload_n 0, 1) := by decide +kernel
theorem dX9_next_219 : decode cX9_next 219 = .ok (.bipush 10, 2) := by decide +kernel
theorem dX9_next_221 : decode cX9_next 221 = .ok (.aload_n 0, 1) := by decide +kernel
theorem dX9_next_222 : decode cX9_next 222 = .ok (.getfield 157, 3) := by decide +kernel
theorem dX9_next_225 : decode cX9_next 225 = .ok (.imul, 1) := by decide +kernel
theorem dX9_next_226 : decode cX9_next 226 = .ok (.aload_n 0, 1) := by decide +kernel
theorem dX9_next_227 : decode cX9_next 227 = .ok (.invokevirtual 136, 3) := by decide +kernel
theorem dX9_next_230 : decode cX9_next 230 = .ok (.iadd, 1) := by decide +kernel
theorem dX9_next_231 : decode cX9_next 231 = .ok (.bipush 48, 2) := by decide +kernel
theorem dX9_next_233 : decode cX9_next 233 = .ok (.isub, 1) := by decide +kernel
theorem dX9_next_234 : decode cX9_next 234 = .ok (.putfield 157, 3) := by decide +kernel
theorem dX9_next_237 : decode cX9_next 237 = .ok (.iinc 4 1, 3) := by decide +kernel
theorem dX9_next_240 : decode cX9_next 240 = .ok (.aload_n 0, 1) := by decide +kernel
theorem dX9_next_241 : decode cX9_next 241 = .ok (.dup, 1) := by decide +kernel
theorem dX9_next_242 : decode cX9_next 242 = .ok (.getfield 116, 3) := by decide +kernel
theorem dX9_next_245 : decode cX9_next 245 = .ok (.iconst 1, 1) := by decide +kernel
theorem dX9_next_246 : decode cX9_next 246 = .ok (.iadd, 1) := by decide +kernel
theorem dX9_next_247 : decode cX9_next 247 = .ok (.putfield 116, 3) := by decide +kernel
theorem dX9_next_250 : decode cX9_next 250 = .ok (.goto (-103), 3) := by decide +kernel
theorem dX9_next_253 : decode cX9_next 253 = .ok (.iload 4, 2) := by decide +kernel
theorem dX9_next_255 : decode cX9_next 255 = .ok (.bipush 7, 2) := by decide +kernel
theorem dX9_next_257 : decode cX9_next 257 = .ok (.if_icmp .le 8, 3) := by decide +kernel
theorem dX9_next_260 : decode cX9_next 260 = .ok (.aload_n 0, 1) := by decide +kernel
theorem dX9_next_261 : decode cX9_next 261 = .ok (.lconst 0, 1) := by decide +kernel
theorem dX9_next_262 : decode cX9_next 262 = .ok (.putfield 153, 3) := by decide +kernel
theorem dX9_next_265 : decode cX9_next 265 = .ok (.aload_n 0, 1) := by decide +kernel
theorem dX9_next_266 : decode cX9_next 266 = .ok (.iload_n 3, 1) := by decide +kernel
theorem dX9_next_267 : decode cX9_next 267 = .ok (.ifCond .eq 13, 3) := by decide +kernel
theorem dX9_next_270 : decode cX9_next 270 = .ok (.iload_n 2, 1) := by decide +kernel
theorem dX9_next_271 : decode cX9_next 271 = .ok (.ifCond .ne 13, 3) := by decide +kernel
theorem dX9_next_274 : decode cX9_next 274 = .ok (.iload 4, 2) := by decide +kernel
theorem dX9_next_276 : decode cX9_next 276 = .ok (.iconst 4, 1) := by decide +kernel
theorem dX9_next_277 : decode cX9_next 277 = .ok (.if_icmp .le 7, 3) := by decide +kernel
theorem dX9_next_280 : decode cX9_next 280 = .ok (.iconst 4, 1) := by decide +kernel
theorem dX9_next_281 : decode cX9_next 281 = .ok (.goto 12, 3) := by decide +kernel
theorem dX9_next_284 : decode cX9_next 284 = .ok (.iload_n 2, 1) := by decide +kernel
theorem dX9_next_285 : decode cX9_next 285 = .ok (.ifCond .eq 7, 3) := by decide +kernel
theorem dX9_next_288 : decode cX9_next 288 = .ok (.iconst 1, 1) := by decide +kernel
theorem dX9_next_289 : decode cX9_next 289 = .ok (.goto 4, 3) := by decide +kernel
theorem dX9_next_292 : decode cX9_next 292 = .ok (.iconst 2, 1) := by decide +kernel
theorem dX9_next_293 : decode cX9_next 293 = .ok (.putfield 143, 3) := by decide +kernel
theorem dX9_next_296 : decode cX9_next 296 = .ok (.return_, 1) := by decide +kernel
theorem dX9_isEnd_0 : decode cX9_isEnd 0 = .ok (.aload_n 0, 1) := by decide +kernel
theorem dX9_isEnd_1 : decode cX9_isEnd 1 = .ok (.getfield 143, 3) := by decide +kernel
theorem dX9_isEnd_4 : decode cX9_isEnd 4 = .ok (.ifCond .ne 27, 3) := by decide +kernel
theorem dX9_isEnd_7 : decode cX9_isEnd 7 = .ok (.aload_n 0, 1) := by decide +kernel
theorem dX9_isEnd_8 : decode cX9_isEnd 8 = .ok (.getfield 113, 3) := by decide +kernel
theorem dX9_isEnd_11 : decode cX9_isEnd 11 = .ok (.sipush 400, 3) := by decide +kernel
theorem dX9_isEnd_14 : decode cX9_isEnd 14 = .ok (.if_icmp .le 13, 3) := by decide +kernel
theorem dX9_isEnd_17 : decode cX9_isEnd 17 = .ok (.aload_n 0, 1) := by decide +kernel
theorem dX9_isEnd_18 : decode cX9_isEnd 18 = .ok (.getfield 140, 3) := by decide +kernel
theorem dX9_isEnd_21 : decode cX9_isEnd 21 = .ok (.sipush 400, 3) := by decide +kernel
theorem dX9_isEnd_24 : decode cX9_isEnd 24 = .ok (.if_icmp .eq 7, 3) := by decide +kernel
theorem dX9_isEnd_27 : decode cX9_isEnd 27 = .ok (.iconst 1, 1) := by decide +kernel
theorem dX9_isEnd_28 : decode cX9_isEnd 28 = .ok (.goto 4, 3) := by decide +kernel
theorem dX9_isEnd_31 : decode cX9_isEnd 31 = .ok (.iconst 0, 1) := by decide +kernel
theorem dX9_isEnd_32 : decode cX9_isEnd 32 = .ok (.ireturn, 1) := by decide +kernel
set_option maxRecDepth 20000 in
theorem ggX9_timetable_X9_taken : GoodIn wsX9_timetable wsX9_taken := goodIn_r _ [13, 14, 15, 16, 65, 66, 67, 68, 69, 70, 71, 72, 73, 74, 75, 76, 77, 78, 79, 80, 81, 82, 83, 84, 85, 86, 87, 88, 89, 90, 91, 92, 93, 94, 95, 96, 97, 98, 99, 100, 101, 102, 103, 104, 105, 106, 107, 108, 109] (by decide +kernel) (by decide +kernel)
set_option maxRecDepth 20000 in
theorem gX9_timetable_X9_taken : GoodIn wsX9_timetable (wsV RX9 129 RX9 yX9_taken wsX9_taken) := goodIn_app (goodIn_of _ (by decide +kernel)) ggX9_timetable_X9_taken
set_option maxRecDepth 20000 in
theorem ggX9_timetable_X9_next : GoodIn wsX9_timetable wsX9_next := goodIn_r _ [20, 16, 21, 15, 22, 23, 24, 25, 26, 27, 12, 28, 29, 30, 31, 32, 33, 34, 35, 65, 66, 67, 68, 69, 70, 71, 72, 73, 74, 75, 76, 77, 78, 79, 80, 81, 82, 83, 84, 85, 86, 87, 88, 89, 90, 91, 92, 93, 94, 95, 96, 97, 98, 99, 100, 101, 102, 103, 104, 105, 106, 107, 108, 109] (by decide +kernel) (by decide +kernel)
set_option maxRecDepth 20000 in
theorem gX9_timetable_X9_next : GoodIn wsX9_timetable (wsV RX9 170 RX9 yX9_next wsX9_next) := goodIn_app (goodIn_of _ (by decide +kernel)) ggX9_timetable_X9_next
set_option maxRecDepth 20000 in
theorem ggX9_timetable_X9_isEnd : GoodIn wsX9_timetable wsX9_isEnd := goodIn_r _ [39, 22, 15, 21, 65, 66, 67, 68, 69, 70, 71, 72, 73, 74, 75, 76, 77, 78, 79, 80, 81, 82, 83, 84, 85, 86, 87, 88, 89, 90, 91, 92, 93, 94, 95, 96, 97, 98, 99, 100, 101, 102, 103, 104, 105, 106, 107, 108, 109] (by decide +kernel) (by decide +kernel)
set_option maxRecDepth 20000 in
theorem gX9_timetable_X9_isEnd : GoodIn wsX9_timetable (wsV RX9 173 RX9 yX9_isEnd wsX9_isEnd) := goodIn_app (goodIn_of _ (by decide +kernel)) ggX9_timetable_X9_isEnd
set_option maxRecDepth 20000 in
theorem ggX9_timetable_X9_entry : GoodIn wsX9_timetable wsX9_entry := goodIn_r _ [43, 44, 22, 24, 21, 4, 45, 46, 47, 5, 48, 49, 50, 12, 51, 23, 52, 53, 54, 55, 56, 57, 58, 59, 3, 6, 17, 18, 19, 20, 16, 15, 25, 26, 27, 28, 29, 30, 31, 32, 33, 34, 35, 60, 61, 62, 63, 64, 7, 8, 65, 66, 67, 68, 69, 70, 71, 72, 73, 74, 75, 76, 77, 78, 79, 80, 81, 82, 83, 84, 85, 86, 87, 88, 89, 90, 91, 92, 93, 94, 95, 96, 97, 98, 99, 100, 101, 102, 103, 104, 105, 106, 107, 108, 109] (by decide +kernel) (by decide +kernel)
set_option maxRecDepth 20000 in
theorem gX9_timetable_X9_entry : GoodIn wsX9_timetable (wsV RX9 177 RX9 yX9_entry wsX9_entry) := goodIn_app (goodIn_of _ (by decide +kernel)) ggX9_timetable_X9_entry
theorem dX9_timetable_0 : decode cX9_timetable 0 = .ok (.aload_n 0, 1) := by decide +kernel
theorem dX9_timetable_1 : decode cX9_timetable 1 = .ok (.iconst 0, 1) := by decide +kernel
theorem dX9_timetable_2 : decode cX9_timetable 2 = .ok (.putfield 103, 3) := by decide +kernel
theorem dX9_timetable_5 : decode cX9_timetable 5 = .ok (.aload_n 0, 1) := by decide +kernel
theorem dX9_timetable_6 : decode cX9_timetable 6 = .ok (.invokevirtual 129, 3) := by decide +kernel
theorem dX9_timetable_9 : decode cX9_timetable 9 = .ok (.aload_n 0, 1) := by decide +kernel
theorem dX9_timetable_10 : decode cX9_timetable 10 = .ok (.getfield 122, 3) := by decide +kernel
theorem dX9_timetable_13 : decode cX9_timetable 13 = .ok (.ifCond .eq 7, 3) := by decide +kernel
theorem dX9_timetable_16 : decode cX9_timetable 16 = .ok (.sipush (-500), 3) := by decide +kernel
theorem dX9_timetable_19 : decode cX9_timetable 19 = .ok (.ireturn, 1) := by decide +kernel
theorem dX9_timetable_20 : decode cX9_timetable 20 = .ok (.aload_n 0, 1) := by decide +kernel
theorem dX9_timetable_21 : decode cX9_timetable 21 = .ok (.iconst 0, 1) := by decide +kernel
theorem dX9_timetable_22 : decode cX9_timetable 22 = .ok (.putfield 160, 3) := by decide +kernel
theorem dX9_timetable_25 : decode cX9_timetable 25 = .ok (.iconst 0, 1) := by decide +kernel
theorem dX9_timetable_26 : decode cX9_timetable 26 = .ok (.istore_n 1, 1) := by decide +kernel
theorem dX9_timetable_27 : decode cX9_timetable 27 = .ok (.iload_n 1, 1) := by decide +kernel
theorem dX9_timetable_28 : decode cX9_timetable 28 = .ok (.bipush 8, 2) := by decide +kernel
theorem dX9_timetable_30 : decode cX9_timetable 30 = .ok (.if_icmp .ge 26, 3) := by decide +kernel
theorem dX9_timetable_33 : decode cX9_timetable 33 = .ok (.aload_n 0, 1) := by decide +kernel
theorem dX9_timetable_34 : decode cX9_timetable 34 = .ok (.getfield 63, 3) := by decide +kernel
theorem dX9_timetable_37 : decode cX9_timetable 37 = .ok (.iload_n 1, 1) := by decide +kernel
theorem dX9_timetable_38 : decode cX9_timetable 38 = .ok (.iconst 0, 1) := by decide +kernel
theorem dX9_timetable_39 : decode cX9_timetable 39 = .ok (.bastore, 1) := by decide +kernel
theorem dX9_timetable_40 : decode cX9_timetable 40 = .ok (.aload_n 0, 1) := by decide +kernel
theorem dX9_timetable_41 : decode cX9_timetable 41 = .ok (.getfield 60, 3) := by decide +kernel
theorem dX9_timetable_44 : decode cX9_timetable 44 = .ok (.bipush 8, 2) := by decide +kernel
theorem dX9_timetable_46 : decode cX9_timetable 46 = .ok (.iload_n 1, 1) := by decide +kernel
theorem dX9_timetable_47 : decode cX9_timetable 47 = .ok (.iadd, 1) := by decide +kernel
theorem dX9_timetable_48 : decode cX9_timetable 48 = .ok (.iconst 0, 1) := by decide +kernel
theorem dX9_timetable_49 : decode cX9_timetable 49 = .ok (.iastore, 1) := by decide +kernel
theorem dX9_timetable_50 : decode cX9_timetable 50 = .ok (.iinc 1 1, 3) := by decide +kernel
theorem dX9_timetable_53 : decode cX9_timetable 53 = .ok (.goto (-26), 3) := by decide +kernel
theorem dX9_timetable_56 : decode cX9_timetable 56 = .ok (.iconst 0, 1) := by decide +kernel
theorem dX9_timetable_57 : decode cX9_timetable 57 = .ok (.istore_n 1, 1) := by decide +kernel
theorem dX9_timetable_58 : decode cX9_timetable 58 = .ok (.aload_n 0, 1) := by decide +kernel
theorem dX9_timetable_59 : decode cX9_timetable 59 = .ok (.invokevirtual 170, 3) := by decide +kernel
theorem dX9_timetable_62 : decode cX9_timetable 62 = .ok (.aload_n 0, 1) := by decide +kernel
theorem dX9_timetable_63 : decode cX9_timetable 63 = .ok (.invokevirtual 173, 3) := by decide +kernel
theorem dX9_timetable_66 : decode cX9_timetable 66 = .ok (.ifCond .ne 23, 3) := by decide +kernel
theorem dX9_timetable_69 : decode cX9_timetable 69 = .ok (.aload_n 0, 1) := by decide +kernel
theorem dX9_timetable_70 : decode cX9_timetable 70 = .ok (.invokevirtual 177, 3) := by decide +kernel
theorem dX9_timetable_73 : decode cX9_timetable 73 = .ok (.ifCond .ne 10, 3) := by decide +kernel
theorem dX9_timetable_76 : decode cX9_timetable 76 = .ok (.iconst (-1), 1) := by decide +kernel
theorem dX9_timetable_77 : decode cX9_timetable 77 = .ok (.aload_n 0, 1) := by decide +kernel
theorem dX9_timetable_78 : decode cX9_timetable 78 = .ok (.getfield 163, 3) := by decide +kernel
theorem dX9_timetable_81 : decode cX9_timetable 81 = .ok (.isub, 1) := by decide +kernel
theorem dX9_timetable_82 : decode cX9_timetable 82 = .ok (.ireturn, 1) := by decide +kernel
theorem dX9_timetable_83 : decode cX9_timetable 83 = .ok (.iinc 1 1, 3) := by decide +kernel
theorem dX9_timetable_86 : decode cX9_timetable 86 = .ok (.goto (-24), 3) := by decide +kernel
theorem dX9_timetable_89 : decode cX9_timetable 89 = .ok (.iconst 0, 1) := by decide +kernel
theorem dX9_timetable_90 : decode cX9_timetable 90 = .ok (.istore_n 2, 1) := by decide +kernel
theorem dX9_timetable_91 : decode cX9_timetable 91 = .ok (.iload_n 2, 1) := by decide +kernel
theorem dX9_timetable_92 : decode cX9_timetable 92 = .ok (.bipush 96, 2) := by decide +kernel
theorem dX9_timetable_94 : decode cX9_timetable 94 = .ok (.if_icmp .ge 39, 3) := by decide +kernel
theorem dX9_timetable_97 : decode cX9_timetable 97 = .ok (.aload_n 0, 1) := by decide +kernel
theorem dX9_timetable_98 : decode cX9_timetable 98 = .ok (.getfield 54, 3) := by decide +kernel
theorem dX9_timetable_101 : decode cX9_timetable 101 = .ok (.iload_n 2, 1) := by decide +kernel
theorem dX9_timetable_102 : decode cX9_timetable 102 = .ok (.aload_n 0, 1) := by decide +kernel
theorem dX9_timetable_103 : decode cX9_timetable 103 = .ok (.getfield 54, 3) := by decide +kernel
theorem dX9_timetable_106 : decode cX9_timetable 106 = .ok (.bipush 96, 2) := by decide +kernel
theorem dX9_timetable_108 : decode cX9_timetable 108 = .ok (.iload_n 2, 1) := by decide +kernel
theorem dX9_timetable_109 : decode cX9_timetable 109 = .ok (.iadd, 1) := by decide +kernel
theorem dX9_timetable_110 : decode cX9_timetable 110 = .ok (.iaload, 1) := by decide +kernel
theorem dX9_timetable_111 : decode cX9_timetable 111 = .ok (.iastore, 1) := by decide +kernel
theorem dX9_timetable_112 : decode cX9_timetable 112 = .ok (.aload_n 0, 1) := by decide +kernel
theorem dX9_timetable_113 : decode cX9_timetable 113 = .ok (.getfield 57, 3) := by decide +kernel
theorem dX9_timetable_116 : decode cX9_timetable 116 = .ok (.iload_n 2, 1) := by decide +kernel
theorem dX9_timetable_117 : decode cX9_timetable 117 = .ok (.aload_n 0, 1) := by decide +kernel
theorem dX9_timetable_118 : decode cX9_timetable 118 = .ok (.getfield 57, 3) := by decide +kernel
theorem dX9_timetable_121 : decode cX9_timetable 121 = .ok (.bipush 96, 2) := by decide +kernel
theorem dX9_timetable_123 : decode cX9_timetable 123 = .ok (.iload_n 2, 1) := by decide +kernel
theorem dX9_timetable_124 : decode cX9_timetable 124 = .ok (.iadd, 1) := by decide +kernel
theorem dX9_timetable_125 : decode cX9_timetable 125 = .ok (.iaload, 1) := by decide +kernel
theorem dX9_timetable_126 : decode cX9_timetable 126 = .ok (.iastore, 1) := by decide +kernel
theorem dX9_timetable_127 : decode cX9_timetable 127 = .ok (.iinc 2 1, 3) := by decide +kernel
theorem dX9_timetable_130 : decode cX9_timetable 130 = .ok (.goto (-39), 3) := by decide +kernel
theorem dX9_timetable_133 : decode cX9_timetable 133 = .ok (.iconst 0, 1) := by decide +kernel
theorem dX9_timetable_134 : decode cX9_timetable 134 = .ok (.istore_n 2, 1) := by decide +kernel
theorem dX9_timetable_135 : decode cX9_timetable 135 = .ok (.iload_n 2, 1) := by decide +kernel
theorem dX9_timetable_136 : decode cX9_timetable 136 = .ok (.bipush 8, 2) := by decide +kernel
theorem dX9_timetable_138 : decode cX9_timetable 138 = .ok (.if_icmp .ge 24, 3) := by decide +kernel
theorem dX9_timetable_141 : decode cX9_timetable 141 = .ok (.aload_n 0, 1) := by decide +kernel
theorem dX9_timetable_142 : decode cX9_timetable 142 = .ok (.getfield 60, 3) := by decide +kernel
theorem dX9_timetable_145 : decode cX9_timetable 145 = .ok (.iload_n 2, 1) := by decide +kernel
theorem dX9_timetable_146 : decode cX9_timetable 146 = .ok (.aload_n 0, 1) := by decide +kernel
theorem dX9_timetable_147 : decode cX9_timetable 147 = .ok (.getfield 60, 3) := by decide +kernel
theorem dX9_timetable_150 : decode cX9_timetable 150 = .ok (.bipush 8, 2) := by decide +kernel
theorem dX9_timetable_152 : decode cX9_timetable 152 = .ok (.iload_n 2, 1) := by decide +kernel
theorem dX9_timetable_153 : decode cX9_timetable 153 = .ok (.iadd, 1) := by decide +kernel
theorem dX9_timetable_154 : decode cX9_timetable 154 = .ok (.iaload, 1) := by decide +kernel
theorem dX9_timetable_155 : decode cX9_timetable 155 = .ok (.iastore, 1) := by decide +kernel
theorem dX9_timetable_156 : decode cX9_timetable 156 = .ok (.iinc 2 1, 3) := by decide +kernel
theorem dX9_timetable_159 : decode cX9_timetable 159 = .ok (.goto (-24), 3) := by decide +kernel
theorem dX9_timetable_162 : decode cX9_timetable 162 = .ok (.iload_n 1, 1) := by decide +kernel
theorem dX9_timetable_163 : decode cX9_timetable 163 = .ok (.ireturn, 1) := by decide +kernel
theorem dX9_fault_0 : decode cX9_fault 0 = .ok (.aload_n 0, 1) := by decide +kernel
theorem dX9_fault_1 : decode cX9_fault 1 = .ok (.iconst 0, 1) := by decide +kernel
theorem dX9_fault_2 : decode cX9_fault 2 = .ok (.putfield 103, 3) := by decide +kernel
theorem dX9_fault_5 : decode cX9_fault 5 = .ok (.aload_n 0, 1) := by decide +kernel
theorem dX9_fault_6 : decode cX9_fault 6 = .ok (.getfield 160, 3) := by decide +kernel
theorem dX9_fault_9 : decode cX9_fault 9 = .ok (.ireturn, 1) := by decide +kernel
set_option maxRecDepth 20000 in
theorem ggX9_barred_X9_isBridge : GoodIn wsX9_barred wsX9_isBridge := goodIn_r _ [6, 7, 18, 19, 20, 21, 22, 23, 24, 25, 26, 27, 28, 29, 30, 31, 32, 33, 34, 35, 36, 37, 38, 39, 40, 41, 42, 43, 44, 45, 46, 47, 48, 49, 50, 51, 52, 53, 54, 55, 56, 57, 58, 59, 60, 61, 62] (by decide +kernel) (by decide +kernel)
set_option maxRecDepth 20000 in
theorem gX9_barred_X9_isBridge : GoodIn wsX9_barred (wsV RX9 202 RX9 yX9_isBridge wsX9_isBridge) := goodIn_app (goodIn_of _ (by decide +kernel)) ggX9_barred_X9_isBridge
set_option maxRecDepth 20000 in
theorem ggX9_barred_X9_isIn : GoodIn wsX9_barred wsX9_isIn := goodIn_r _ [10] (by decide +kernel) (by decide +kernel)
set_option maxRecDepth 20000 in
theorem gX9_barred_X9_isIn : GoodIn wsX9_barred (va_wsS RX9 125 yX9_isIn wsX9_isIn) := goodIn_app (goodIn_of _ (by decide +kernel)) ggX9_barred_X9_isIn
set_option maxRecDepth 20000 in
theorem ggX9_barred_X9_isBarred : GoodIn wsX9_barred wsX9_isBarred := goodIn_r _ [14, 15, 16, 17, 18, 19, 20, 21, 22, 23, 24, 25, 26, 27, 28, 29, 30, 31, 32, 33, 34, 35, 36, 37, 38, 39, 40, 41, 42, 43, 44, 45, 46, 47, 48, 49, 50, 51, 52, 53, 54, 55, 56, 57, 58, 59, 60, 61, 62] (by decide +kernel) (by decide +kernel)
set_option maxRecDepth 20000 in
theorem gX9_barred_X9_isBarred : GoodIn wsX9_barred (wsV RX9 205 RX9 yX9_isBarred wsX9_isBarred) := goodIn_app (goodIn_of _ (by decide +kernel)) ggX9_barred_X9_isBarred
theorem dX9_barred_0 : decode cX9_barred 0 = .ok (.aload_n 0, 1) := by decide +kernel
theorem dX9_barred_1 : decode cX9_barred 1 = .ok (.iconst 0, 1) := by decide +kernel
theorem dX9_barred_2 : decode cX9_barred 2 = .ok (.putfield 103, 3) := by decide +kernel
theorem dX9_barred_5 : decode cX9_barred 5 = .ok (.aload_n 0, 1) := by decide +kernel
theorem dX9_barred_6 : decode cX9_barred 6 = .ok (.iload_n 1, 1) := by decide +kernel
theorem dX9_barred_7 : decode cX9_barred 7 = .ok (.invokevirtual 202, 3) := by decide +kernel
theorem dX9_barred_10 : decode cX9_barred 10 = .ok (.ifCond .eq 14, 3) := by decide +kernel
theorem dX9_barred_13 : decode cX9_barred 13 = .ok (.iload_n 2, 1) := by decide +kernel
theorem dX9_barred_14 : decode cX9_barred 14 = .ok (.iconst 0, 1) := by decide +kernel
theorem dX9_barred_15 : decode cX9_barred 15 = .ok (.sipush 1440, 3) := by decide +kernel
theorem dX9_barred_18 : decode cX9_barred 18 = .ok (.invokestatic 125, 3) := by decide +kernel
theorem dX9_barred_21 : decode cX9_barred 21 = .ok (.ifCond .ne 7, 3) := by decide +kernel
theorem dX9_barred_24 : decode cX9_barred 24 = .ok (.iconst (-1), 1) := by decide +kernel
theorem dX9_barred_25 : decode cX9_barred 25 = .ok (.goto 18, 3) := by decide +kernel
theorem dX9_barred_28 : decode cX9_barred 28 = .ok (.aload_n 0, 1) := by decide +kernel
theorem dX9_barred_29 : decode cX9_barred 29 = .ok (.iload_n 1, 1) := by decide +kernel
theorem dX9_barred_30 : decode cX9_barred 30 = .ok (.iload_n 2, 1) := by decide +kernel
theorem dX9_barred_31 : decode cX9_barred 31 = .ok (.iload_n 2, 1) := by decide +kernel
theorem dX9_barred_32 : decode cX9_barred 32 = .ok (.invokevirtual 205, 3) := by decide +kernel
theorem dX9_barred_35 : decode cX9_barred 35 = .ok (.ifCond .eq 7, 3) := by decide +kernel
theorem dX9_barred_38 : decode cX9_barred 38 = .ok (.iconst 1, 1) := by decide +kernel
theorem dX9_barred_39 : decode cX9_barred 39 = .ok (.goto 4, 3) := by decide +kernel
theorem dX9_barred_42 : decode cX9_barred 42 = .ok (.iconst 0, 1) := by decide +kernel
theorem dX9_barred_43 : decode cX9_barred 43 = .ok (.ireturn, 1) := by decide +kernel
theorem dX9_isShip_0 : decode cX9_isShip 0 = .ok (.iload_n 1, 1) := by decide +kernel
theorem dX9_isShip_1 : decode cX9_isShip 1 = .ok (.ifCond .lt 15, 3) := by decide +kernel
theorem dX9_isShip_4 : decode cX9_isShip 4 = .ok (.iload_n 1, 1) := by decide +kernel
theorem dX9_isShip_5 : decode cX9_isShip 5 = .ok (.aload_n 0, 1) := by decide +kernel
theorem dX9_isShip_6 : decode cX9_isShip 6 = .ok (.getfield 208, 3) := by decide +kernel
theorem dX9_isShip_9 : decode cX9_isShip 9 = .ok (.if_icmp .ge 7, 3) := by decide +kernel
theorem dX9_isShip_12 : decode cX9_isShip 12 = .ok (.iconst 1, 1) := by decide +kernel
theorem dX9_isShip_13 : decode cX9_isShip 13 = .ok (.goto 4, 3) := by decide +kernel
theorem dX9_isShip_16 : decode cX9_isShip 16 = .ok (.iconst 0, 1) := by decide +kernel
theorem dX9_isShip_17 : decode cX9_isShip 17 = .ok (.ireturn, 1) := by decide +kernel
set_option maxRecDepth 20000 in
theorem ggX9_ship_X9_isIn : GoodIn wsX9_ship wsX9_isIn := goodIn_r _ [13] (by decide +kernel) (by decide +kernel)
set_option maxRecDepth 20000 in
theorem gX9_ship_X9_isIn : GoodIn wsX9_ship (va_wsS RX9 125 yX9_isIn wsX9_isIn) := goodIn_app (goodIn_of _ (by decide +kernel)) ggX9_ship_X9_isIn
theorem dX9_ship_0 : decode cX9_ship 0 = .ok (.aload_n 0, 1) := by decide +kernel
theorem dX9_ship_1 : decode cX9_ship 1 = .ok (.iconst 0, 1) := by decide +kernel
theorem dX9_ship_2 : decode cX9_ship 2 = .ok (.putfield 103, 3) := by decide +kernel
theorem dX9_ship_5 : decode cX9_ship 5 = .ok (.aload_n 0, 1) := by decide +kernel
theorem dX9_ship_6 : decode cX9_ship 6 = .ok (.getfield 208, 3) := by decide +kernel
theorem dX9_ship_9 : decode cX9_ship 9 = .ok (.bipush 40, 2) := by decide +kernel
theorem dX9_ship_11 : decode cX9_ship 11 = .ok (.if_icmp .eq 35, 3) := by decide +kernel
theorem dX9_ship_14 : decode cX9_ship 14 = .ok (.aload_n 0, 1) := by decide +kernel
theorem dX9_ship_15 : decode cX9_ship 15 = .ok (.getfield 119, 3) := by decide +kernel
theorem dX9_ship_18 : decode cX9_ship 18 = .ok (.ifCond .eq 28, 3) := by decide +kernel
theorem dX9_ship_21 : decode cX9_ship 21 = .ok (.iload_n 1, 1) := by decide +kernel
theorem dX9_ship_22 : decode cX9_ship 22 = .ok (.iconst 0, 1) := by decide +kernel
theorem dX9_ship_23 : decode cX9_ship 23 = .ok (.sipush 500, 3) := by decide +kernel
theorem dX9_ship_26 : decode cX9_ship 26 = .ok (.invokestatic 125, 3) := by decide +kernel
theorem dX9_ship_29 : decode cX9_ship 29 = .ok (.ifCond .eq 17, 3) := by decide +kernel
theorem dX9_ship_32 : decode cX9_ship 32 = .ok (.iload_n 3, 1) := by decide +kernel
theorem dX9_ship_33 : decode cX9_ship 33 = .ok (.aload_n 0, 1) := by decide +kernel
theorem dX9_ship_34 : decode cX9_ship 34 = .ok (.getfield 122, 3) := by decide +kernel
theorem dX9_ship_37 : decode cX9_ship 37 = .ok (.sipush 1440, 3) := by decide +kernel
theorem dX9_ship_40 : decode cX9_ship 40 = .ok (.invokestatic 125, 3) := by decide +kernel
theorem dX9_ship_43 : decode cX9_ship 43 = .ok (.ifCond .ne 5, 3) := by decide +kernel
theorem dX9_ship_46 : decode cX9_ship 46 = .ok (.iconst (-1), 1) := by decide +kernel
theorem dX9_ship_47 : decode cX9_ship 47 = .ok (.ireturn, 1) := by decide +kernel
theorem dX9_ship_48 : decode cX9_ship 48 = .ok (.aload_n 0, 1) := by decide +kernel
theorem dX9_ship_49 : decode cX9_ship 49 = .ok (.getfield 67, 3) := by decide +kernel
theorem dX9_ship_52 : decode cX9_ship 52 = .ok (.aload_n 0, 1) := by decide +kernel
theorem dX9_ship_53 : decode cX9_ship 53 = .ok (.getfield 208, 3) := by decide +kernel
theorem dX9_ship_56 : decode cX9_ship 56 = .ok (.iload_n 1, 1) := by decide +kernel
theorem dX9_ship_57 : decode cX9_ship 57 = .ok (.iastore, 1) := by decide +kernel
theorem dX9_ship_58 : decode cX9_ship 58 = .ok (.aload_n 0, 1) := by decide +kernel
theorem dX9_ship_59 : decode cX9_ship 59 = .ok (.getfield 91, 3) := by decide +kernel
theorem dX9_ship_62 : decode cX9_ship 62 = .ok (.aload_n 0, 1) := by decide +kernel
theorem dX9_ship_63 : decode cX9_ship 63 = .ok (.getfield 208, 3) := by decide +kernel
theorem dX9_ship_66 : decode cX9_ship 66 = .ok (.iload_n 2, 1) := by decide +kernel
theorem dX9_ship_67 : decode cX9_ship 67 = .ok (.bastore, 1) := by decide +kernel
theorem dX9_ship_68 : decode cX9_ship 68 = .ok (.aload_n 0, 1) := by decide +kernel
theorem dX9_ship_69 : decode cX9_ship 69 = .ok (.getfield 76, 3) := by decide +kernel
theorem dX9_ship_72 : decode cX9_ship 72 = .ok (.aload_n 0, 1) := by decide +kernel
theorem dX9_ship_73 : decode cX9_ship 73 = .ok (.getfield 208, 3) := by decide +kernel
theorem dX9_ship_76 : decode cX9_ship 76 = .ok (.iload_n 3, 1) := by decide +kernel
theorem dX9_ship_77 : decode cX9_ship 77 = .ok (.iastore, 1) := by decide +kernel
theorem dX9_ship_78 : decode cX9_ship 78 = .ok (.aload_n 0, 1) := by decide +kernel
theorem dX9_ship_79 : decode cX9_ship 79 = .ok (.getfield 85, 3) := by decide +kernel
theorem dX9_ship_82 : decode cX9_ship 82 = .ok (.aload_n 0, 1) := by decide +kernel
theorem dX9_ship_83 : decode cX9_ship 83 = .ok (.getfield 208, 3) := by decide +kernel
theorem dX9_ship_86 : decode cX9_ship 86 = .ok (.iconst (-1), 1) := by decide +kernel
theorem dX9_ship_87 : decode cX9_ship 87 = .ok (.iastore, 1) := by decide +kernel
theorem dX9_ship_88 : decode cX9_ship 88 = .ok (.iconst 0, 1) := by decide +kernel
theorem dX9_ship_89 : decode cX9_ship 89 = .ok (.istore 4, 2) := by decide +kernel
theorem dX9_ship_91 : decode cX9_ship 91 = .ok (.iload 4, 2) := by decide +kernel
theorem dX9_ship_93 : decode cX9_ship 93 = .ok (.bipush 8, 2) := by decide +kernel
theorem dX9_ship_95 : decode cX9_ship 95 = .ok (.if_icmp .ge 25, 3) := by decide +kernel
theorem dX9_ship_98 : decode cX9_ship 98 = .ok (.aload_n 0, 1) := by decide +kernel
theorem dX9_ship_99 : decode cX9_ship 99 = .ok (.getfield 88, 3) := by decide +kernel
theorem dX9_ship_102 : decode cX9_ship 102 = .ok (.bipush 8, 2) := by decide +kernel
theorem dX9_ship_104 : decode cX9_ship 104 = .ok (.aload_n 0, 1) := by decide +kernel
theorem dX9_ship_105 : decode cX9_ship 105 = .ok (.getfield 208, 3) := by decide +kernel
theorem dX9_ship_108 : decode cX9_ship 108 = .ok (.imul, 1) := by decide +kernel
theorem dX9_ship_109 : decode cX9_ship 109 = .ok (.iload 4, 2) := by decide +kernel
theorem dX9_ship_111 : decode cX9_ship 111 = .ok (.iadd, 1) := by decide +kernel
theorem dX9_ship_112 : decode cX9_ship 112 = .ok (.iconst (-1), 1) := by decide +kernel
theorem dX9_ship_113 : decode cX9_ship 113 = .ok (.iastore, 1) := by decide +kernel
theorem dX9_ship_114 : decode cX9_ship 114 = .ok (.iinc 4 1, 3) := by decide +kernel
theorem dX9_ship_117 : decode cX9_ship 117 = .ok (.goto (-26), 3) := by decide +kernel
theorem dX9_ship_120 : decode cX9_ship 120 = .ok (.aload_n 0, 1) := by decide +kernel
theorem dX9_ship_121 : decode cX9_ship 121 = .ok (.dup, 1) := by decide +kernel
theorem dX9_ship_122 : decode cX9_ship 122 = .ok (.getfield 208, 3) := by decide +kernel
theorem dX9_ship_125 : decode cX9_ship 125 = .ok (.iconst 1, 1) := by decide +kernel
theorem dX9_ship_126 : decode cX9_ship 126 = .ok (.iadd, 1) := by decide +kernel
theorem dX9_ship_127 : decode cX9_ship 127 = .ok (.putfield 208, 3) := by decide +kernel
theorem dX9_ship_130 : decode cX9_ship 130 = .ok (.aload_n 0, 1) := by decide +kernel
theorem dX9_ship_131 : decode cX9_ship 131 = .ok (.getfield 208, 3) := by decide +kernel
theorem dX9_ship_134 : decode cX9_ship 134 = .ok (.iconst 1, 1) := by decide +kernel
theorem dX9_ship_135 : decode cX9_ship 135 = .ok (.isub, 1) := by decide +kernel
theorem dX9_ship_136 : decode cX9_ship 136 = .ok (.ireturn, 1) := by decide +kernel
set_option maxRecDepth 20000 in
theorem ggX9_keeper_X9_isBridge : GoodIn wsX9_keeper wsX9_isBridge := goodIn_r _ [11, 12, 13, 14, 15, 16, 17, 18, 19, 20, 21, 22, 23, 24, 25, 26, 27, 28, 29, 30, 31, 32, 33, 34, 35, 36, 37, 38, 39, 40, 41, 42, 43, 44, 45, 46, 47, 48, 49, 50, 51, 52, 53, 54, 55, 56, 57] (by decide +kernel) (by decide +kernel)
set_option maxRecDepth 20000 in
theorem gX9_keeper_X9_isBridge : GoodIn wsX9_keeper (wsV RX9 202 RX9 yX9_isBridge wsX9_isBridge) := goodIn_app (goodIn_of _ (by decide +kernel)) ggX9_keeper_X9_isBridge
theorem dX9_keeper_0 : decode cX9_keeper 0 = .ok (.aload_n 0, 1) := by decide +kernel
theorem dX9_keeper_1 : decode cX9_keeper 1 = .ok (.iconst 0, 1) := by decide +kernel
theorem dX9_keeper_2 : decode cX9_keeper 2 = .ok (.putfield 103, 3) := by decide +kernel
theorem dX9_keeper_5 : decode cX9_keeper 5 = .ok (.aload_n 0, 1) := by decide +kernel
theorem dX9_keeper_6 : decode cX9_keeper 6 = .ok (.getfield 215, 3) := by decide +kernel
theorem dX9_keeper_9 : decode cX9_keeper 9 = .ok (.iconst 4, 1) := by decide +kernel
theorem dX9_keeper_10 : decode cX9_keeper 10 = .ok (.if_icmp .eq 18, 3) := by decide +kernel
theorem dX9_keeper_13 : decode cX9_keeper 13 = .ok (.aload_n 0, 1) := by decide +kernel
theorem dX9_keeper_14 : decode cX9_keeper 14 = .ok (.iload_n 1, 1) := by decide +kernel
theorem dX9_keeper_15 : decode cX9_keeper 15 = .ok (.invokevirtual 202, 3) := by decide +kernel
theorem dX9_keeper_18 : decode cX9_keeper 18 = .ok (.ifCond .eq 10, 3) := by decide +kernel
theorem dX9_keeper_21 : decode cX9_keeper 21 = .ok (.aload_n 0, 1) := by decide +kernel
theorem dX9_keeper_22 : decode cX9_keeper 22 = .ok (.getfield 122, 3) := by decide +kernel
theorem dX9_keeper_25 : decode cX9_keeper 25 = .ok (.ifCond .eq 5, 3) := by decide +kernel
theorem dX9_keeper_28 : decode cX9_keeper 28 = .ok (.iconst (-1), 1) := by decide +kernel
theorem dX9_keeper_29 : decode cX9_keeper 29 = .ok (.ireturn, 1) := by decide +kernel
theorem dX9_keeper_30 : decode cX9_keeper 30 = .ok (.aload_n 0, 1) := by decide +kernel
theorem dX9_keeper_31 : decode cX9_keeper 31 = .ok (.getfield 94, 3) := by decide +kernel
theorem dX9_keeper_34 : decode cX9_keeper 34 = .ok (.aload_n 0, 1) := by decide +kernel
theorem dX9_keeper_35 : decode cX9_keeper 35 = .ok (.getfield 215, 3) := by decide +kernel
theorem dX9_keeper_38 : decode cX9_keeper 38 = .ok (.iload_n 1, 1) := by decide +kernel
theorem dX9_keeper_39 : decode cX9_keeper 39 = .ok (.iastore, 1) := by decide +kernel
theorem dX9_keeper_40 : decode cX9_keeper 40 = .ok (.aload_n 0, 1) := by decide +kernel
theorem dX9_keeper_41 : decode cX9_keeper 41 = .ok (.getfield 97, 3) := by decide +kernel
theorem dX9_keeper_44 : decode cX9_keeper 44 = .ok (.aload_n 0, 1) := by decide +kernel
theorem dX9_keeper_45 : decode cX9_keeper 45 = .ok (.getfield 215, 3) := by decide +kernel
theorem dX9_keeper_48 : decode cX9_keeper 48 = .ok (.iconst (-1), 1) := by decide +kernel
theorem dX9_keeper_49 : decode cX9_keeper 49 = .ok (.iastore, 1) := by decide +kernel
theorem dX9_keeper_50 : decode cX9_keeper 50 = .ok (.aload_n 0, 1) := by decide +kernel
theorem dX9_keeper_51 : decode cX9_keeper 51 = .ok (.getfield 100, 3) := by decide +kernel
theorem dX9_keeper_54 : decode cX9_keeper 54 = .ok (.aload_n 0, 1) := by decide +kernel
theorem dX9_keeper_55 : decode cX9_keeper 55 = .ok (.getfield 215, 3) := by decide +kernel
theorem dX9_keeper_58 : decode cX9_keeper 58 = .ok (.iconst (-1), 1) := by decide +kernel
theorem dX9_keeper_59 : decode cX9_keeper 59 = .ok (.iastore, 1) := by decide +kernel
theorem dX9_keeper_60 : decode cX9_keeper 60 = .ok (.aload_n 0, 1) := by decide +kernel
theorem dX9_keeper_61 : decode cX9_keeper 61 = .ok (.dup, 1) := by decide +kernel
theorem dX9_keeper_62 : decode cX9_keeper 62 = .ok (.getfield 215, 3) := by decide +kernel
theorem dX9_keeper_65 : decode cX9_keeper 65 = .ok (.iconst 1, 1) := by decide +kernel
theorem dX9_keeper_66 : decode cX9_keeper 66 = .ok (.iadd, 1) := by decide +kernel
theorem dX9_keeper_67 : decode cX9_keeper 67 = .ok (.putfield 215, 3) := by decide +kernel
theorem dX9_keeper_70 : decode cX9_keeper 70 = .ok (.aload_n 0, 1) := by decide +kernel
theorem dX9_keeper_71 : decode cX9_keeper 71 = .ok (.getfield 215, 3) := by decide +kernel
theorem dX9_keeper_74 : decode cX9_keeper 74 = .ok (.iconst 1, 1) := by decide +kernel
theorem dX9_keeper_75 : decode cX9_keeper 75 = .ok (.isub, 1) := by decide +kernel
theorem dX9_keeper_76 : decode cX9_keeper 76 = .ok (.ireturn, 1) := by decide +kernel
set_option maxRecDepth 20000 in
theorem ggX9_go_X9_isIn : GoodIn wsX9_go wsX9_isIn := goodIn_r _ [16] (by decide +kernel) (by decide +kernel)
set_option maxRecDepth 20000 in
theorem gX9_go_X9_isIn : GoodIn wsX9_go (va_wsS RX9 125 yX9_isIn wsX9_isIn) := goodIn_app (goodIn_of _ (by decide +kernel)) ggX9_go_X9_isIn
set_option maxRecDepth 20000 in
theorem ggX9_go_X9_come : GoodIn wsX9_go wsX9_come := goodIn_r _ [20, 4, 6, 21, 2, 22, 23, 24, 7, 25, 26, 27, 3, 28, 10, 29, 30, 31, 15, 32, 85, 86, 87, 88, 89, 90, 91, 92, 93, 94, 95, 96, 97, 98, 99, 100, 101, 102, 103, 104, 105, 106, 107, 108, 109, 110, 111, 112, 113, 114, 115, 116, 117, 118, 119, 120, 121, 122, 123, 124, 125, 126, 127, 128, 129] (by decide +kernel) (by decide +kernel)
set_option maxRecDepth 20000 in
theorem gX9_go_X9_come : GoodIn wsX9_go (wsV RX9 218 RX9 yX9_come wsX9_come) := goodIn_app (goodIn_of _ (by decide +kernel)) ggX9_go_X9_come
set_option maxRecDepth 20000 in
theorem ggX9_go_X9_pass : GoodIn wsX9_go wsX9_pass := goodIn_r _ [36, 4, 6, 22, 37, 2, 10, 24, 38, 39, 40, 15, 41, 42, 43, 44, 45, 46, 47, 48, 49, 50, 51, 52, 23, 53, 21, 54, 29, 30, 31, 32, 3, 85, 86, 87, 88, 89, 90, 91, 92, 93, 94, 95, 96, 97, 98, 99, 100, 101, 102, 103, 104, 105, 106, 107, 108, 109, 110, 111, 112, 113, 114, 115, 116, 117, 118, 119, 120, 121, 122, 123, 124, 125, 126, 127, 128, 129] (by decide +kernel) (by decide +kernel)
set_option maxRecDepth 20000 in
theorem gX9_go_X9_pass : GoodIn wsX9_go (wsV RX9 221 RX9 yX9_pass wsX9_pass) := goodIn_app (goodIn_of _ (by decide +kernel)) ggX9_go_X9_pass
set_option maxRecDepth 20000 in
theorem ggX9_go_X9_turn : GoodIn wsX9_go wsX9_turn := goodIn_r _ [58, 10, 2, 59, 28, 60, 61, 62, 63, 64, 15, 65, 4, 6, 22, 66, 67, 68, 69, 70, 71, 72, 73, 74, 75, 76, 7, 26, 27, 85, 86, 87, 88, 89, 90, 91, 92, 93, 94, 95, 96, 97, 98, 99, 100, 101, 102, 103, 104, 105, 106, 107, 108, 109, 110, 111, 112, 113, 114, 115, 116, 117, 118, 119, 120, 121, 122, 123, 124, 125, 126, 127, 128, 129] (by decide +kernel) (by decide +kernel)
set_option maxRecDepth 20000 in
theorem gX9_go_X9_turn : GoodIn wsX9_go (wsV RX9 224 RX9 yX9_turn wsX9_turn) := goodIn_app (goodIn_of _ (by decide +kernel)) ggX9_go_X9_turn
set_option maxRecDepth 20000 in
theorem ggX9_go_X9_send : GoodIn wsX9_go wsX9_send := goodIn_r _ [80, 26, 10, 3, 27, 25, 2, 81, 62, 63, 64, 15, 65, 4, 6, 22, 73, 74, 75, 76, 7, 82, 83, 84, 85, 86, 87, 88, 89, 90, 91, 92, 93, 94, 95, 96, 97, 98, 99, 100, 101, 102, 103, 104, 105, 106, 107, 108, 109, 110, 111, 112, 113, 114, 115, 116, 117, 118, 119, 120, 121, 122, 123, 124, 125, 126, 127, 128, 129] (by decide +kernel) (by decide +kernel)
set_option maxRecDepth 20000 in
theorem gX9_go_X9_send : GoodIn wsX9_go (wsV RX9 227 RX9 yX9_send wsX9_send) := goodIn_app (goodIn_of _ (by decide +kernel)) ggX9_go_X9_send
theorem dX9_go_0 : decode cX9_go 0 = .ok (.aload_n 0, 1) := by decide +kernel
theorem dX9_go_1 : decode cX9_go 1 = .ok (.iconst 0, 1) := by decide +kernel
theorem dX9_go_2 : decode cX9_go 2 = .ok (.putfield 103, 3) := by decide +kernel
theorem dX9_go_5 : decode cX9_go 5 = .ok (.iload_n 1, 1) := by decide +kernel
theorem dX9_go_6 : decode cX9_go 6 = .ok (.iconst 0, 1) := by decide +kernel
theorem dX9_go_7 : decode cX9_go 7 = .ok (.sipush 1440, 3) := by decide +kernel
theorem dX9_go_10 : decode cX9_go 10 = .ok (.invokestatic 125, 3) := by decide +kernel
theorem dX9_go_13 : decode cX9_go 13 = .ok (.ifCond .ne 5, 3) := by decide +kernel
theorem dX9_go_16 : decode cX9_go 16 = .ok (.iconst (-1), 1) := by decide +kernel
theorem dX9_go_17 : decode cX9_go 17 = .ok (.ireturn, 1) := by decide +kernel
theorem dX9_go_18 : decode cX9_go 18 = .ok (.iconst 0, 1) := by decide +kernel
theorem dX9_go_19 : decode cX9_go 19 = .ok (.istore_n 2, 1) := by decide +kernel
theorem dX9_go_20 : decode cX9_go 20 = .ok (.iload_n 2, 1) := by decide +kernel
theorem dX9_go_21 : decode cX9_go 21 = .ok (.iload_n 1, 1) := by decide +kernel
theorem dX9_go_22 : decode cX9_go 22 = .ok (.if_icmp .ge 230, 3) := by decide +kernel
theorem dX9_go_25 : decode cX9_go 25 = .ok (.aload_n 0, 1) := by decide +kernel
theorem dX9_go_26 : decode cX9_go 26 = .ok (.getfield 122, 3) := by decide +kernel
theorem dX9_go_29 : decode cX9_go 29 = .ok (.sipush 1440, 3) := by decide +kernel
theorem dX9_go_32 : decode cX9_go 32 = .ok (.if_icmp .ge 220, 3) := by decide +kernel
theorem dX9_go_35 : decode cX9_go 35 = .ok (.aload_n 0, 1) := by decide +kernel
theorem dX9_go_36 : decode cX9_go 36 = .ok (.invokevirtual 218, 3) := by decide +kernel
theorem dX9_go_39 : decode cX9_go 39 = .ok (.iconst 0, 1) := by decide +kernel
theorem dX9_go_40 : decode cX9_go 40 = .ok (.istore_n 3, 1) := by decide +kernel
theorem dX9_go_41 : decode cX9_go 41 = .ok (.iload_n 3, 1) := by decide +kernel
theorem dX9_go_42 : decode cX9_go 42 = .ok (.aload_n 0, 1) := by decide +kernel
theorem dX9_go_43 : decode cX9_go 43 = .ok (.getfield 119, 3) := by decide +kernel
theorem dX9_go_46 : decode cX9_go 46 = .ok (.if_icmp .ge 14, 3) := by decide +kernel
theorem dX9_go_49 : decode cX9_go 49 = .ok (.aload_n 0, 1) := by decide +kernel
theorem dX9_go_50 : decode cX9_go 50 = .ok (.iload_n 3, 1) := by decide +kernel
theorem dX9_go_51 : decode cX9_go 51 = .ok (.invokevirtual 221, 3) := by decide +kernel
theorem dX9_go_54 : decode cX9_go 54 = .ok (.iinc 3 1, 3) := by decide +kernel
theorem dX9_go_57 : decode cX9_go 57 = .ok (.goto (-16), 3) := by decide +kernel
theorem dX9_go_60 : decode cX9_go 60 = .ok (.iconst 0, 1) := by decide +kernel
theorem dX9_go_61 : decode cX9_go 61 = .ok (.istore_n 3, 1) := by decide +kernel
theorem dX9_go_62 : decode cX9_go 62 = .ok (.iload_n 3, 1) := by decide +kernel
theorem dX9_go_63 : decode cX9_go 63 = .ok (.aload_n 0, 1) := by decide +kernel
theorem dX9_go_64 : decode cX9_go 64 = .ok (.getfield 208, 3) := by decide +kernel
theorem dX9_go_67 : decode cX9_go 67 = .ok (.if_icmp .ge 33, 3) := by decide +kernel
theorem dX9_go_70 : decode cX9_go 70 = .ok (.aload_n 0, 1) := by decide +kernel
theorem dX9_go_71 : decode cX9_go 71 = .ok (.getfield 82, 3) := by decide +kernel
theorem dX9_go_74 : decode cX9_go 74 = .ok (.iload_n 3, 1) := by decide +kernel
theorem dX9_go_75 : decode cX9_go 75 = .ok (.dup2, 1) := by decide +kernel
theorem dX9_go_76 : decode cX9_go 76 = .ok (.iaload, 1) := by decide +kernel
theorem dX9_go_77 : decode cX9_go 77 = .ok (.aload_n 0, 1) := by decide +kernel
theorem dX9_go_78 : decode cX9_go 78 = .ok (.getfield 70, 3) := by decide +kernel
theorem dX9_go_81 : decode cX9_go 81 = .ok (.iload_n 3, 1) := by decide +kernel
theorem dX9_go_82 : decode cX9_go 82 = .ok (.iaload, 1) := by decide +kernel
theorem dX9_go_83 : decode cX9_go 83 = .ok (.iconst 1, 1) := by decide +kernel
theorem dX9_go_84 : decode cX9_go 84 = .ok (.if_icmp .ne 7, 3) := by decide +kernel
theorem dX9_go_87 : decode cX9_go 87 = .ok (.iconst 1, 1) := by decide +kernel
theorem dX9_go_88 : decode cX9_go 88 = .ok (.goto 4, 3) := by decide +kernel
theorem dX9_go_91 : decode cX9_go 91 = .ok (.iconst 0, 1) := by decide +kernel
theorem dX9_go_92 : decode cX9_go 92 = .ok (.iadd, 1) := by decide +kernel
theorem dX9_go_93 : decode cX9_go 93 = .ok (.iastore, 1) := by decide +kernel
theorem dX9_go_94 : decode cX9_go 94 = .ok (.iinc 3 1, 3) := by decide +kernel
theorem dX9_go_97 : decode cX9_go 97 = .ok (.goto (-35), 3) := by decide +kernel
theorem dX9_go_100 : decode cX9_go 100 = .ok (.iconst 0, 1) := by decide +kernel
theorem dX9_go_101 : decode cX9_go 101 = .ok (.istore_n 3, 1) := by decide +kernel
theorem dX9_go_102 : decode cX9_go 102 = .ok (.iload_n 3, 1) := by decide +kernel
theorem dX9_go_103 : decode cX9_go 103 = .ok (.aload_n 0, 1) := by decide +kernel
theorem dX9_go_104 : decode cX9_go 104 = .ok (.getfield 119, 3) := by decide +kernel
theorem dX9_go_107 : decode cX9_go 107 = .ok (.if_icmp .ge 14, 3) := by decide +kernel
theorem dX9_go_110 : decode cX9_go 110 = .ok (.aload_n 0, 1) := by decide +kernel
theorem dX9_go_111 : decode cX9_go 111 = .ok (.iload_n 3, 1) := by decide +kernel
theorem dX9_go_112 : decode cX9_go 112 = .ok (.invokevirtual 224, 3) := by decide +kernel
theorem dX9_go_115 : decode cX9_go 115 = .ok (.iinc 3 1, 3) := by decide +kernel
theorem dX9_go_118 : decode cX9_go 118 = .ok (.goto (-16), 3) := by decide +kernel
theorem dX9_go_121 : decode cX9_go 121 = .ok (.iconst 0, 1) := by decide +kernel
theorem dX9_go_122 : decode cX9_go 122 = .ok (.istore_n 3, 1) := by decide +kernel
theorem dX9_go_123 : decode cX9_go 123 = .ok (.iload_n 3, 1) := by decide +kernel
theorem dX9_go_124 : decode cX9_go 124 = .ok (.aload_n 0, 1) := by decide +kernel
theorem dX9_go_125 : decode cX9_go 125 = .ok (.getfield 215, 3) := by decide +kernel
theorem dX9_go_128 : decode cX9_go 128 = .ok (.if_icmp .ge 14, 3) := by decide +kernel
theorem dX9_go_131 : decode cX9_go 131 = .ok (.aload_n 0, 1) := by decide +kernel
theorem dX9_go_132 : decode cX9_go 132 = .ok (.iload_n 3, 1) := by decide +kernel
theorem dX9_go_133 : decode cX9_go 133 = .ok (.invokevirtual 227, 3) := by decide +kernel
theorem dX9_go_136 : decode cX9_go 136 = .ok (.iinc 3 1, 3) := by decide +kernel
theorem dX9_go_139 : decode cX9_go 139 = .ok (.goto (-16), 3) := by decide +kernel
theorem dX9_go_142 : decode cX9_go 142 = .ok (.iconst 0, 1) := by decide +kernel
theorem dX9_go_143 : decode cX9_go 143 = .ok (.istore_n 3, 1) := by decide +kernel
theorem dX9_go_144 : decode cX9_go 144 = .ok (.iload_n 3, 1) := by decide +kernel
theorem dX9_go_145 : decode cX9_go 145 = .ok (.aload_n 0, 1) := by decide +kernel
theorem dX9_go_146 : decode cX9_go 146 = .ok (.getfield 119, 3) := by decide +kernel
theorem dX9_go_149 : decode cX9_go 149 = .ok (.if_icmp .ge 87, 3) := by decide +kernel
theorem dX9_go_152 : decode cX9_go 152 = .ok (.aload_n 0, 1) := by decide +kernel
theorem dX9_go_153 : decode cX9_go 153 = .ok (.getfield 38, 3) := by decide +kernel
theorem dX9_go_156 : decode cX9_go 156 = .ok (.iload_n 3, 1) := by decide +kernel
theorem dX9_go_157 : decode cX9_go 157 = .ok (.dup2, 1) := by decide +kernel
theorem dX9_go_158 : decode cX9_go 158 = .ok (.iaload, 1) := by decide +kernel
theorem dX9_go_159 : decode cX9_go 159 = .ok (.aload_n 0, 1) := by decide +kernel
theorem dX9_go_160 : decode cX9_go 160 = .ok (.getfield 26, 3) := by decide +kernel
theorem dX9_go_163 : decode cX9_go 163 = .ok (.iload_n 3, 1) := by decide +kernel
theorem dX9_go_164 : decode cX9_go 164 = .ok (.iaload, 1) := by decide +kernel
theorem dX9_go_165 : decode cX9_go 165 = .ok (.iadd, 1) := by decide +kernel
theorem dX9_go_166 : decode cX9_go 166 = .ok (.iastore, 1) := by decide +kernel
theorem dX9_go_167 : decode cX9_go 167 = .ok (.aload_n 0, 1) := by decide +kernel
theorem dX9_go_168 : decode cX9_go 168 = .ok (.getfield 32, 3) := by decide +kernel
theorem dX9_go_171 : decode cX9_go 171 = .ok (.iload_n 3, 1) := by decide +kernel
theorem dX9_go_172 : decode cX9_go 172 = .ok (.iaload, 1) := by decide +kernel
theorem dX9_go_173 : decode cX9_go 173 = .ok (.ifCond .ne 42, 3) := by decide +kernel
theorem dX9_go_176 : decode cX9_go 176 = .ok (.aload_n 0, 1) := by decide +kernel
theorem dX9_go_177 : decode cX9_go 177 = .ok (.getfield 38, 3) := by decide +kernel
theorem dX9_go_180 : decode cX9_go 180 = .ok (.iload_n 3, 1) := by decide +kernel
theorem dX9_go_181 : decode cX9_go 181 = .ok (.dup2, 1) := by decide +kernel
theorem dX9_go_182 : decode cX9_go 182 = .ok (.iaload, 1) := by decide +kernel
theorem dX9_go_183 : decode cX9_go 183 = .ok (.aload_n 0, 1) := by decide +kernel
theorem dX9_go_184 : decode cX9_go 184 = .ok (.getfield 38, 3) := by decide +kernel
theorem dX9_go_187 : decode cX9_go 187 = .ok (.iload_n 3, 1) := by decide +kernel
theorem dX9_go_188 : decode cX9_go 188 = .ok (.iaload, 1) := by decide +kernel
theorem dX9_go_189 : decode cX9_go 189 = .ok (.aload_n 0, 1) := by decide +kernel
theorem dX9_go_190 : decode cX9_go 190 = .ok (.getfield 29, 3) := by decide +kernel
theorem dX9_go_193 : decode cX9_go 193 = .ok (.iload_n 3, 1) := by decide +kernel
theorem dX9_go_194 : decode cX9_go 194 = .ok (.iaload, 1) := by decide +kernel
theorem dX9_go_195 : decode cX9_go 195 = .ok (.if_icmp .ge 12, 3) := by decide +kernel
theorem dX9_go_198 : decode cX9_go 198 = .ok (.aload_n 0, 1) := by decide +kernel
theorem dX9_go_199 : decode cX9_go 199 = .ok (.getfield 38, 3) := by decide +kernel
theorem dX9_go_202 : decode cX9_go 202 = .ok (.iload_n 3, 1) := by decide +kernel
theorem dX9_go_203 : decode cX9_go 203 = .ok (.iaload, 1) := by decide +kernel
theorem dX9_go_204 : decode cX9_go 204 = .ok (.goto 9, 3) := by decide +kernel
theorem dX9_go_207 : decode cX9_go 207 = .ok (.aload_n 0, 1) := by decide +kernel
theorem dX9_go_208 : decode cX9_go 208 = .ok (.getfield 29, 3) := by decide +kernel
theorem dX9_go_211 : decode cX9_go 211 = .ok (.iload_n 3, 1) := by decide +kernel
theorem dX9_go_212 : decode cX9_go 212 = .ok (.iaload, 1) := by decide +kernel
theorem dX9_go_213 : decode cX9_go 213 = .ok (.isub, 1) := by decide +kernel
theorem dX9_go_214 : decode cX9_go 214 = .ok (.iastore, 1) := by decide +kernel
theorem dX9_go_215 : decode cX9_go 215 = .ok (.aload_n 0, 1) := by decide +kernel
theorem dX9_go_216 : decode cX9_go 216 = .ok (.getfield 44, 3) := by decide +kernel
theorem dX9_go_219 : decode cX9_go 219 = .ok (.iload_n 3, 1) := by decide +kernel
theorem dX9_go_220 : decode cX9_go 220 = .ok (.dup2, 1) := by decide +kernel
theorem dX9_go_221 : decode cX9_go 221 = .ok (.iaload, 1) := by decide +kernel
theorem dX9_go_222 : decode cX9_go 222 = .ok (.aload_n 0, 1) := by decide +kernel
theorem dX9_go_223 : decode cX9_go 223 = .ok (.getfield 38, 3) := by decide +kernel
theorem dX9_go_226 : decode cX9_go 226 = .ok (.iload_n 3, 1) := by decide +kernel
theorem dX9_go_227 : decode cX9_go 227 = .ok (.iaload, 1) := by decide +kernel
theorem dX9_go_228 : decode cX9_go 228 = .ok (.iadd, 1) := by decide +kernel
theorem dX9_go_229 : decode cX9_go 229 = .ok (.iastore, 1) := by decide +kernel
theorem dX9_go_230 : decode cX9_go 230 = .ok (.iinc 3 1, 3) := by decide +kernel
theorem dX9_go_233 : decode cX9_go 233 = .ok (.goto (-89), 3) := by decide +kernel
theorem dX9_go_236 : decode cX9_go 236 = .ok (.aload_n 0, 1) := by decide +kernel
theorem dX9_go_237 : decode cX9_go 237 = .ok (.dup, 1) := by decide +kernel
theorem dX9_go_238 : decode cX9_go 238 = .ok (.getfield 122, 3) := by decide +kernel
theorem dX9_go_241 : decode cX9_go 241 = .ok (.iconst 1, 1) := by decide +kernel
theorem dX9_go_242 : decode cX9_go 242 = .ok (.iadd, 1) := by decide +kernel
theorem dX9_go_243 : decode cX9_go 243 = .ok (.putfield 122, 3) := by decide +kernel
theorem dX9_go_246 : decode cX9_go 246 = .ok (.iinc 2 1, 3) := by decide +kernel
theorem dX9_go_249 : decode cX9_go 249 = .ok (.goto (-229), 3) := by decide +kernel
theorem dX9_go_252 : decode cX9_go 252 = .ok (.aload_n 0, 1) := by decide +kernel
theorem dX9_go_253 : decode cX9_go 253 = .ok (.getfield 122, 3) := by decide +kernel
theorem dX9_go_256 : decode cX9_go 256 = .ok (.ireturn, 1) := by decide +kernel
set_option maxRecDepth 20000 in
theorem ggX9_come_X9_first : GoodIn wsX9_come wsX9_first := goodIn_r _ [19, 12, 20, 21, 22, 23, 24, 25, 26, 27, 28, 29, 30, 31, 32, 33, 34, 35, 36, 37, 38, 39, 40, 41, 42, 43, 44, 45, 46, 47, 48, 49, 50, 51, 52, 53, 54, 55, 56, 57, 58, 59, 60, 61, 62, 63, 64] (by decide +kernel) (by decide +kernel)
set_option maxRecDepth 20000 in
theorem gX9_come_X9_first : GoodIn wsX9_come (wsV RX9 211 RX9 yX9_first wsX9_first) := goodIn_app (goodIn_of _ (by decide +kernel)) ggX9_come_X9_first
theorem dX9_come_0 : decode cX9_come 0 = .ok (.iconst 0, 1) := by decide +kernel
theorem dX9_come_1 : decode cX9_come 1 = .ok (.istore_n 1, 1) := by decide +kernel
theorem dX9_come_2 : decode cX9_come 2 = .ok (.iload_n 1, 1) := by decide +kernel
theorem dX9_come_3 : decode cX9_come 3 = .ok (.aload_n 0, 1) := by decide +kernel
theorem dX9_come_4 : decode cX9_come 4 = .ok (.getfield 208, 3) := by decide +kernel
theorem dX9_come_7 : decode cX9_come 7 = .ok (.if_icmp .ge 95, 3) := by decide +kernel
theorem dX9_come_10 : decode cX9_come 10 = .ok (.aload_n 0, 1) := by decide +kernel
theorem dX9_come_11 : decode cX9_come 11 = .ok (.getfield 70, 3) := by decide +kernel
theorem dX9_come_14 : decode cX9_come 14 = .ok (.iload_n 1, 1) := by decide +kernel
theorem dX9_come_15 : decode cX9_come 15 = .ok (.iaload, 1) := by decide +kernel
theorem dX9_come_16 : decode cX9_come 16 = .ok (.ifCond .eq 13, 3) := by decide +kernel
theorem dX9_come_19 : decode cX9_come 19 = .ok (.aload_n 0, 1) := by decide +kernel
theorem dX9_come_20 : decode cX9_come 20 = .ok (.getfield 70, 3) := by decide +kernel
theorem dX9_come_23 : decode cX9_come 23 = .ok (.iload_n 1, 1) := by decide +kernel
theorem dX9_come_24 : decode cX9_come 24 = .ok (.iaload, 1) := by decide +kernel
theorem dX9_come_25 : decode cX9_come 25 = .ok (.iconst 2, 1) := by decide +kernel
theorem dX9_come_26 : decode cX9_come 26 = .ok (.if_icmp .ne 70, 3) := by decide +kernel
theorem dX9_come_29 : decode cX9_come 29 = .ok (.aload_n 0, 1) := by decide +kernel
theorem dX9_come_30 : decode cX9_come 30 = .ok (.getfield 76, 3) := by decide +kernel
theorem dX9_come_33 : decode cX9_come 33 = .ok (.iload_n 1, 1) := by decide +kernel
theorem dX9_come_34 : decode cX9_come 34 = .ok (.iaload, 1) := by decide +kernel
theorem dX9_come_35 : decode cX9_come 35 = .ok (.aload_n 0, 1) := by decide +kernel
theorem dX9_come_36 : decode cX9_come 36 = .ok (.getfield 122, 3) := by decide +kernel
theorem dX9_come_39 : decode cX9_come 39 = .ok (.if_icmp .eq 6, 3) := by decide +kernel
theorem dX9_come_42 : decode cX9_come 42 = .ok (.goto 54, 3) := by decide +kernel
theorem dX9_come_45 : decode cX9_come 45 = .ok (.aload_n 0, 1) := by decide +kernel
theorem dX9_come_46 : decode cX9_come 46 = .ok (.getfield 73, 3) := by decide +kernel
theorem dX9_come_49 : decode cX9_come 49 = .ok (.iload_n 1, 1) := by decide +kernel
theorem dX9_come_50 : decode cX9_come 50 = .ok (.aload_n 0, 1) := by decide +kernel
theorem dX9_come_51 : decode cX9_come 51 = .ok (.getfield 70, 3) := by decide +kernel
theorem dX9_come_54 : decode cX9_come 54 = .ok (.iload_n 1, 1) := by decide +kernel
theorem dX9_come_55 : decode cX9_come 55 = .ok (.iaload, 1) := by decide +kernel
theorem dX9_come_56 : decode cX9_come 56 = .ok (.ifCond .ne 16, 3) := by decide +kernel
theorem dX9_come_59 : decode cX9_come 59 = .ok (.aload_n 0, 1) := by decide +kernel
theorem dX9_come_60 : decode cX9_come 60 = .ok (.aload_n 0, 1) := by decide +kernel
theorem dX9_come_61 : decode cX9_come 61 = .ok (.getfield 91, 3) := by decide +kernel
theorem dX9_come_64 : decode cX9_come 64 = .ok (.iload_n 1, 1) := by decide +kernel
theorem dX9_come_65 : decode cX9_come 65 = .ok (.baload, 1) := by decide +kernel
theorem dX9_come_66 : decode cX9_come 66 = .ok (.invokevirtual 211, 3) := by decide +kernel
theorem dX9_come_69 : decode cX9_come 69 = .ok (.goto 9, 3) := by decide +kernel
theorem dX9_come_72 : decode cX9_come 72 = .ok (.aload_n 0, 1) := by decide +kernel
theorem dX9_come_73 : decode cX9_come 73 = .ok (.getfield 73, 3) := by decide +kernel
theorem dX9_come_76 : decode cX9_come 76 = .ok (.iload_n 1, 1) := by decide +kernel
theorem dX9_come_77 : decode cX9_come 77 = .ok (.iaload, 1) := by decide +kernel
theorem dX9_come_78 : decode cX9_come 78 = .ok (.iastore, 1) := by decide +kernel
theorem dX9_come_79 : decode cX9_come 79 = .ok (.aload_n 0, 1) := by decide +kernel
theorem dX9_come_80 : decode cX9_come 80 = .ok (.getfield 70, 3) := by decide +kernel
theorem dX9_come_83 : decode cX9_come 83 = .ok (.iload_n 1, 1) := by decide +kernel
theorem dX9_come_84 : decode cX9_come 84 = .ok (.iconst 1, 1) := by decide +kernel
theorem dX9_come_85 : decode cX9_come 85 = .ok (.iastore, 1) := by decide +kernel
theorem dX9_come_86 : decode cX9_come 86 = .ok (.aload_n 0, 1) := by decide +kernel
theorem dX9_come_87 : decode cX9_come 87 = .ok (.getfield 79, 3) := by decide +kernel
theorem dX9_come_90 : decode cX9_come 90 = .ok (.iload_n 1, 1) := by decide +kernel
theorem dX9_come_91 : decode cX9_come 91 = .ok (.aload_n 0, 1) := by decide +kernel
theorem dX9_come_92 : decode cX9_come 92 = .ok (.getfield 122, 3) := by decide +kernel
theorem dX9_come_95 : decode cX9_come 95 = .ok (.iastore, 1) := by decide +kernel
theorem dX9_come_96 : decode cX9_come 96 = .ok (.iinc 1 1, 3) := by decide +kernel
theorem dX9_come_99 : decode cX9_come 99 = .ok (.goto (-97), 3) := by decide +kernel
theorem dX9_come_102 : decode cX9_come 102 = .ok (.iconst 0, 1) := by decide +kernel
theorem dX9_come_103 : decode cX9_come 103 = .ok (.istore_n 1, 1) := by decide +kernel
theorem dX9_come_104 : decode cX9_come 104 = .ok (.iload_n 1, 1) := by decide +kernel
theorem dX9_come_105 : decode cX9_come 105 = .ok (.aload_n 0, 1) := by decide +kernel
theorem dX9_come_106 : decode cX9_come 106 = .ok (.getfield 215, 3) := by decide +kernel
theorem dX9_come_109 : decode cX9_come 109 = .ok (.if_icmp .ge 51, 3) := by decide +kernel
theorem dX9_come_112 : decode cX9_come 112 = .ok (.aload_n 0, 1) := by decide +kernel
theorem dX9_come_113 : decode cX9_come 113 = .ok (.getfield 100, 3) := by decide +kernel
theorem dX9_come_116 : decode cX9_come 116 = .ok (.iload_n 1, 1) := by decide +kernel
theorem dX9_come_117 : decode cX9_come 117 = .ok (.iaload, 1) := by decide +kernel
theorem dX9_come_118 : decode cX9_come 118 = .ok (.aload_n 0, 1) := by decide +kernel
theorem dX9_come_119 : decode cX9_come 119 = .ok (.getfield 122, 3) := by decide +kernel
theorem dX9_come_122 : decode cX9_come 122 = .ok (.if_icmp .eq 6, 3) := by decide +kernel
theorem dX9_come_125 : decode cX9_come 125 = .ok (.goto 29, 3) := by decide +kernel
theorem dX9_come_128 : decode cX9_come 128 = .ok (.aload_n 0, 1) := by decide +kernel
theorem dX9_come_129 : decode cX9_come 129 = .ok (.getfield 94, 3) := by decide +kernel
theorem dX9_come_132 : decode cX9_come 132 = .ok (.iload_n 1, 1) := by decide +kernel
theorem dX9_come_133 : decode cX9_come 133 = .ok (.aload_n 0, 1) := by decide +kernel
theorem dX9_come_134 : decode cX9_come 134 = .ok (.getfield 97, 3) := by decide +kernel
theorem dX9_come_137 : decode cX9_come 137 = .ok (.iload_n 1, 1) := by decide +kernel
theorem dX9_come_138 : decode cX9_come 138 = .ok (.iaload, 1) := by decide +kernel
theorem dX9_come_139 : decode cX9_come 139 = .ok (.iastore, 1) := by decide +kernel
theorem dX9_come_140 : decode cX9_come 140 = .ok (.aload_n 0, 1) := by decide +kernel
theorem dX9_come_141 : decode cX9_come 141 = .ok (.getfield 97, 3) := by decide +kernel
theorem dX9_come_144 : decode cX9_come 144 = .ok (.iload_n 1, 1) := by decide +kernel
theorem dX9_come_145 : decode cX9_come 145 = .ok (.iconst (-1), 1) := by decide +kernel
theorem dX9_come_146 : decode cX9_come 146 = .ok (.iastore, 1) := by decide +kernel
theorem dX9_come_147 : decode cX9_come 147 = .ok (.aload_n 0, 1) := by decide +kernel
theorem dX9_come_148 : decode cX9_come 148 = .ok (.getfield 100, 3) := by decide +kernel
theorem dX9_come_151 : decode cX9_come 151 = .ok (.iload_n 1, 1) := by decide +kernel
theorem dX9_come_152 : decode cX9_come 152 = .ok (.iconst (-1), 1) := by decide +kernel
theorem dX9_come_153 : decode cX9_come 153 = .ok (.iastore, 1) := by decide +kernel
theorem dX9_come_154 : decode cX9_come 154 = .ok (.iinc 1 1, 3) := by decide +kernel
theorem dX9_come_157 : decode cX9_come 157 = .ok (.goto (-53), 3) := by decide +kernel
theorem dX9_come_160 : decode cX9_come 160 = .ok (.iconst 0, 1) := by decide +kernel
theorem dX9_come_161 : decode cX9_come 161 = .ok (.istore_n 1, 1) := by decide +kernel
theorem dX9_come_162 : decode cX9_come 162 = .ok (.iload_n 1, 1) := by decide +kernel
theorem dX9_come_163 : decode cX9_come 163 = .ok (.aload_n 0, 1) := by decide +kernel
theorem dX9_come_164 : decode cX9_come 164 = .ok (.getfield 119, 3) := by decide +kernel
theorem dX9_come_167 : decode cX9_come 167 = .ok (.if_icmp .ge 53, 3) := by decide +kernel
theorem dX9_come_170 : decode cX9_come 170 = .ok (.aload_n 0, 1) := by decide +kernel
theorem dX9_come_171 : decode cX9_come 171 = .ok (.getfield 35, 3) := by decide +kernel
theorem dX9_come_174 : decode cX9_come 174 = .ok (.iload_n 1, 1) := by decide +kernel
theorem dX9_come_175 : decode cX9_come 175 = .ok (.iaload, 1) := by decide +kernel
theorem dX9_come_176 : decode cX9_come 176 = .ok (.aload_n 0, 1) := by decide +kernel
theorem dX9_come_177 : decode cX9_come 177 = .ok (.getfield 122, 3) := by decide +kernel
theorem dX9_come_180 : decode cX9_come 180 = .ok (.if_icmp .eq 6, 3) := by decide +kernel
theorem dX9_come_183 : decode cX9_come 183 = .ok (.goto 31, 3) := by decide +kernel
theorem dX9_come_186 : decode cX9_come 186 = .ok (.aload_n 0, 1) := by decide +kernel
theorem dX9_come_187 : decode cX9_come 187 = .ok (.getfield 32, 3) := by decide +kernel
theorem dX9_come_190 : decode cX9_come 190 = .ok (.iload_n 1, 1) := by decide +kernel
theorem dX9_come_191 : decode cX9_come 191 = .ok (.aload_n 0, 1) := by decide +kernel
theorem dX9_come_192 : decode cX9_come 192 = .ok (.getfield 32, 3) := by decide +kernel
theorem dX9_come_195 : decode cX9_come 195 = .ok (.iload_n 1, 1) := by decide +kernel
theorem dX9_come_196 : decode cX9_come 196 = .ok (.iaload, 1) := by decide +kernel
theorem dX9_come_197 : decode cX9_come 197 = .ok (.iconst 1, 1) := by decide +kernel
theorem dX9_come_198 : decode cX9_come 198 = .ok (.if_icmp .ne 7, 3) := by decide +kernel
theorem dX9_come_201 : decode cX9_come 201 = .ok (.iconst 2, 1) := by decide +kernel
theorem dX9_come_202 : decode cX9_come 202 = .ok (.goto 4, 3) := by decide +kernel
theorem dX9_come_205 : decode cX9_come 205 = .ok (.iconst 0, 1) := by decide +kernel
theorem dX9_come_206 : decode cX9_come 206 = .ok (.iastore, 1) := by decide +kernel
theorem dX9_come_207 : decode cX9_come 207 = .ok (.aload_n 0, 1) := by decide +kernel
theorem dX9_come_208 : decode cX9_come 208 = .ok (.getfield 35, 3) := by decide +kernel
theorem dX9_come_211 : decode cX9_come 211 = .ok (.iload_n 1, 1) := by decide +kernel
theorem dX9_come_212 : decode cX9_come 212 = .ok (.iconst (-1), 1) := by decide +kernel
theorem dX9_come_213 : decode cX9_come 213 = .ok (.iastore, 1) := by decide +kernel
theorem dX9_come_214 : decode cX9_come 214 = .ok (.iinc 1 1, 3) := by decide +kernel
theorem dX9_come_217 : decode cX9_come 217 = .ok (.goto (-55), 3) := by decide +kernel
theorem dX9_come_220 : decode cX9_come 220 = .ok (.return_, 1) := by decide +kernel
set_option maxRecDepth 20000 in
theorem ggX9_about_X9_isBridge : GoodIn wsX9_about wsX9_isBridge := goodIn_r _ [14, 15, 16, 17, 18, 19, 20, 21, 22, 23, 24, 25, 26, 27, 28, 29, 30, 31, 32, 33, 34, 35, 36, 37, 38, 39, 40, 41, 42, 43, 44, 45, 46, 47, 48, 49, 50, 51, 52, 53, 54, 55, 56, 57, 58, 59, 60] (by decide +kernel) (by decide +kernel)
set_option maxRecDepth 20000 in
theorem gX9_about_X9_isBridge : GoodIn wsX9_about (wsV RX9 202 RX9 yX9_isBridge wsX9_isBridge) := goodIn_app (goodIn_of _ (by decide +kernel)) ggX9_about_X9_isBridge
theorem dX9_about_0 : decode cX9_about 0 = .ok (.aload_n 0, 1) := by decide +kernel
theorem dX9_about_1 : decode cX9_about 1 = .ok (.iconst 0, 1) := by decide +kernel
theorem dX9_about_2 : decode cX9_about 2 = .ok (.putfield 103, 3) := by decide +kernel
theorem dX9_about_5 : decode cX9_about 5 = .ok (.aload_n 0, 1) := by decide +kernel
theorem dX9_about_6 : decode cX9_about 6 = .ok (.iload_n 1, 1) := by decide +kernel
theorem dX9_about_7 : decode cX9_about 7 = .ok (.invokevirtual 202, 3) := by decide +kernel
theorem dX9_about_10 : decode cX9_about 10 = .ok (.ifCond .ne 5, 3) := by decide +kernel
theorem dX9_about_13 : decode cX9_about 13 = .ok (.iconst (-1), 1) := by decide +kernel
theorem dX9_about_14 : decode cX9_about 14 = .ok (.ireturn, 1) := by decide +kernel
theorem dX9_about_15 : decode cX9_about 15 = .ok (.iconst 0, 1) := by decide +kernel
theorem dX9_about_16 : decode cX9_about 16 = .ok (.istore_n 3, 1) := by decide +kernel
theorem dX9_about_17 : decode cX9_about 17 = .ok (.iload_n 2, 1) := by decide +kernel
theorem dX9_about_18 : decode cX9_about 18 = .ok (.tableswitch 123 0 5 #[38, 45, 52, 102, 109, 116], 38) := by decide +kernel
theorem dX9_about_56 : decode cX9_about 56 = .ok (.aload_n 0, 1) := by decide +kernel
theorem dX9_about_57 : decode cX9_about 57 = .ok (.getfield 32, 3) := by decide +kernel
theorem dX9_about_60 : decode cX9_about 60 = .ok (.iload_n 1, 1) := by decide +kernel
theorem dX9_about_61 : decode cX9_about 61 = .ok (.iaload, 1) := by decide +kernel
theorem dX9_about_62 : decode cX9_about 62 = .ok (.ireturn, 1) := by decide +kernel
theorem dX9_about_63 : decode cX9_about 63 = .ok (.aload_n 0, 1) := by decide +kernel
theorem dX9_about_64 : decode cX9_about 64 = .ok (.getfield 35, 3) := by decide +kernel
theorem dX9_about_67 : decode cX9_about 67 = .ok (.iload_n 1, 1) := by decide +kernel
theorem dX9_about_68 : decode cX9_about 68 = .ok (.iaload, 1) := by decide +kernel
theorem dX9_about_69 : decode cX9_about 69 = .ok (.ireturn, 1) := by decide +kernel
theorem dX9_about_70 : decode cX9_about 70 = .ok (.iconst 0, 1) := by decide +kernel
theorem dX9_about_71 : decode cX9_about 71 = .ok (.istore 4, 2) := by decide +kernel
theorem dX9_about_73 : decode cX9_about 73 = .ok (.iload 4, 2) := by decide +kernel
theorem dX9_about_75 : decode cX9_about 75 = .ok (.aload_n 0, 1) := by decide +kernel
theorem dX9_about_76 : decode cX9_about 76 = .ok (.getfield 208, 3) := by decide +kernel
theorem dX9_about_79 : decode cX9_about 79 = .ok (.if_icmp .ge 39, 3) := by decide +kernel
theorem dX9_about_82 : decode cX9_about 82 = .ok (.iload_n 3, 1) := by decide +kernel
theorem dX9_about_83 : decode cX9_about 83 = .ok (.aload_n 0, 1) := by decide +kernel
theorem dX9_about_84 : decode cX9_about 84 = .ok (.getfield 70, 3) := by decide +kernel
theorem dX9_about_87 : decode cX9_about 87 = .ok (.iload 4, 2) := by decide +kernel
theorem dX9_about_89 : decode cX9_about 89 = .ok (.iaload, 1) := by decide +kernel
theorem dX9_about_90 : decode cX9_about 90 = .ok (.iconst 1, 1) := by decide +kernel
theorem dX9_about_91 : decode cX9_about 91 = .ok (.if_icmp .ne 18, 3) := by decide +kernel
theorem dX9_about_94 : decode cX9_about 94 = .ok (.aload_n 0, 1) := by decide +kernel
theorem dX9_about_95 : decode cX9_about 95 = .ok (.getfield 73, 3) := by decide +kernel
theorem dX9_about_98 : decode cX9_about 98 = .ok (.iload 4, 2) := by decide +kernel
theorem dX9_about_100 : decode cX9_about 100 = .ok (.iaload, 1) := by decide +kernel
theorem dX9_about_101 : decode cX9_about 101 = .ok (.iload_n 1, 1) := by decide +kernel
