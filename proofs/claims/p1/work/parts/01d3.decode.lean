theorem dX9_about_102 : decode cX9_about 102 = .ok (.if_icmp .ne 7, 3) := by decide +kernel
theorem dX9_about_105 : decode cX9_about 105 = .ok (.iconst 1, 1) := by decide +kernel
theorem dX9_about_106 : decode cX9_about 106 = .ok (.goto 4, 3) := by decide +kernel
theorem dX9_about_109 : decode cX9_about 109 = .ok (.iconst 0, 1) := by decide +kernel
theorem dX9_about_110 : decode cX9_about 110 = .ok (.iadd, 1) := by decide +kernel
theorem dX9_about_111 : decode cX9_about 111 = .ok (.istore_n 3, 1) := by decide +kernel
theorem dX9_about_112 : decode cX9_about 112 = .ok (.iinc 4 1, 3) := by decide +kernel
theorem dX9_about_115 : decode cX9_about 115 = .ok (.goto (-42), 3) := by decide +kernel
theorem dX9_about_118 : decode cX9_about 118 = .ok (.iload_n 3, 1) := by decide +kernel
theorem dX9_about_119 : decode cX9_about 119 = .ok (.ireturn, 1) := by decide +kernel
theorem dX9_about_120 : decode cX9_about 120 = .ok (.aload_n 0, 1) := by decide +kernel
theorem dX9_about_121 : decode cX9_about 121 = .ok (.getfield 38, 3) := by decide +kernel
theorem dX9_about_124 : decode cX9_about 124 = .ok (.iload_n 1, 1) := by decide +kernel
theorem dX9_about_125 : decode cX9_about 125 = .ok (.iaload, 1) := by decide +kernel
theorem dX9_about_126 : decode cX9_about 126 = .ok (.ireturn, 1) := by decide +kernel
theorem dX9_about_127 : decode cX9_about 127 = .ok (.aload_n 0, 1) := by decide +kernel
theorem dX9_about_128 : decode cX9_about 128 = .ok (.getfield 41, 3) := by decide +kernel
theorem dX9_about_131 : decode cX9_about 131 = .ok (.iload_n 1, 1) := by decide +kernel
theorem dX9_about_132 : decode cX9_about 132 = .ok (.iaload, 1) := by decide +kernel
theorem dX9_about_133 : decode cX9_about 133 = .ok (.ireturn, 1) := by decide +kernel
theorem dX9_about_134 : decode cX9_about 134 = .ok (.aload_n 0, 1) := by decide +kernel
theorem dX9_about_135 : decode cX9_about 135 = .ok (.getfield 44, 3) := by decide +kernel
theorem dX9_about_138 : decode cX9_about 138 = .ok (.iload_n 1, 1) := by decide +kernel
theorem dX9_about_139 : decode cX9_about 139 = .ok (.iaload, 1) := by decide +kernel
theorem dX9_about_140 : decode cX9_about 140 = .ok (.ireturn, 1) := by decide +kernel
theorem dX9_about_141 : decode cX9_about 141 = .ok (.iconst (-1), 1) := by decide +kernel
theorem dX9_about_142 : decode cX9_about 142 = .ok (.ireturn, 1) := by decide +kernel
set_option maxRecDepth 20000 in
theorem ggX9_told_X9_isShip : GoodIn wsX9_told wsX9_isShip := goodIn_r _ [10, 11, 22, 23, 24, 25, 26, 27, 28, 29, 30, 31, 32, 33, 34, 35, 36, 37, 38, 39, 40, 41, 42, 43, 44, 45, 46, 47, 48, 49, 50, 51, 52, 53, 54, 55, 56, 57, 58, 59, 60, 61, 62, 63, 64, 65, 66] (by decide +kernel) (by decide +kernel)
set_option maxRecDepth 20000 in
theorem gX9_told_X9_isShip : GoodIn wsX9_told (wsV RX9 247 RX9 yX9_isShip wsX9_isShip) := goodIn_app (goodIn_of _ (by decide +kernel)) ggX9_told_X9_isShip
set_option maxRecDepth 20000 in
theorem ggX9_told_X9_throwsIf : GoodIn wsX9_told wsX9_throwsIf := goodIn_r _ [15, 16, 22, 23, 24, 25, 26, 27, 28, 29, 30, 31, 32, 33, 34, 35, 36, 37, 38, 39, 40, 41, 42, 43, 44, 45, 46, 47, 48, 49, 50, 51, 52, 53, 54, 55, 56, 57, 58, 59, 60, 61, 62, 63, 64, 65, 66] (by decide +kernel) (by decide +kernel)
set_option maxRecDepth 20000 in
theorem gX9_told_X9_throwsIf : GoodIn wsX9_told (wsV RX9 250 RX9 yX9_throwsIf wsX9_throwsIf) := goodIn_app (goodIn_of _ (by decide +kernel)) ggX9_told_X9_throwsIf
set_option maxRecDepth 20000 in
theorem ggX9_told_X9_first : GoodIn wsX9_told wsX9_first := goodIn_r _ [20, 21, 22, 23, 24, 25, 26, 27, 28, 29, 30, 31, 32, 33, 34, 35, 36, 37, 38, 39, 40, 41, 42, 43, 44, 45, 46, 47, 48, 49, 50, 51, 52, 53, 54, 55, 56, 57, 58, 59, 60, 61, 62, 63, 64, 65, 66] (by decide +kernel) (by decide +kernel)
set_option maxRecDepth 20000 in
theorem gX9_told_X9_first : GoodIn wsX9_told (wsV RX9 211 RX9 yX9_first wsX9_first) := goodIn_app (goodIn_of _ (by decide +kernel)) ggX9_told_X9_first
theorem dX9_told_0 : decode cX9_told 0 = .ok (.aload_n 0, 1) := by decide +kernel
theorem dX9_told_1 : decode cX9_told 1 = .ok (.aload_n 0, 1) := by decide +kernel
theorem dX9_told_2 : decode cX9_told 2 = .ok (.iload_n 1, 1) := by decide +kernel
theorem dX9_told_3 : decode cX9_told 3 = .ok (.invokevirtual 247, 3) := by decide +kernel
theorem dX9_told_6 : decode cX9_told 6 = .ok (.ifCond .eq 12, 3) := by decide +kernel
theorem dX9_told_9 : decode cX9_told 9 = .ok (.iload_n 2, 1) := by decide +kernel
theorem dX9_told_10 : decode cX9_told 10 = .ok (.ifCond .lt 8, 3) := by decide +kernel
theorem dX9_told_13 : decode cX9_told 13 = .ok (.iload_n 2, 1) := by decide +kernel
theorem dX9_told_14 : decode cX9_told 14 = .ok (.iconst 3, 1) := by decide +kernel
theorem dX9_told_15 : decode cX9_told 15 = .ok (.if_icmp .le 7, 3) := by decide +kernel
theorem dX9_told_18 : decode cX9_told 18 = .ok (.iconst 1, 1) := by decide +kernel
theorem dX9_told_19 : decode cX9_told 19 = .ok (.goto 4, 3) := by decide +kernel
theorem dX9_told_22 : decode cX9_told 22 = .ok (.iconst 0, 1) := by decide +kernel
theorem dX9_told_23 : decode cX9_told 23 = .ok (.invokevirtual 250, 3) := by decide +kernel
theorem dX9_told_26 : decode cX9_told 26 = .ok (.ifCond .eq 5, 3) := by decide +kernel
theorem dX9_told_29 : decode cX9_told 29 = .ok (.iconst 0, 1) := by decide +kernel
theorem dX9_told_30 : decode cX9_told 30 = .ok (.ireturn, 1) := by decide +kernel
theorem dX9_told_31 : decode cX9_told 31 = .ok (.iload_n 2, 1) := by decide +kernel
theorem dX9_told_32 : decode cX9_told 32 = .ok (.ifCond .ne 10, 3) := by decide +kernel
theorem dX9_told_35 : decode cX9_told 35 = .ok (.aload_n 0, 1) := by decide +kernel
theorem dX9_told_36 : decode cX9_told 36 = .ok (.getfield 70, 3) := by decide +kernel
theorem dX9_told_39 : decode cX9_told 39 = .ok (.iload_n 1, 1) := by decide +kernel
theorem dX9_told_40 : decode cX9_told 40 = .ok (.iaload, 1) := by decide +kernel
theorem dX9_told_41 : decode cX9_told 41 = .ok (.ireturn, 1) := by decide +kernel
theorem dX9_told_42 : decode cX9_told 42 = .ok (.iload_n 2, 1) := by decide +kernel
theorem dX9_told_43 : decode cX9_told 43 = .ok (.iconst 1, 1) := by decide +kernel
theorem dX9_told_44 : decode cX9_told 44 = .ok (.if_icmp .ne 46, 3) := by decide +kernel
theorem dX9_told_47 : decode cX9_told 47 = .ok (.aload_n 0, 1) := by decide +kernel
theorem dX9_told_48 : decode cX9_told 48 = .ok (.getfield 70, 3) := by decide +kernel
theorem dX9_told_51 : decode cX9_told 51 = .ok (.iload_n 1, 1) := by decide +kernel
theorem dX9_told_52 : decode cX9_told 52 = .ok (.iaload, 1) := by decide +kernel
theorem dX9_told_53 : decode cX9_told 53 = .ok (.iconst 3, 1) := by decide +kernel
theorem dX9_told_54 : decode cX9_told 54 = .ok (.if_icmp .ne 7, 3) := by decide +kernel
theorem dX9_told_57 : decode cX9_told 57 = .ok (.iconst (-1), 1) := by decide +kernel
theorem dX9_told_58 : decode cX9_told 58 = .ok (.goto 31, 3) := by decide +kernel
theorem dX9_told_61 : decode cX9_told 61 = .ok (.aload_n 0, 1) := by decide +kernel
theorem dX9_told_62 : decode cX9_told 62 = .ok (.getfield 70, 3) := by decide +kernel
theorem dX9_told_65 : decode cX9_told 65 = .ok (.iload_n 1, 1) := by decide +kernel
theorem dX9_told_66 : decode cX9_told 66 = .ok (.iaload, 1) := by decide +kernel
theorem dX9_told_67 : decode cX9_told 67 = .ok (.ifCond .ne 16, 3) := by decide +kernel
theorem dX9_told_70 : decode cX9_told 70 = .ok (.aload_n 0, 1) := by decide +kernel
theorem dX9_told_71 : decode cX9_told 71 = .ok (.aload_n 0, 1) := by decide +kernel
theorem dX9_told_72 : decode cX9_told 72 = .ok (.getfield 91, 3) := by decide +kernel
theorem dX9_told_75 : decode cX9_told 75 = .ok (.iload_n 1, 1) := by decide +kernel
theorem dX9_told_76 : decode cX9_told 76 = .ok (.baload, 1) := by decide +kernel
theorem dX9_told_77 : decode cX9_told 77 = .ok (.invokevirtual 211, 3) := by decide +kernel
theorem dX9_told_80 : decode cX9_told 80 = .ok (.goto 9, 3) := by decide +kernel
theorem dX9_told_83 : decode cX9_told 83 = .ok (.aload_n 0, 1) := by decide +kernel
theorem dX9_told_84 : decode cX9_told 84 = .ok (.getfield 73, 3) := by decide +kernel
theorem dX9_told_87 : decode cX9_told 87 = .ok (.iload_n 1, 1) := by decide +kernel
theorem dX9_told_88 : decode cX9_told 88 = .ok (.iaload, 1) := by decide +kernel
theorem dX9_told_89 : decode cX9_told 89 = .ok (.ireturn, 1) := by decide +kernel
theorem dX9_told_90 : decode cX9_told 90 = .ok (.iload_n 2, 1) := by decide +kernel
theorem dX9_told_91 : decode cX9_told 91 = .ok (.iconst 2, 1) := by decide +kernel
theorem dX9_told_92 : decode cX9_told 92 = .ok (.if_icmp .ne 12, 3) := by decide +kernel
theorem dX9_told_95 : decode cX9_told 95 = .ok (.aload_n 0, 1) := by decide +kernel
theorem dX9_told_96 : decode cX9_told 96 = .ok (.getfield 82, 3) := by decide +kernel
theorem dX9_told_99 : decode cX9_told 99 = .ok (.iload_n 1, 1) := by decide +kernel
theorem dX9_told_100 : decode cX9_told 100 = .ok (.iaload, 1) := by decide +kernel
theorem dX9_told_101 : decode cX9_told 101 = .ok (.goto 9, 3) := by decide +kernel
theorem dX9_told_104 : decode cX9_told 104 = .ok (.aload_n 0, 1) := by decide +kernel
theorem dX9_told_105 : decode cX9_told 105 = .ok (.getfield 85, 3) := by decide +kernel
theorem dX9_told_108 : decode cX9_told 108 = .ok (.iload_n 1, 1) := by decide +kernel
theorem dX9_told_109 : decode cX9_told 109 = .ok (.iaload, 1) := by decide +kernel
theorem dX9_told_110 : decode cX9_told 110 = .ok (.ireturn, 1) := by decide +kernel
set_option maxRecDepth 20000 in
theorem ggX9_through_X9_isShip : GoodIn wsX9_through wsX9_isShip := goodIn_r _ [7, 8, 14, 15, 16, 17, 18, 19, 20, 21, 22, 23, 24, 25, 26, 27, 28, 29, 30, 31, 32, 33, 34, 35, 36, 37, 38, 39, 40, 41, 42, 43, 44, 45, 46, 47, 48, 49, 50, 51, 52, 53, 54, 55, 56, 57, 58] (by decide +kernel) (by decide +kernel)
set_option maxRecDepth 20000 in
theorem gX9_through_X9_isShip : GoodIn wsX9_through (wsV RX9 247 RX9 yX9_isShip wsX9_isShip) := goodIn_app (goodIn_of _ (by decide +kernel)) ggX9_through_X9_isShip
set_option maxRecDepth 20000 in
theorem ggX9_through_X9_isBridge : GoodIn wsX9_through wsX9_isBridge := goodIn_r _ [12, 13, 14, 15, 16, 17, 18, 19, 20, 21, 22, 23, 24, 25, 26, 27, 28, 29, 30, 31, 32, 33, 34, 35, 36, 37, 38, 39, 40, 41, 42, 43, 44, 45, 46, 47, 48, 49, 50, 51, 52, 53, 54, 55, 56, 57, 58] (by decide +kernel) (by decide +kernel)
set_option maxRecDepth 20000 in
theorem gX9_through_X9_isBridge : GoodIn wsX9_through (wsV RX9 202 RX9 yX9_isBridge wsX9_isBridge) := goodIn_app (goodIn_of _ (by decide +kernel)) ggX9_through_X9_isBridge
theorem dX9_through_0 : decode cX9_through 0 = .ok (.aload_n 0, 1) := by decide +kernel
theorem dX9_through_1 : decode cX9_through 1 = .ok (.iconst 0, 1) := by decide +kernel
theorem dX9_through_2 : decode cX9_through 2 = .ok (.putfield 103, 3) := by decide +kernel
theorem dX9_through_5 : decode cX9_through 5 = .ok (.aload_n 0, 1) := by decide +kernel
theorem dX9_through_6 : decode cX9_through 6 = .ok (.iload_n 1, 1) := by decide +kernel
theorem dX9_through_7 : decode cX9_through 7 = .ok (.invokevirtual 247, 3) := by decide +kernel
theorem dX9_through_10 : decode cX9_through 10 = .ok (.ifCond .eq 25, 3) := by decide +kernel
theorem dX9_through_13 : decode cX9_through 13 = .ok (.aload_n 0, 1) := by decide +kernel
theorem dX9_through_14 : decode cX9_through 14 = .ok (.iload_n 2, 1) := by decide +kernel
theorem dX9_through_15 : decode cX9_through 15 = .ok (.invokevirtual 202, 3) := by decide +kernel
theorem dX9_through_18 : decode cX9_through 18 = .ok (.ifCond .eq 17, 3) := by decide +kernel
theorem dX9_through_21 : decode cX9_through 21 = .ok (.aload_n 0, 1) := by decide +kernel
theorem dX9_through_22 : decode cX9_through 22 = .ok (.getfield 88, 3) := by decide +kernel
theorem dX9_through_25 : decode cX9_through 25 = .ok (.bipush 8, 2) := by decide +kernel
theorem dX9_through_27 : decode cX9_through 27 = .ok (.iload_n 1, 1) := by decide +kernel
theorem dX9_through_28 : decode cX9_through 28 = .ok (.imul, 1) := by decide +kernel
theorem dX9_through_29 : decode cX9_through 29 = .ok (.iload_n 2, 1) := by decide +kernel
theorem dX9_through_30 : decode cX9_through 30 = .ok (.iadd, 1) := by decide +kernel
theorem dX9_through_31 : decode cX9_through 31 = .ok (.iaload, 1) := by decide +kernel
theorem dX9_through_32 : decode cX9_through 32 = .ok (.goto 4, 3) := by decide +kernel
theorem dX9_through_35 : decode cX9_through 35 = .ok (.iconst (-1), 1) := by decide +kernel
theorem dX9_through_36 : decode cX9_through 36 = .ok (.ireturn, 1) := by decide +kernel
theorem dX9_keeps_0 : decode cX9_keeps 0 = .ok (.aload_n 0, 1) := by decide +kernel
theorem dX9_keeps_1 : decode cX9_keeps 1 = .ok (.iconst 0, 1) := by decide +kernel
theorem dX9_keeps_2 : decode cX9_keeps 2 = .ok (.putfield 103, 3) := by decide +kernel
theorem dX9_keeps_5 : decode cX9_keeps 5 = .ok (.iload_n 1, 1) := by decide +kernel
theorem dX9_keeps_6 : decode cX9_keeps 6 = .ok (.ifCond .lt 11, 3) := by decide +kernel
theorem dX9_keeps_9 : decode cX9_keeps 9 = .ok (.iload_n 1, 1) := by decide +kernel
theorem dX9_keeps_10 : decode cX9_keeps 10 = .ok (.aload_n 0, 1) := by decide +kernel
theorem dX9_keeps_11 : decode cX9_keeps 11 = .ok (.getfield 215, 3) := by decide +kernel
theorem dX9_keeps_14 : decode cX9_keeps 14 = .ok (.if_icmp .lt 5, 3) := by decide +kernel
theorem dX9_keeps_17 : decode cX9_keeps 17 = .ok (.iconst (-1), 1) := by decide +kernel
theorem dX9_keeps_18 : decode cX9_keeps 18 = .ok (.ireturn, 1) := by decide +kernel
theorem dX9_keeps_19 : decode cX9_keeps 19 = .ok (.iload_n 2, 1) := by decide +kernel
theorem dX9_keeps_20 : decode cX9_keeps 20 = .ok (.ifCond .ne 12, 3) := by decide +kernel
theorem dX9_keeps_23 : decode cX9_keeps 23 = .ok (.aload_n 0, 1) := by decide +kernel
theorem dX9_keeps_24 : decode cX9_keeps 24 = .ok (.getfield 94, 3) := by decide +kernel
theorem dX9_keeps_27 : decode cX9_keeps 27 = .ok (.iload_n 1, 1) := by decide +kernel
theorem dX9_keeps_28 : decode cX9_keeps 28 = .ok (.iaload, 1) := by decide +kernel
theorem dX9_keeps_29 : decode cX9_keeps 29 = .ok (.goto 32, 3) := by decide +kernel
theorem dX9_keeps_32 : decode cX9_keeps 32 = .ok (.iload_n 2, 1) := by decide +kernel
theorem dX9_keeps_33 : decode cX9_keeps 33 = .ok (.iconst 1, 1) := by decide +kernel
theorem dX9_keeps_34 : decode cX9_keeps 34 = .ok (.if_icmp .ne 12, 3) := by decide +kernel
theorem dX9_keeps_37 : decode cX9_keeps 37 = .ok (.aload_n 0, 1) := by decide +kernel
theorem dX9_keeps_38 : decode cX9_keeps 38 = .ok (.getfield 97, 3) := by decide +kernel
theorem dX9_keeps_41 : decode cX9_keeps 41 = .ok (.iload_n 1, 1) := by decide +kernel
theorem dX9_keeps_42 : decode cX9_keeps 42 = .ok (.iaload, 1) := by decide +kernel
theorem dX9_keeps_43 : decode cX9_keeps 43 = .ok (.goto 18, 3) := by decide +kernel
theorem dX9_keeps_46 : decode cX9_keeps 46 = .ok (.iload_n 2, 1) := by decide +kernel
theorem dX9_keeps_47 : decode cX9_keeps 47 = .ok (.iconst 2, 1) := by decide +kernel
theorem dX9_keeps_48 : decode cX9_keeps 48 = .ok (.if_icmp .ne 12, 3) := by decide +kernel
theorem dX9_keeps_51 : decode cX9_keeps 51 = .ok (.aload_n 0, 1) := by decide +kernel
theorem dX9_keeps_52 : decode cX9_keeps 52 = .ok (.getfield 100, 3) := by decide +kernel
theorem dX9_keeps_55 : decode cX9_keeps 55 = .ok (.iload_n 1, 1) := by decide +kernel
theorem dX9_keeps_56 : decode cX9_keeps 56 = .ok (.iaload, 1) := by decide +kernel
theorem dX9_keeps_57 : decode cX9_keeps 57 = .ok (.goto 4, 3) := by decide +kernel
theorem dX9_keeps_60 : decode cX9_keeps 60 = .ok (.iconst (-1), 1) := by decide +kernel
theorem dX9_keeps_61 : decode cX9_keeps 61 = .ok (.ireturn, 1) := by decide +kernel
set_option maxRecDepth 20000 in
theorem ggX9_soonest_X9_isIn : GoodIn wsX9_soonest wsX9_isIn := goodIn_r _ [7] (by decide +kernel) (by decide +kernel)
set_option maxRecDepth 20000 in
theorem gX9_soonest_X9_isIn : GoodIn wsX9_soonest (va_wsS RX9 125 yX9_isIn wsX9_isIn) := goodIn_app (goodIn_of _ (by decide +kernel)) ggX9_soonest_X9_isIn
set_option maxRecDepth 20000 in
theorem ggX9_soonest_X9_soonestAt : GoodIn wsX9_soonest wsX9_soonestAt := goodIn_r _ [11, 12, 13, 14, 15, 16, 6, 17, 18, 19, 20, 21, 22, 23, 24, 25, 26, 27, 28, 29, 30, 31, 32, 33, 34, 35, 36, 37, 38, 39, 40, 41, 42, 43, 44, 45, 46, 47, 48, 49, 50, 51, 52, 53, 54, 55, 56, 57, 58, 59, 60, 61, 62, 63, 64, 65, 66, 67, 68, 69, 70, 71, 72, 73, 74, 75] (by decide +kernel) (by decide +kernel)
set_option maxRecDepth 20000 in
theorem gX9_soonest_X9_soonestAt : GoodIn wsX9_soonest (wsV RX9 253 RX9 yX9_soonestAt wsX9_soonestAt) := goodIn_app (goodIn_of _ (by decide +kernel)) ggX9_soonest_X9_soonestAt
theorem dX9_soonest_0 : decode cX9_soonest 0 = .ok (.aload_n 0, 1) := by decide +kernel
theorem dX9_soonest_1 : decode cX9_soonest 1 = .ok (.iconst 0, 1) := by decide +kernel
theorem dX9_soonest_2 : decode cX9_soonest 2 = .ok (.putfield 103, 3) := by decide +kernel
theorem dX9_soonest_5 : decode cX9_soonest 5 = .ok (.aload_n 0, 1) := by decide +kernel
theorem dX9_soonest_6 : decode cX9_soonest 6 = .ok (.getfield 119, 3) := by decide +kernel
theorem dX9_soonest_9 : decode cX9_soonest 9 = .ok (.ifCond .eq 25, 3) := by decide +kernel
theorem dX9_soonest_12 : decode cX9_soonest 12 = .ok (.iload_n 1, 1) := by decide +kernel
theorem dX9_soonest_13 : decode cX9_soonest 13 = .ok (.iconst 0, 1) := by decide +kernel
theorem dX9_soonest_14 : decode cX9_soonest 14 = .ok (.sipush 500, 3) := by decide +kernel
theorem dX9_soonest_17 : decode cX9_soonest 17 = .ok (.invokestatic 125, 3) := by decide +kernel
theorem dX9_soonest_20 : decode cX9_soonest 20 = .ok (.ifCond .eq 14, 3) := by decide +kernel
theorem dX9_soonest_23 : decode cX9_soonest 23 = .ok (.iload_n 3, 1) := by decide +kernel
theorem dX9_soonest_24 : decode cX9_soonest 24 = .ok (.iconst 0, 1) := by decide +kernel
theorem dX9_soonest_25 : decode cX9_soonest 25 = .ok (.sipush 1440, 3) := by decide +kernel
theorem dX9_soonest_28 : decode cX9_soonest 28 = .ok (.invokestatic 125, 3) := by decide +kernel
theorem dX9_soonest_31 : decode cX9_soonest 31 = .ok (.ifCond .ne 5, 3) := by decide +kernel
theorem dX9_soonest_34 : decode cX9_soonest 34 = .ok (.iconst (-1), 1) := by decide +kernel
theorem dX9_soonest_35 : decode cX9_soonest 35 = .ok (.ireturn, 1) := by decide +kernel
theorem dX9_soonest_36 : decode cX9_soonest 36 = .ok (.iload_n 3, 1) := by decide +kernel
theorem dX9_soonest_37 : decode cX9_soonest 37 = .ok (.istore 4, 2) := by decide +kernel
theorem dX9_soonest_39 : decode cX9_soonest 39 = .ok (.iconst 0, 1) := by decide +kernel
theorem dX9_soonest_40 : decode cX9_soonest 40 = .ok (.istore 5, 2) := by decide +kernel
theorem dX9_soonest_42 : decode cX9_soonest 42 = .ok (.iload 5, 2) := by decide +kernel
theorem dX9_soonest_44 : decode cX9_soonest 44 = .ok (.aload_n 0, 1) := by decide +kernel
theorem dX9_soonest_45 : decode cX9_soonest 45 = .ok (.getfield 119, 3) := by decide +kernel
theorem dX9_soonest_48 : decode cX9_soonest 48 = .ok (.if_icmp .ge 75, 3) := by decide +kernel
theorem dX9_soonest_51 : decode cX9_soonest 51 = .ok (.iload_n 2, 1) := by decide +kernel
theorem dX9_soonest_52 : decode cX9_soonest 52 = .ok (.ifCond .eq 8, 3) := by decide +kernel
theorem dX9_soonest_55 : decode cX9_soonest 55 = .ok (.iload 5, 2) := by decide +kernel
theorem dX9_soonest_57 : decode cX9_soonest 57 = .ok (.goto 12, 3) := by decide +kernel
theorem dX9_soonest_60 : decode cX9_soonest 60 = .ok (.aload_n 0, 1) := by decide +kernel
theorem dX9_soonest_61 : decode cX9_soonest 61 = .ok (.getfield 119, 3) := by decide +kernel
theorem dX9_soonest_64 : decode cX9_soonest 64 = .ok (.iconst 1, 1) := by decide +kernel
theorem dX9_soonest_65 : decode cX9_soonest 65 = .ok (.isub, 1) := by decide +kernel
theorem dX9_soonest_66 : decode cX9_soonest 66 = .ok (.iload 5, 2) := by decide +kernel
theorem dX9_soonest_68 : decode cX9_soonest 68 = .ok (.isub, 1) := by decide +kernel
theorem dX9_soonest_69 : decode cX9_soonest 69 = .ok (.istore 6, 2) := by decide +kernel
theorem dX9_soonest_71 : decode cX9_soonest 71 = .ok (.iload 5, 2) := by decide +kernel
theorem dX9_soonest_73 : decode cX9_soonest 73 = .ok (.ifCond .le 26, 3) := by decide +kernel
theorem dX9_soonest_76 : decode cX9_soonest 76 = .ok (.iload 4, 2) := by decide +kernel
theorem dX9_soonest_78 : decode cX9_soonest 78 = .ok (.aload_n 0, 1) := by decide +kernel
theorem dX9_soonest_79 : decode cX9_soonest 79 = .ok (.getfield 23, 3) := by decide +kernel
theorem dX9_soonest_82 : decode cX9_soonest 82 = .ok (.iload_n 2, 1) := by decide +kernel
theorem dX9_soonest_83 : decode cX9_soonest 83 = .ok (.ifCond .eq 10, 3) := by decide +kernel
theorem dX9_soonest_86 : decode cX9_soonest 86 = .ok (.iload 6, 2) := by decide +kernel
theorem dX9_soonest_88 : decode cX9_soonest 88 = .ok (.iconst 1, 1) := by decide +kernel
theorem dX9_soonest_89 : decode cX9_soonest 89 = .ok (.isub, 1) := by decide +kernel
theorem dX9_soonest_90 : decode cX9_soonest 90 = .ok (.goto 5, 3) := by decide +kernel
theorem dX9_soonest_93 : decode cX9_soonest 93 = .ok (.iload 6, 2) := by decide +kernel
theorem dX9_soonest_95 : decode cX9_soonest 95 = .ok (.iaload, 1) := by decide +kernel
theorem dX9_soonest_96 : decode cX9_soonest 96 = .ok (.iadd, 1) := by decide +kernel
theorem dX9_soonest_97 : decode cX9_soonest 97 = .ok (.istore 4, 2) := by decide +kernel
theorem dX9_soonest_99 : decode cX9_soonest 99 = .ok (.aload_n 0, 1) := by decide +kernel
theorem dX9_soonest_100 : decode cX9_soonest 100 = .ok (.iload_n 1, 1) := by decide +kernel
theorem dX9_soonest_101 : decode cX9_soonest 101 = .ok (.iload 6, 2) := by decide +kernel
theorem dX9_soonest_103 : decode cX9_soonest 103 = .ok (.iload 4, 2) := by decide +kernel
theorem dX9_soonest_105 : decode cX9_soonest 105 = .ok (.invokevirtual 253, 3) := by decide +kernel
theorem dX9_soonest_108 : decode cX9_soonest 108 = .ok (.istore 4, 2) := by decide +kernel
theorem dX9_soonest_110 : decode cX9_soonest 110 = .ok (.iload 4, 2) := by decide +kernel
theorem dX9_soonest_112 : decode cX9_soonest 112 = .ok (.ifCond .ge 5, 3) := by decide +kernel
theorem dX9_soonest_115 : decode cX9_soonest 115 = .ok (.iconst (-1), 1) := by decide +kernel
theorem dX9_soonest_116 : decode cX9_soonest 116 = .ok (.ireturn, 1) := by decide +kernel
theorem dX9_soonest_117 : decode cX9_soonest 117 = .ok (.iinc 5 1, 3) := by decide +kernel
theorem dX9_soonest_120 : decode cX9_soonest 120 = .ok (.goto (-78), 3) := by decide +kernel
theorem dX9_soonest_123 : decode cX9_soonest 123 = .ok (.iload 4, 2) := by decide +kernel
theorem dX9_soonest_125 : decode cX9_soonest 125 = .ok (.ireturn, 1) := by decide +kernel
theorem dX9_count_0 : decode cX9_count 0 = .ok (.aload_n 0, 1) := by decide +kernel
theorem dX9_count_1 : decode cX9_count 1 = .ok (.iconst 0, 1) := by decide +kernel
theorem dX9_count_2 : decode cX9_count 2 = .ok (.putfield 103, 3) := by decide +kernel
theorem dX9_count_5 : decode cX9_count 5 = .ok (.iconst 0, 1) := by decide +kernel
theorem dX9_count_6 : decode cX9_count 6 = .ok (.istore_n 2, 1) := by decide +kernel
theorem dX9_count_7 : decode cX9_count 7 = .ok (.iload_n 1, 1) := by decide +kernel
theorem dX9_count_8 : decode cX9_count 8 = .ok (.tableswitch 144 0 6 #[44, 49, 54, 59, 64, 100, 139], 44) := by decide +kernel
theorem dX9_count_52 : decode cX9_count 52 = .ok (.aload_n 0, 1) := by decide +kernel
theorem dX9_count_53 : decode cX9_count 53 = .ok (.getfield 122, 3) := by decide +kernel
theorem dX9_count_56 : decode cX9_count 56 = .ok (.ireturn, 1) := by decide +kernel
theorem dX9_count_57 : decode cX9_count 57 = .ok (.aload_n 0, 1) := by decide +kernel
theorem dX9_count_58 : decode cX9_count 58 = .ok (.getfield 119, 3) := by decide +kernel
theorem dX9_count_61 : decode cX9_count 61 = .ok (.ireturn, 1) := by decide +kernel
theorem dX9_count_62 : decode cX9_count 62 = .ok (.aload_n 0, 1) := by decide +kernel
theorem dX9_count_63 : decode cX9_count 63 = .ok (.getfield 208, 3) := by decide +kernel
theorem dX9_count_66 : decode cX9_count 66 = .ok (.ireturn, 1) := by decide +kernel
theorem dX9_count_67 : decode cX9_count 67 = .ok (.aload_n 0, 1) := by decide +kernel
theorem dX9_count_68 : decode cX9_count 68 = .ok (.getfield 215, 3) := by decide +kernel
theorem dX9_count_71 : decode cX9_count 71 = .ok (.ireturn, 1) := by decide +kernel
theorem dX9_count_72 : decode cX9_count 72 = .ok (.iconst 0, 1) := by decide +kernel
theorem dX9_count_73 : decode cX9_count 73 = .ok (.istore_n 3, 1) := by decide +kernel
theorem dX9_count_74 : decode cX9_count 74 = .ok (.iload_n 3, 1) := by decide +kernel
theorem dX9_count_75 : decode cX9_count 75 = .ok (.aload_n 0, 1) := by decide +kernel
theorem dX9_count_76 : decode cX9_count 76 = .ok (.getfield 208, 3) := by decide +kernel
theorem dX9_count_79 : decode cX9_count 79 = .ok (.if_icmp .ge 27, 3) := by decide +kernel
theorem dX9_count_82 : decode cX9_count 82 = .ok (.iload_n 2, 1) := by decide +kernel
theorem dX9_count_83 : decode cX9_count 83 = .ok (.aload_n 0, 1) := by decide +kernel
theorem dX9_count_84 : decode cX9_count 84 = .ok (.getfield 70, 3) := by decide +kernel
theorem dX9_count_87 : decode cX9_count 87 = .ok (.iload_n 3, 1) := by decide +kernel
theorem dX9_count_88 : decode cX9_count 88 = .ok (.iaload, 1) := by decide +kernel
theorem dX9_count_89 : decode cX9_count 89 = .ok (.iconst 3, 1) := by decide +kernel
theorem dX9_count_90 : decode cX9_count 90 = .ok (.if_icmp .ne 7, 3) := by decide +kernel
theorem dX9_count_93 : decode cX9_count 93 = .ok (.iconst 1, 1) := by decide +kernel
theorem dX9_count_94 : decode cX9_count 94 = .ok (.goto 4, 3) := by decide +kernel
theorem dX9_count_97 : decode cX9_count 97 = .ok (.iconst 0, 1) := by decide +kernel
theorem dX9_count_98 : decode cX9_count 98 = .ok (.iadd, 1) := by decide +kernel
theorem dX9_count_99 : decode cX9_count 99 = .ok (.istore_n 2, 1) := by decide +kernel
theorem dX9_count_100 : decode cX9_count 100 = .ok (.iinc 3 1, 3) := by decide +kernel
theorem dX9_count_103 : decode cX9_count 103 = .ok (.goto (-29), 3) := by decide +kernel
theorem dX9_count_106 : decode cX9_count 106 = .ok (.iload_n 2, 1) := by decide +kernel
theorem dX9_count_107 : decode cX9_count 107 = .ok (.ireturn, 1) := by decide +kernel
theorem dX9_count_108 : decode cX9_count 108 = .ok (.iconst 0, 1) := by decide +kernel
theorem dX9_count_109 : decode cX9_count 109 = .ok (.istore_n 3, 1) := by decide +kernel
theorem dX9_count_110 : decode cX9_count 110 = .ok (.iload_n 3, 1) := by decide +kernel
theorem dX9_count_111 : decode cX9_count 111 = .ok (.aload_n 0, 1) := by decide +kernel
theorem dX9_count_112 : decode cX9_count 112 = .ok (.getfield 208, 3) := by decide +kernel
theorem dX9_count_115 : decode cX9_count 115 = .ok (.if_icmp .ge 30, 3) := by decide +kernel
theorem dX9_count_118 : decode cX9_count 118 = .ok (.aload_n 0, 1) := by decide +kernel
theorem dX9_count_119 : decode cX9_count 119 = .ok (.getfield 82, 3) := by decide +kernel
theorem dX9_count_122 : decode cX9_count 122 = .ok (.iload_n 3, 1) := by decide +kernel
theorem dX9_count_123 : decode cX9_count 123 = .ok (.iaload, 1) := by decide +kernel
theorem dX9_count_124 : decode cX9_count 124 = .ok (.iload_n 2, 1) := by decide +kernel
theorem dX9_count_125 : decode cX9_count 125 = .ok (.if_icmp .le 12, 3) := by decide +kernel
theorem dX9_count_128 : decode cX9_count 128 = .ok (.aload_n 0, 1) := by decide +kernel
theorem dX9_count_129 : decode cX9_count 129 = .ok (.getfield 82, 3) := by decide +kernel
theorem dX9_count_132 : decode cX9_count 132 = .ok (.iload_n 3, 1) := by decide +kernel
theorem dX9_count_133 : decode cX9_count 133 = .ok (.iaload, 1) := by decide +kernel
theorem dX9_count_134 : decode cX9_count 134 = .ok (.goto 4, 3) := by decide +kernel
theorem dX9_count_137 : decode cX9_count 137 = .ok (.iload_n 2, 1) := by decide +kernel
theorem dX9_count_138 : decode cX9_count 138 = .ok (.istore_n 2, 1) := by decide +kernel
theorem dX9_count_139 : decode cX9_count 139 = .ok (.iinc 3 1, 3) := by decide +kernel
theorem dX9_count_142 : decode cX9_count 142 = .ok (.goto (-32), 3) := by decide +kernel
theorem dX9_count_145 : decode cX9_count 145 = .ok (.iload_n 2, 1) := by decide +kernel
theorem dX9_count_146 : decode cX9_count 146 = .ok (.ireturn, 1) := by decide +kernel
theorem dX9_count_147 : decode cX9_count 147 = .ok (.aload_n 0, 1) := by decide +kernel
theorem dX9_count_148 : decode cX9_count 148 = .ok (.getfield 106, 3) := by decide +kernel
theorem dX9_count_151 : decode cX9_count 151 = .ok (.ireturn, 1) := by decide +kernel
theorem dX9_count_152 : decode cX9_count 152 = .ok (.iconst (-1), 1) := by decide +kernel
theorem dX9_count_153 : decode cX9_count 153 = .ok (.ireturn, 1) := by decide +kernel
theorem dJxa1e45_init_da8c8_0 : decode cJxa1e45_init_da8c8 0 = .ok (.aload_n 0, 1) := by decide +kernel
theorem dJxa1e45_init_da8c8_1 : decode cJxa1e45_init_da8c8 1 = .ok (.invokespecial 1, 3) := by decide +kernel
theorem dJxa1e45_init_da8c8_4 : decode cJxa1e45_init_da8c8 4 = .ok (.return_, 1) := by decide +kernel
set_option maxRecDepth 20000 in
theorem ggJxc12de_init_da8c8_Jxa1e45_init_da8c8 : GoodIn wsJxc12de_init_da8c8 wsJxa1e45_init_da8c8 := goodIn_r _ [5, 6, 7, 8] (by decide +kernel) (by decide +kernel)
set_option maxRecDepth 20000 in
theorem gJxc12de_init_da8c8_Jxa1e45_init_da8c8 : GoodIn wsJxc12de_init_da8c8 (wsJxa1e45_init_da8c8) := ggJxc12de_init_da8c8_Jxa1e45_init_da8c8
theorem dJxc12de_init_da8c8_0 : decode cJxc12de_init_da8c8 0 = .ok (.aload_n 0, 1) := by decide +kernel
theorem dJxc12de_init_da8c8_1 : decode cJxc12de_init_da8c8 1 = .ok (.invokespecial 1, 3) := by decide +kernel
theorem dJxc12de_init_da8c8_4 : decode cJxc12de_init_da8c8 4 = .ok (.aload_n 0, 1) := by decide +kernel
theorem dJxc12de_init_da8c8_5 : decode cJxc12de_init_da8c8 5 = .ok (.iconst 0, 1) := by decide +kernel
theorem dJxc12de_init_da8c8_6 : decode cJxc12de_init_da8c8 6 = .ok (.putfield 7, 3) := by decide +kernel
theorem dJxc12de_init_da8c8_9 : decode cJxc12de_init_da8c8 9 = .ok (.return_, 1) := by decide +kernel
set_option maxRecDepth 20000 in
theorem ggJx4a65c_init_da8c8_Jxc12de_init_da8c8 : GoodIn wsJx4a65c_init_da8c8 wsJxc12de_init_da8c8 := goodIn_r _ [6, 7, 8, 9, 10, 11, 12, 13, 14, 15, 16, 17] (by decide +kernel) (by decide +kernel)
set_option maxRecDepth 20000 in
theorem gJx4a65c_init_da8c8_Jxc12de_init_da8c8 : GoodIn wsJx4a65c_init_da8c8 (wsJxc12de_init_da8c8) := ggJx4a65c_init_da8c8_Jxc12de_init_da8c8
theorem dJx4a65c_init_da8c8_0 : decode cJx4a65c_init_da8c8 0 = .ok (.aload_n 0, 1) := by decide +kernel
theorem dJx4a65c_init_da8c8_1 : decode cJx4a65c_init_da8c8 1 = .ok (.invokespecial 1, 3) := by decide +kernel
theorem dJx4a65c_init_da8c8_4 : decode cJx4a65c_init_da8c8 4 = .ok (.aload_n 0, 1) := by decide +kernel
theorem dJx4a65c_init_da8c8_5 : decode cJx4a65c_init_da8c8 5 = .ok (.getstatic 39, 3) := by decide +kernel
theorem dJx4a65c_init_da8c8_8 : decode cJx4a65c_init_da8c8 8 = .ok (.putfield 9, 3) := by decide +kernel
theorem dJx4a65c_init_da8c8_11 : decode cJx4a65c_init_da8c8 11 = .ok (.return_, 1) := by decide +kernel
set_option maxRecDepth 20000 in
theorem ggJx4a65c_grow_92f84_J8_newLength_cabcc : GoodIn wsJx4a65c_grow_92f84 wsJ8_newLength_cabcc := goodIn_r _ [11, 12, 4, 5, 6, 13, 14, 15, 10, 16] (by decide +kernel) (by decide +kernel)
set_option maxRecDepth 20000 in
theorem gJx4a65c_grow_92f84_J8_newLength_cabcc : GoodIn wsJx4a65c_grow_92f84 (va_wsS RJx4a65c 73 yJ8_newLength_cabcc wsJ8_newLength_cabcc) := goodIn_app (goodIn_of _ (by decide +kernel)) ggJx4a65c_grow_92f84_J8_newLength_cabcc
set_option maxRecDepth 20000 in
theorem ggJx4a65c_grow_92f84_J7_copyOf_1904c : GoodIn wsJx4a65c_grow_92f84 wsJ7_copyOf_1904c := goodIn_r _ [20, 21, 22, 23, 24, 25, 26, 19, 27, 28, 29, 30, 31, 5, 32, 33, 34, 35, 36] (by decide +kernel) (by decide +kernel)
set_option maxRecDepth 20000 in
theorem gJx4a65c_grow_92f84_J7_copyOf_1904c : GoodIn wsJx4a65c_grow_92f84 (va_wsS RJx4a65c 66 yJ7_copyOf_1904c wsJ7_copyOf_1904c) := goodIn_app (goodIn_of _ (by decide +kernel)) ggJx4a65c_grow_92f84_J7_copyOf_1904c
theorem dJx4a65c_grow_92f84_0 : decode cJx4a65c_grow_92f84 0 = .ok (.aload_n 0, 1) := by decide +kernel
theorem dJx4a65c_grow_92f84_1 : decode cJx4a65c_grow_92f84 1 = .ok (.getfield 9, 3) := by decide +kernel
theorem dJx4a65c_grow_92f84_4 : decode cJx4a65c_grow_92f84 4 = .ok (.arraylength, 1) := by decide +kernel
theorem dJx4a65c_grow_92f84_5 : decode cJx4a65c_grow_92f84 5 = .ok (.istore_n 2, 1) := by decide +kernel
theorem dJx4a65c_grow_92f84_6 : decode cJx4a65c_grow_92f84 6 = .ok (.iload_n 2, 1) := by decide +kernel
theorem dJx4a65c_grow_92f84_7 : decode cJx4a65c_grow_92f84 7 = .ok (.ifCond .gt 13, 3) := by decide +kernel
theorem dJx4a65c_grow_92f84_10 : decode cJx4a65c_grow_92f84 10 = .ok (.aload_n 0, 1) := by decide +kernel
theorem dJx4a65c_grow_92f84_11 : decode cJx4a65c_grow_92f84 11 = .ok (.getfield 9, 3) := by decide +kernel
theorem dJx4a65c_grow_92f84_14 : decode cJx4a65c_grow_92f84 14 = .ok (.getstatic 39, 3) := by decide +kernel
theorem dJx4a65c_grow_92f84_17 : decode cJx4a65c_grow_92f84 17 = .ok (.if_acmp .eq 28, 3) := by decide +kernel
theorem dJx4a65c_grow_92f84_20 : decode cJx4a65c_grow_92f84 20 = .ok (.iload_n 2, 1) := by decide +kernel
theorem dJx4a65c_grow_92f84_21 : decode cJx4a65c_grow_92f84 21 = .ok (.iload_n 1, 1) := by decide +kernel
theorem dJx4a65c_grow_92f84_22 : decode cJx4a65c_grow_92f84 22 = .ok (.iload_n 2, 1) := by decide +kernel
theorem dJx4a65c_grow_92f84_23 : decode cJx4a65c_grow_92f84 23 = .ok (.isub, 1) := by decide +kernel
theorem dJx4a65c_grow_92f84_24 : decode cJx4a65c_grow_92f84 24 = .ok (.iload_n 2, 1) := by decide +kernel
theorem dJx4a65c_grow_92f84_25 : decode cJx4a65c_grow_92f84 25 = .ok (.iconst 1, 1) := by decide +kernel
theorem dJx4a65c_grow_92f84_26 : decode cJx4a65c_grow_92f84 26 = .ok (.ishr, 1) := by decide +kernel
theorem dJx4a65c_grow_92f84_27 : decode cJx4a65c_grow_92f84 27 = .ok (.invokestatic 73, 3) := by decide +kernel
theorem dJx4a65c_grow_92f84_30 : decode cJx4a65c_grow_92f84 30 = .ok (.istore_n 3, 1) := by decide +kernel
theorem dJx4a65c_grow_92f84_31 : decode cJx4a65c_grow_92f84 31 = .ok (.aload_n 0, 1) := by decide +kernel
theorem dJx4a65c_grow_92f84_32 : decode cJx4a65c_grow_92f84 32 = .ok (.aload_n 0, 1) := by decide +kernel
theorem dJx4a65c_grow_92f84_33 : decode cJx4a65c_grow_92f84 33 = .ok (.getfield 9, 3) := by decide +kernel
theorem dJx4a65c_grow_92f84_36 : decode cJx4a65c_grow_92f84 36 = .ok (.iload_n 3, 1) := by decide +kernel
theorem dJx4a65c_grow_92f84_37 : decode cJx4a65c_grow_92f84 37 = .ok (.invokestatic 66, 3) := by decide +kernel
theorem dJx4a65c_grow_92f84_40 : decode cJx4a65c_grow_92f84 40 = .ok (.dup_x1, 1) := by decide +kernel
theorem dJx4a65c_grow_92f84_41 : decode cJx4a65c_grow_92f84 41 = .ok (.putfield 9, 3) := by decide +kernel
theorem dJx4a65c_grow_92f84_44 : decode cJx4a65c_grow_92f84 44 = .ok (.areturn, 1) := by decide +kernel
theorem dJx4a65c_grow_92f84_45 : decode cJx4a65c_grow_92f84 45 = .ok (.aload_n 0, 1) := by decide +kernel
theorem dJx4a65c_grow_92f84_46 : decode cJx4a65c_grow_92f84 46 = .ok (.bipush 10, 2) := by decide +kernel
theorem dJx4a65c_grow_92f84_48 : decode cJx4a65c_grow_92f84 48 = .ok (.iload_n 1, 1) := by decide +kernel
theorem dJx4a65c_grow_92f84_49 : decode cJx4a65c_grow_92f84 49 = .ok (.invokestatic 79, 3) := by decide +kernel
theorem dJx4a65c_grow_92f84_52 : decode cJx4a65c_grow_92f84 52 = .ok (.anewarray 7, 3) := by decide +kernel
theorem dJx4a65c_grow_92f84_55 : decode cJx4a65c_grow_92f84 55 = .ok (.dup_x1, 1) := by decide +kernel
theorem dJx4a65c_grow_92f84_56 : decode cJx4a65c_grow_92f84 56 = .ok (.putfield 9, 3) := by decide +kernel
theorem dJx4a65c_grow_92f84_59 : decode cJx4a65c_grow_92f84 59 = .ok (.areturn, 1) := by decide +kernel
set_option maxRecDepth 20000 in
theorem ggJx4a65c_grow_d5877_Jx4a65c_grow_92f84 : GoodIn wsJx4a65c_grow_d5877 wsJx4a65c_grow_92f84 := goodIn_r _ [6, 7, 8, 9, 10, 11, 12, 13, 14, 15, 16, 17, 18, 19, 20, 21, 22, 23, 24, 25, 26, 27, 28, 29, 30, 31, 32, 33, 34, 35, 36, 37, 38, 39, 40, 41, 42, 43, 44, 45] (by decide +kernel) (by decide +kernel)
set_option maxRecDepth 20000 in
theorem gJx4a65c_grow_d5877_Jx4a65c_grow_92f84 : GoodIn wsJx4a65c_grow_d5877 (wsV RJx4a65c 69 RJx4a65c yJx4a65c_grow_92f84 wsJx4a65c_grow_92f84) := goodIn_app (goodIn_of _ (by decide +kernel)) ggJx4a65c_grow_d5877_Jx4a65c_grow_92f84
theorem dJx4a65c_grow_d5877_0 : decode cJx4a65c_grow_d5877 0 = .ok (.aload_n 0, 1) := by decide +kernel
theorem dJx4a65c_grow_d5877_1 : decode cJx4a65c_grow_d5877 1 = .ok (.aload_n 0, 1) := by decide +kernel
theorem dJx4a65c_grow_d5877_2 : decode cJx4a65c_grow_d5877 2 = .ok (.getfield 48, 3) := by decide +kernel
theorem dJx4a65c_grow_d5877_5 : decode cJx4a65c_grow_d5877 5 = .ok (.iconst 1, 1) := by decide +kernel
theorem dJx4a65c_grow_d5877_6 : decode cJx4a65c_grow_d5877 6 = .ok (.iadd, 1) := by decide +kernel
theorem dJx4a65c_grow_d5877_7 : decode cJx4a65c_grow_d5877 7 = .ok (.invokevirtual 69, 3) := by decide +kernel
theorem dJx4a65c_grow_d5877_10 : decode cJx4a65c_grow_d5877 10 = .ok (.areturn, 1) := by decide +kernel
theorem dJx4a65c_size_8abf5_0 : decode cJx4a65c_size_8abf5 0 = .ok (.aload_n 0, 1) := by decide +kernel
theorem dJx4a65c_size_8abf5_1 : decode cJx4a65c_size_8abf5 1 = .ok (.getfield 48, 3) := by decide +kernel
theorem dJx4a65c_size_8abf5_4 : decode cJx4a65c_size_8abf5 4 = .ok (.ireturn, 1) := by decide +kernel
theorem dJx4a65c_isEmpty_aae02_0 : decode cJx4a65c_isEmpty_aae02 0 = .ok (.aload_n 0, 1) := by decide +kernel
theorem dJx4a65c_isEmpty_aae02_1 : decode cJx4a65c_isEmpty_aae02 1 = .ok (.getfield 48, 3) := by decide +kernel
theorem dJx4a65c_isEmpty_aae02_4 : decode cJx4a65c_isEmpty_aae02 4 = .ok (.ifCond .ne 7, 3) := by decide +kernel
theorem dJx4a65c_isEmpty_aae02_7 : decode cJx4a65c_isEmpty_aae02 7 = .ok (.iconst 1, 1) := by decide +kernel
theorem dJx4a65c_isEmpty_aae02_8 : decode cJx4a65c_isEmpty_aae02 8 = .ok (.goto 4, 3) := by decide +kernel
theorem dJx4a65c_isEmpty_aae02_11 : decode cJx4a65c_isEmpty_aae02 11 = .ok (.iconst 0, 1) := by decide +kernel
theorem dJx4a65c_isEmpty_aae02_12 : decode cJx4a65c_isEmpty_aae02 12 = .ok (.ireturn, 1) := by decide +kernel
theorem dJx4a65c_elementData_915e3_0 : decode cJx4a65c_elementData_915e3 0 = .ok (.aload_n 0, 1) := by decide +kernel
theorem dJx4a65c_elementData_915e3_1 : decode cJx4a65c_elementData_915e3 1 = .ok (.getfield 9, 3) := by decide +kernel
theorem dJx4a65c_elementData_915e3_4 : decode cJx4a65c_elementData_915e3 4 = .ok (.iload_n 1, 1) := by decide +kernel
theorem dJx4a65c_elementData_915e3_5 : decode cJx4a65c_elementData_915e3 5 = .ok (.aaload, 1) := by decide +kernel
theorem dJx4a65c_elementData_915e3_6 : decode cJx4a65c_elementData_915e3 6 = .ok (.areturn, 1) := by decide +kernel
set_option maxRecDepth 20000 in
theorem ggJx4a65c_get_915e3_J15_checkIndex_7cf53 : GoodIn wsJx4a65c_get_915e3 wsJ15_checkIndex_7cf53 := goodIn_r _ [5, 6, 7, 8, 9] (by decide +kernel) (by decide +kernel)
set_option maxRecDepth 20000 in
theorem gJx4a65c_get_915e3_J15_checkIndex_7cf53 : GoodIn wsJx4a65c_get_915e3 (va_wsS RJx4a65c 118 yJ15_checkIndex_7cf53 wsJ15_checkIndex_7cf53) := goodIn_app (goodIn_of _ (by decide +kernel)) ggJx4a65c_get_915e3_J15_checkIndex_7cf53
set_option maxRecDepth 20000 in
theorem ggJx4a65c_get_915e3_Jx4a65c_elementData_915e3 : GoodIn wsJx4a65c_get_915e3 wsJx4a65c_elementData_915e3 := goodIn_r _ [14, 15, 16, 17, 18] (by decide +kernel) (by decide +kernel)
set_option maxRecDepth 20000 in
theorem gJx4a65c_get_915e3_Jx4a65c_elementData_915e3 : GoodIn wsJx4a65c_get_915e3 (wsV RJx4a65c 123 RJx4a65c yJx4a65c_elementData_915e3 wsJx4a65c_elementData_915e3) := goodIn_app (goodIn_of _ (by decide +kernel)) ggJx4a65c_get_915e3_Jx4a65c_elementData_915e3
theorem dJx4a65c_get_915e3_0 : decode cJx4a65c_get_915e3 0 = .ok (.iload_n 1, 1) := by decide +kernel
theorem dJx4a65c_get_915e3_1 : decode cJx4a65c_get_915e3 1 = .ok (.aload_n 0, 1) := by decide +kernel
theorem dJx4a65c_get_915e3_2 : decode cJx4a65c_get_915e3 2 = .ok (.getfield 48, 3) := by decide +kernel
theorem dJx4a65c_get_915e3_5 : decode cJx4a65c_get_915e3 5 = .ok (.invokestatic 118, 3) := by decide +kernel
theorem dJx4a65c_get_915e3_8 : decode cJx4a65c_get_915e3 8 = .ok (.pop, 1) := by decide +kernel
theorem dJx4a65c_get_915e3_9 : decode cJx4a65c_get_915e3 9 = .ok (.aload_n 0, 1) := by decide +kernel
theorem dJx4a65c_get_915e3_10 : decode cJx4a65c_get_915e3 10 = .ok (.iload_n 1, 1) := by decide +kernel
theorem dJx4a65c_get_915e3_11 : decode cJx4a65c_get_915e3 11 = .ok (.invokevirtual 123, 3) := by decide +kernel
theorem dJx4a65c_get_915e3_14 : decode cJx4a65c_get_915e3 14 = .ok (.areturn, 1) := by decide +kernel
set_option maxRecDepth 20000 in
theorem ggJx4a65c_add_72be8_Jx4a65c_grow_d5877 : GoodIn wsJx4a65c_add_72be8 wsJx4a65c_grow_d5877 := goodIn_r _ [6, 1, 7, 8, 9, 5, 10, 11, 12, 13, 14, 15, 16, 17, 18, 19, 20, 21, 22, 23, 24, 25, 26, 27, 28, 29, 30, 31, 32, 33, 34, 35, 36, 37, 38, 39, 40, 41, 42, 43, 44, 45, 46, 47, 48, 49] (by decide +kernel) (by decide +kernel)
set_option maxRecDepth 20000 in
theorem gJx4a65c_add_72be8_Jx4a65c_grow_d5877 : GoodIn wsJx4a65c_add_72be8 (wsV RJx4a65c 129 RJx4a65c yJx4a65c_grow_d5877 wsJx4a65c_grow_d5877) := goodIn_app (goodIn_of _ (by decide +kernel)) ggJx4a65c_add_72be8_Jx4a65c_grow_d5877
theorem dJx4a65c_add_72be8_0 : decode cJx4a65c_add_72be8 0 = .ok (.iload_n 3, 1) := by decide +kernel
theorem dJx4a65c_add_72be8_1 : decode cJx4a65c_add_72be8 1 = .ok (.aload_n 2, 1) := by decide +kernel
theorem dJx4a65c_add_72be8_2 : decode cJx4a65c_add_72be8 2 = .ok (.arraylength, 1) := by decide +kernel
theorem dJx4a65c_add_72be8_3 : decode cJx4a65c_add_72be8 3 = .ok (.if_icmp .ne 8, 3) := by decide +kernel
theorem dJx4a65c_add_72be8_6 : decode cJx4a65c_add_72be8 6 = .ok (.aload_n 0, 1) := by decide +kernel
theorem dJx4a65c_add_72be8_7 : decode cJx4a65c_add_72be8 7 = .ok (.invokevirtual 129, 3) := by decide +kernel
theorem dJx4a65c_add_72be8_10 : decode cJx4a65c_add_72be8 10 = .ok (.astore_n 2, 1) := by decide +kernel
theorem dJx4a65c_add_72be8_11 : decode cJx4a65c_add_72be8 11 = .ok (.aload_n 2, 1) := by decide +kernel
theorem dJx4a65c_add_72be8_12 : decode cJx4a65c_add_72be8 12 = .ok (.iload_n 3, 1) := by decide +kernel
theorem dJx4a65c_add_72be8_13 : decode cJx4a65c_add_72be8 13 = .ok (.aload_n 1, 1) := by decide +kernel
theorem dJx4a65c_add_72be8_14 : decode cJx4a65c_add_72be8 14 = .ok (.aastore, 1) := by decide +kernel
theorem dJx4a65c_add_72be8_15 : decode cJx4a65c_add_72be8 15 = .ok (.aload_n 0, 1) := by decide +kernel
theorem dJx4a65c_add_72be8_16 : decode cJx4a65c_add_72be8 16 = .ok (.iload_n 3, 1) := by decide +kernel
theorem dJx4a65c_add_72be8_17 : decode cJx4a65c_add_72be8 17 = .ok (.iconst 1, 1) := by decide +kernel
theorem dJx4a65c_add_72be8_18 : decode cJx4a65c_add_72be8 18 = .ok (.iadd, 1) := by decide +kernel
theorem dJx4a65c_add_72be8_19 : decode cJx4a65c_add_72be8 19 = .ok (.putfield 48, 3) := by decide +kernel
theorem dJx4a65c_add_72be8_22 : decode cJx4a65c_add_72be8 22 = .ok (.return_, 1) := by decide +kernel
set_option maxRecDepth 20000 in
theorem ggJx4a65c_add_9ea2d_Jx4a65c_add_72be8 : GoodIn wsJx4a65c_add_9ea2d wsJx4a65c_add_72be8 := goodIn_r _ [9, 4, 10, 11, 12, 8, 13, 14, 15, 16, 17, 3, 18, 19, 20, 21, 22, 23, 24, 25, 26, 27, 28, 29, 30, 31, 32, 33, 34, 35, 36, 37, 38, 39, 40, 41, 42, 43, 44, 45, 46, 47, 48, 49, 50, 51, 52, 53, 54, 55] (by decide +kernel) (by decide +kernel)
set_option maxRecDepth 20000 in
theorem gJx4a65c_add_9ea2d_Jx4a65c_add_72be8 : GoodIn wsJx4a65c_add_9ea2d (wsV RJx4a65c 131 RJx4a65c yJx4a65c_add_72be8 wsJx4a65c_add_72be8) := goodIn_app (goodIn_of _ (by decide +kernel)) ggJx4a65c_add_9ea2d_Jx4a65c_add_72be8
theorem dJx4a65c_add_9ea2d_0 : decode cJx4a65c_add_9ea2d 0 = .ok (.aload_n 0, 1) := by decide +kernel
theorem dJx4a65c_add_9ea2d_1 : decode cJx4a65c_add_9ea2d 1 = .ok (.dup, 1) := by decide +kernel
theorem dJx4a65c_add_9ea2d_2 : decode cJx4a65c_add_9ea2d 2 = .ok (.getfield 63, 3) := by decide +kernel
theorem dJx4a65c_add_9ea2d_5 : decode cJx4a65c_add_9ea2d 5 = .ok (.iconst 1, 1) := by decide +kernel
theorem dJx4a65c_add_9ea2d_6 : decode cJx4a65c_add_9ea2d 6 = .ok (.iadd, 1) := by decide +kernel
theorem dJx4a65c_add_9ea2d_7 : decode cJx4a65c_add_9ea2d 7 = .ok (.putfield 63, 3) := by decide +kernel
theorem dJx4a65c_add_9ea2d_10 : decode cJx4a65c_add_9ea2d 10 = .ok (.aload_n 0, 1) := by decide +kernel
theorem dJx4a65c_add_9ea2d_11 : decode cJx4a65c_add_9ea2d 11 = .ok (.aload_n 1, 1) := by decide +kernel
theorem dJx4a65c_add_9ea2d_12 : decode cJx4a65c_add_9ea2d 12 = .ok (.aload_n 0, 1) := by decide +kernel
theorem dJx4a65c_add_9ea2d_13 : decode cJx4a65c_add_9ea2d 13 = .ok (.getfield 9, 3) := by decide +kernel
theorem dJx4a65c_add_9ea2d_16 : decode cJx4a65c_add_9ea2d 16 = .ok (.aload_n 0, 1) := by decide +kernel
theorem dJx4a65c_add_9ea2d_17 : decode cJx4a65c_add_9ea2d 17 = .ok (.getfield 48, 3) := by decide +kernel
theorem dJx4a65c_add_9ea2d_20 : decode cJx4a65c_add_9ea2d 20 = .ok (.invokevirtual 131, 3) := by decide +kernel
theorem dJx4a65c_add_9ea2d_23 : decode cJx4a65c_add_9ea2d 23 = .ok (.iconst 1, 1) := by decide +kernel
theorem dJx4a65c_add_9ea2d_24 : decode cJx4a65c_add_9ea2d 24 = .ok (.ireturn, 1) := by decide +kernel
