theorem dX8_bridge_49 : decode cX8_bridge 49 = .ok (.iconst 1, 1) := by decide +kernel
theorem dX8_bridge_50 : decode cX8_bridge 50 = .ok (.bipush 9, 2) := by decide +kernel
theorem dX8_bridge_52 : decode cX8_bridge 52 = .ok (.invokestatic 52, 3) := by decide +kernel
theorem dX8_bridge_55 : decode cX8_bridge 55 = .ok (.ifCond .ne 5, 3) := by decide +kernel
theorem dX8_bridge_58 : decode cX8_bridge 58 = .ok (.iconst (-1), 1) := by decide +kernel
theorem dX8_bridge_59 : decode cX8_bridge 59 = .ok (.ireturn, 1) := by decide +kernel
theorem dX8_bridge_60 : decode cX8_bridge 60 = .ok (.iload 4, 2) := by decide +kernel
theorem dX8_bridge_62 : decode cX8_bridge 62 = .ok (.iconst 1, 1) := by decide +kernel
theorem dX8_bridge_63 : decode cX8_bridge 63 = .ok (.bipush 60, 2) := by decide +kernel
theorem dX8_bridge_65 : decode cX8_bridge 65 = .ok (.invokestatic 52, 3) := by decide +kernel
theorem dX8_bridge_68 : decode cX8_bridge 68 = .ok (.ifCond .eq 25, 3) := by decide +kernel
theorem dX8_bridge_71 : decode cX8_bridge 71 = .ok (.iload 5, 2) := by decide +kernel
theorem dX8_bridge_73 : decode cX8_bridge 73 = .ok (.iconst 0, 1) := by decide +kernel
theorem dX8_bridge_74 : decode cX8_bridge 74 = .ok (.bipush 60, 2) := by decide +kernel
theorem dX8_bridge_76 : decode cX8_bridge 76 = .ok (.invokestatic 52, 3) := by decide +kernel
theorem dX8_bridge_79 : decode cX8_bridge 79 = .ok (.ifCond .eq 14, 3) := by decide +kernel
theorem dX8_bridge_82 : decode cX8_bridge 82 = .ok (.iload 6, 2) := by decide +kernel
theorem dX8_bridge_84 : decode cX8_bridge 84 = .ok (.iconst 1, 1) := by decide +kernel
theorem dX8_bridge_85 : decode cX8_bridge 85 = .ok (.bipush 99, 2) := by decide +kernel
theorem dX8_bridge_87 : decode cX8_bridge 87 = .ok (.invokestatic 52, 3) := by decide +kernel
theorem dX8_bridge_90 : decode cX8_bridge 90 = .ok (.ifCond .ne 5, 3) := by decide +kernel
theorem dX8_bridge_93 : decode cX8_bridge 93 = .ok (.iconst (-1), 1) := by decide +kernel
theorem dX8_bridge_94 : decode cX8_bridge 94 = .ok (.ireturn, 1) := by decide +kernel
theorem dX8_bridge_95 : decode cX8_bridge 95 = .ok (.aload_n 0, 1) := by decide +kernel
theorem dX8_bridge_96 : decode cX8_bridge 96 = .ok (.getfield 24, 3) := by decide +kernel
theorem dX8_bridge_99 : decode cX8_bridge 99 = .ok (.getfield 59, 3) := by decide +kernel
theorem dX8_bridge_102 : decode cX8_bridge 102 = .ok (.new 68, 3) := by decide +kernel
theorem dX8_bridge_105 : decode cX8_bridge 105 = .ok (.dup, 1) := by decide +kernel
theorem dX8_bridge_106 : decode cX8_bridge 106 = .ok (.iload_n 1, 1) := by decide +kernel
theorem dX8_bridge_107 : decode cX8_bridge 107 = .ok (.iload_n 2, 1) := by decide +kernel
theorem dX8_bridge_108 : decode cX8_bridge 108 = .ok (.iload_n 3, 1) := by decide +kernel
theorem dX8_bridge_109 : decode cX8_bridge 109 = .ok (.iload 4, 2) := by decide +kernel
theorem dX8_bridge_111 : decode cX8_bridge 111 = .ok (.iload 5, 2) := by decide +kernel
theorem dX8_bridge_113 : decode cX8_bridge 113 = .ok (.iload 6, 2) := by decide +kernel
theorem dX8_bridge_115 : decode cX8_bridge 115 = .ok (.invokespecial 70, 3) := by decide +kernel
theorem dX8_bridge_118 : decode cX8_bridge 118 = .ok (.invokevirtual 73, 3) := by decide +kernel
theorem dX8_bridge_121 : decode cX8_bridge 121 = .ok (.pop, 1) := by decide +kernel
theorem dX8_bridge_122 : decode cX8_bridge 122 = .ok (.aload_n 0, 1) := by decide +kernel
theorem dX8_bridge_123 : decode cX8_bridge 123 = .ok (.getfield 24, 3) := by decide +kernel
theorem dX8_bridge_126 : decode cX8_bridge 126 = .ok (.getfield 59, 3) := by decide +kernel
theorem dX8_bridge_129 : decode cX8_bridge 129 = .ok (.invokevirtual 63, 3) := by decide +kernel
theorem dX8_bridge_132 : decode cX8_bridge 132 = .ok (.iconst 1, 1) := by decide +kernel
theorem dX8_bridge_133 : decode cX8_bridge 133 = .ok (.isub, 1) := by decide +kernel
theorem dX8_bridge_134 : decode cX8_bridge 134 = .ok (.ireturn, 1) := by decide +kernel
set_option maxRecDepth 20000 in
theorem ggX8_tide_X6_takeFrom : GoodIn wsX8_tide wsX6_takeFrom := goodIn_r _ [10, 11, 12, 13, 14, 15, 16, 17, 30, 31, 32] (by decide +kernel) (by decide +kernel)
set_option maxRecDepth 20000 in
theorem gX8_tide_X6_takeFrom : GoodIn wsX8_tide (wsV RX8 81 RX6 yX6_takeFrom wsX6_takeFrom) := goodIn_app (goodIn_of _ (by decide +kernel)) ggX8_tide_X6_takeFrom
theorem dX8_tide_0 : decode cX8_tide 0 = .ok (.aload_n 0, 1) := by decide +kernel
theorem dX8_tide_1 : decode cX8_tide 1 = .ok (.getfield 24, 3) := by decide +kernel
theorem dX8_tide_4 : decode cX8_tide 4 = .ok (.getfield 56, 3) := by decide +kernel
theorem dX8_tide_7 : decode cX8_tide 7 = .ok (.ifCond .ne 24, 3) := by decide +kernel
theorem dX8_tide_10 : decode cX8_tide 10 = .ok (.aload_n 0, 1) := by decide +kernel
theorem dX8_tide_11 : decode cX8_tide 11 = .ok (.getfield 24, 3) := by decide +kernel
theorem dX8_tide_14 : decode cX8_tide 14 = .ok (.getfield 77, 3) := by decide +kernel
theorem dX8_tide_17 : decode cX8_tide 17 = .ok (.aload_n 0, 1) := by decide +kernel
theorem dX8_tide_18 : decode cX8_tide 18 = .ok (.getfield 20, 3) := by decide +kernel
theorem dX8_tide_21 : decode cX8_tide 21 = .ok (.invokevirtual 81, 3) := by decide +kernel
theorem dX8_tide_24 : decode cX8_tide 24 = .ok (.ifCond .eq 7, 3) := by decide +kernel
theorem dX8_tide_27 : decode cX8_tide 27 = .ok (.iconst 1, 1) := by decide +kernel
theorem dX8_tide_28 : decode cX8_tide 28 = .ok (.goto 4, 3) := by decide +kernel
theorem dX8_tide_31 : decode cX8_tide 31 = .ok (.iconst 0, 1) := by decide +kernel
theorem dX8_tide_32 : decode cX8_tide 32 = .ok (.istore_n 1, 1) := by decide +kernel
theorem dX8_tide_33 : decode cX8_tide 33 = .ok (.aload_n 0, 1) := by decide +kernel
theorem dX8_tide_34 : decode cX8_tide 34 = .ok (.getfield 20, 3) := by decide +kernel
theorem dX8_tide_37 : decode cX8_tide 37 = .ok (.iconst 0, 1) := by decide +kernel
theorem dX8_tide_38 : decode cX8_tide 38 = .ok (.putfield 49, 3) := by decide +kernel
theorem dX8_tide_41 : decode cX8_tide 41 = .ok (.iload_n 1, 1) := by decide +kernel
theorem dX8_tide_42 : decode cX8_tide 42 = .ok (.ireturn, 1) := by decide +kernel
set_option maxRecDepth 20000 in
theorem ggX8_timetable_X2_readInto : GoodIn wsX8_timetable wsX2_readInto := goodIn_r _ [16, 17, 18, 19, 20, 21, 22, 23, 24, 25, 26, 27, 28, 29, 30, 31, 15, 32, 33, 34, 35, 36, 37, 38, 39, 40, 41, 42, 43, 44, 45, 46, 47, 48, 49, 50, 51, 52, 53, 54, 55, 56, 57, 58, 59, 60, 61, 62, 63, 64, 65, 66, 67, 68, 69, 70, 71, 72, 73, 74, 75, 76, 77, 78, 79, 80, 81, 82, 83, 84, 85, 86, 87, 88, 89, 90, 91, 92, 93, 94, 95, 96, 97, 98, 99, 100, 101, 102, 103, 104, 105, 106, 107, 108, 109, 110, 111, 112, 113, 114, 115, 116, 117, 118, 119, 120, 121, 122, 123, 124, 125, 126, 127, 128, 129, 130, 131, 132, 133, 134, 135, 136, 137, 138, 139, 140, 141, 142, 143, 144, 145, 146, 147, 148, 149, 150, 151, 152, 153, 154, 155, 156, 157, 158, 159, 160, 161, 162, 163, 164, 165, 166, 167, 168, 169, 170, 171, 172, 187, 188, 189, 190, 191, 192, 193, 194, 195, 196, 197, 198, 199, 200, 201, 185, 186] (by decide +kernel) (by decide +kernel)
set_option maxRecDepth 20000 in
theorem gX8_timetable_X2_readInto : GoodIn wsX8_timetable (wsV RX8 87 RX2 yX2_readInto wsX2_readInto) := goodIn_app (goodIn_of _ (by decide +kernel)) ggX8_timetable_X2_readInto
theorem dX8_timetable_0 : decode cX8_timetable 0 = .ok (.aload_n 0, 1) := by decide +kernel
theorem dX8_timetable_1 : decode cX8_timetable 1 = .ok (.getfield 24, 3) := by decide +kernel
theorem dX8_timetable_4 : decode cX8_timetable 4 = .ok (.getfield 56, 3) := by decide +kernel
theorem dX8_timetable_7 : decode cX8_timetable 7 = .ok (.ifCond .eq 15, 3) := by decide +kernel
theorem dX8_timetable_10 : decode cX8_timetable 10 = .ok (.aload_n 0, 1) := by decide +kernel
theorem dX8_timetable_11 : decode cX8_timetable 11 = .ok (.getfield 20, 3) := by decide +kernel
theorem dX8_timetable_14 : decode cX8_timetable 14 = .ok (.iconst 0, 1) := by decide +kernel
theorem dX8_timetable_15 : decode cX8_timetable 15 = .ok (.putfield 49, 3) := by decide +kernel
theorem dX8_timetable_18 : decode cX8_timetable 18 = .ok (.sipush (-500), 3) := by decide +kernel
theorem dX8_timetable_21 : decode cX8_timetable 21 = .ok (.ireturn, 1) := by decide +kernel
theorem dX8_timetable_22 : decode cX8_timetable 22 = .ok (.aload_n 0, 1) := by decide +kernel
theorem dX8_timetable_23 : decode cX8_timetable 23 = .ok (.getfield 10, 3) := by decide +kernel
theorem dX8_timetable_26 : decode cX8_timetable 26 = .ok (.aload_n 0, 1) := by decide +kernel
theorem dX8_timetable_27 : decode cX8_timetable 27 = .ok (.getfield 31, 3) := by decide +kernel
theorem dX8_timetable_30 : decode cX8_timetable 30 = .ok (.invokevirtual 87, 3) := by decide +kernel
theorem dX8_timetable_33 : decode cX8_timetable 33 = .ok (.istore_n 1, 1) := by decide +kernel
theorem dX8_timetable_34 : decode cX8_timetable 34 = .ok (.aload_n 0, 1) := by decide +kernel
theorem dX8_timetable_35 : decode cX8_timetable 35 = .ok (.getfield 20, 3) := by decide +kernel
theorem dX8_timetable_38 : decode cX8_timetable 38 = .ok (.iconst 0, 1) := by decide +kernel
theorem dX8_timetable_39 : decode cX8_timetable 39 = .ok (.putfield 49, 3) := by decide +kernel
theorem dX8_timetable_42 : decode cX8_timetable 42 = .ok (.aload_n 0, 1) := by decide +kernel
theorem dX8_timetable_43 : decode cX8_timetable 43 = .ok (.aload_n 0, 1) := by decide +kernel
theorem dX8_timetable_44 : decode cX8_timetable 44 = .ok (.getfield 10, 3) := by decide +kernel
theorem dX8_timetable_47 : decode cX8_timetable 47 = .ok (.getfield 91, 3) := by decide +kernel
theorem dX8_timetable_50 : decode cX8_timetable 50 = .ok (.putfield 35, 3) := by decide +kernel
theorem dX8_timetable_53 : decode cX8_timetable 53 = .ok (.iload_n 1, 1) := by decide +kernel
theorem dX8_timetable_54 : decode cX8_timetable 54 = .ok (.ifCond .ne 13, 3) := by decide +kernel
theorem dX8_timetable_57 : decode cX8_timetable 57 = .ok (.iconst (-1), 1) := by decide +kernel
theorem dX8_timetable_58 : decode cX8_timetable 58 = .ok (.aload_n 0, 1) := by decide +kernel
theorem dX8_timetable_59 : decode cX8_timetable 59 = .ok (.getfield 10, 3) := by decide +kernel
theorem dX8_timetable_62 : decode cX8_timetable 62 = .ok (.getfield 92, 3) := by decide +kernel
theorem dX8_timetable_65 : decode cX8_timetable 65 = .ok (.isub, 1) := by decide +kernel
theorem dX8_timetable_66 : decode cX8_timetable 66 = .ok (.ireturn, 1) := by decide +kernel
theorem dX8_timetable_67 : decode cX8_timetable 67 = .ok (.aload_n 0, 1) := by decide +kernel
theorem dX8_timetable_68 : decode cX8_timetable 68 = .ok (.getfield 24, 3) := by decide +kernel
theorem dX8_timetable_71 : decode cX8_timetable 71 = .ok (.getfield 95, 3) := by decide +kernel
theorem dX8_timetable_74 : decode cX8_timetable 74 = .ok (.astore_n 2, 1) := by decide +kernel
theorem dX8_timetable_75 : decode cX8_timetable 75 = .ok (.aload_n 0, 1) := by decide +kernel
theorem dX8_timetable_76 : decode cX8_timetable 76 = .ok (.getfield 24, 3) := by decide +kernel
theorem dX8_timetable_79 : decode cX8_timetable 79 = .ok (.aload_n 0, 1) := by decide +kernel
theorem dX8_timetable_80 : decode cX8_timetable 80 = .ok (.getfield 31, 3) := by decide +kernel
theorem dX8_timetable_83 : decode cX8_timetable 83 = .ok (.putfield 95, 3) := by decide +kernel
theorem dX8_timetable_86 : decode cX8_timetable 86 = .ok (.aload_n 0, 1) := by decide +kernel
theorem dX8_timetable_87 : decode cX8_timetable 87 = .ok (.aload_n 2, 1) := by decide +kernel
theorem dX8_timetable_88 : decode cX8_timetable 88 = .ok (.putfield 31, 3) := by decide +kernel
theorem dX8_timetable_91 : decode cX8_timetable 91 = .ok (.aload_n 0, 1) := by decide +kernel
theorem dX8_timetable_92 : decode cX8_timetable 92 = .ok (.getfield 24, 3) := by decide +kernel
theorem dX8_timetable_95 : decode cX8_timetable 95 = .ok (.getfield 95, 3) := by decide +kernel
theorem dX8_timetable_98 : decode cX8_timetable 98 = .ok (.getfield 98, 3) := by decide +kernel
theorem dX8_timetable_101 : decode cX8_timetable 101 = .ok (.ireturn, 1) := by decide +kernel
theorem dX8_fault_0 : decode cX8_fault 0 = .ok (.aload_n 0, 1) := by decide +kernel
theorem dX8_fault_1 : decode cX8_fault 1 = .ok (.getfield 35, 3) := by decide +kernel
theorem dX8_fault_4 : decode cX8_fault 4 = .ok (.ireturn, 1) := by decide +kernel
set_option maxRecDepth 20000 in
theorem ggX8_keeper_Jx4a65c_size_8abf5 : GoodIn wsX8_keeper wsJx4a65c_size_8abf5 := goodIn_r _ [11, 12, 100, 101, 102] (by decide +kernel) (by decide +kernel)
set_option maxRecDepth 20000 in
theorem gX8_keeper_Jx4a65c_size_8abf5 : GoodIn wsX8_keeper (wsV RX8 63 RJx4a65c yJx4a65c_size_8abf5 wsJx4a65c_size_8abf5) := goodIn_app (goodIn_of _ (by decide +kernel)) ggX8_keeper_Jx4a65c_size_8abf5
set_option maxRecDepth 20000 in
theorem ggX8_keeper_X8_isBridge : GoodIn wsX8_keeper wsX8_isBridge := goodIn_r _ [17, 1, 18, 7, 8, 9, 10, 11, 12, 19, 20, 16, 21, 85, 86, 87, 88, 89, 90, 91, 92, 93, 94, 95, 96, 100, 101, 102] (by decide +kernel) (by decide +kernel)
set_option maxRecDepth 20000 in
theorem gX8_keeper_X8_isBridge : GoodIn wsX8_keeper (wsV RX8 104 RX8 yX8_isBridge wsX8_isBridge) := goodIn_app (goodIn_of _ (by decide +kernel)) ggX8_keeper_X8_isBridge
set_option maxRecDepth 20000 in
theorem ggX8_keeper_X1_init : GoodIn wsX8_keeper wsX1_init := goodIn_r _ [24, 25, 26, 27, 28, 29, 30, 97, 98, 99] (by decide +kernel) (by decide +kernel)
set_option maxRecDepth 20000 in
theorem gX8_keeper_X1_init : GoodIn wsX8_keeper (wsX1_init) := ggX8_keeper_X1_init
set_option maxRecDepth 20000 in
theorem ggX8_keeper_Jx4a65c_add_9ea2d : GoodIn wsX8_keeper wsJx4a65c_add_9ea2d := goodIn_r _ [34, 35, 36, 37, 12, 38, 39, 40, 10, 41, 42, 43, 44, 45, 46, 47, 48, 49, 50, 51, 52, 53, 54, 55, 56, 57, 58, 59, 60, 61, 62, 63, 64, 65, 66, 67, 68, 69, 70, 71, 72, 73, 74, 75, 76, 77, 78, 79, 80, 81, 82, 83, 84, 100, 101, 102] (by decide +kernel) (by decide +kernel)
set_option maxRecDepth 20000 in
theorem gX8_keeper_Jx4a65c_add_9ea2d : GoodIn wsX8_keeper (wsV RX8 73 RJx4a65c yJx4a65c_add_9ea2d wsJx4a65c_add_9ea2d) := goodIn_app (goodIn_of _ (by decide +kernel)) ggX8_keeper_Jx4a65c_add_9ea2d
theorem dX8_keeper_0 : decode cX8_keeper 0 = .ok (.aload_n 0, 1) := by decide +kernel
theorem dX8_keeper_1 : decode cX8_keeper 1 = .ok (.getfield 24, 3) := by decide +kernel
theorem dX8_keeper_4 : decode cX8_keeper 4 = .ok (.getfield 56, 3) := by decide +kernel
theorem dX8_keeper_7 : decode cX8_keeper 7 = .ok (.ifCond .ne 25, 3) := by decide +kernel
theorem dX8_keeper_10 : decode cX8_keeper 10 = .ok (.aload_n 0, 1) := by decide +kernel
theorem dX8_keeper_11 : decode cX8_keeper 11 = .ok (.getfield 24, 3) := by decide +kernel
theorem dX8_keeper_14 : decode cX8_keeper 14 = .ok (.getfield 101, 3) := by decide +kernel
theorem dX8_keeper_17 : decode cX8_keeper 17 = .ok (.invokevirtual 63, 3) := by decide +kernel
theorem dX8_keeper_20 : decode cX8_keeper 20 = .ok (.iconst 4, 1) := by decide +kernel
theorem dX8_keeper_21 : decode cX8_keeper 21 = .ok (.if_icmp .ge 11, 3) := by decide +kernel
theorem dX8_keeper_24 : decode cX8_keeper 24 = .ok (.aload_n 0, 1) := by decide +kernel
theorem dX8_keeper_25 : decode cX8_keeper 25 = .ok (.iload_n 1, 1) := by decide +kernel
theorem dX8_keeper_26 : decode cX8_keeper 26 = .ok (.invokevirtual 104, 3) := by decide +kernel
theorem dX8_keeper_29 : decode cX8_keeper 29 = .ok (.ifCond .ne 5, 3) := by decide +kernel
theorem dX8_keeper_32 : decode cX8_keeper 32 = .ok (.iconst (-1), 1) := by decide +kernel
theorem dX8_keeper_33 : decode cX8_keeper 33 = .ok (.ireturn, 1) := by decide +kernel
theorem dX8_keeper_34 : decode cX8_keeper 34 = .ok (.aload_n 0, 1) := by decide +kernel
theorem dX8_keeper_35 : decode cX8_keeper 35 = .ok (.getfield 24, 3) := by decide +kernel
theorem dX8_keeper_38 : decode cX8_keeper 38 = .ok (.getfield 101, 3) := by decide +kernel
theorem dX8_keeper_41 : decode cX8_keeper 41 = .ok (.new 108, 3) := by decide +kernel
theorem dX8_keeper_44 : decode cX8_keeper 44 = .ok (.dup, 1) := by decide +kernel
theorem dX8_keeper_45 : decode cX8_keeper 45 = .ok (.iload_n 1, 1) := by decide +kernel
theorem dX8_keeper_46 : decode cX8_keeper 46 = .ok (.invokespecial 110, 3) := by decide +kernel
theorem dX8_keeper_49 : decode cX8_keeper 49 = .ok (.invokevirtual 73, 3) := by decide +kernel
theorem dX8_keeper_52 : decode cX8_keeper 52 = .ok (.pop, 1) := by decide +kernel
theorem dX8_keeper_53 : decode cX8_keeper 53 = .ok (.aload_n 0, 1) := by decide +kernel
theorem dX8_keeper_54 : decode cX8_keeper 54 = .ok (.getfield 24, 3) := by decide +kernel
theorem dX8_keeper_57 : decode cX8_keeper 57 = .ok (.getfield 101, 3) := by decide +kernel
theorem dX8_keeper_60 : decode cX8_keeper 60 = .ok (.invokevirtual 63, 3) := by decide +kernel
theorem dX8_keeper_63 : decode cX8_keeper 63 = .ok (.iconst 1, 1) := by decide +kernel
theorem dX8_keeper_64 : decode cX8_keeper 64 = .ok (.isub, 1) := by decide +kernel
theorem dX8_keeper_65 : decode cX8_keeper 65 = .ok (.ireturn, 1) := by decide +kernel
set_option maxRecDepth 20000 in
theorem ggX8_legs_X8_isWithin : GoodIn wsX8_legs wsX8_isWithin := goodIn_r _ [7] (by decide +kernel) (by decide +kernel)
set_option maxRecDepth 20000 in
theorem gX8_legs_X8_isWithin : GoodIn wsX8_legs (va_wsS RX8 52 yX8_isWithin wsX8_isWithin) := goodIn_app (goodIn_of _ (by decide +kernel)) ggX8_legs_X8_isWithin
theorem dX8_legs_0 : decode cX8_legs 0 = .ok (.aload_n 0, 1) := by decide +kernel
theorem dX8_legs_1 : decode cX8_legs 1 = .ok (.getfield 24, 3) := by decide +kernel
theorem dX8_legs_4 : decode cX8_legs 4 = .ok (.getfield 56, 3) := by decide +kernel
theorem dX8_legs_7 : decode cX8_legs 7 = .ok (.ifCond .ne 13, 3) := by decide +kernel
theorem dX8_legs_10 : decode cX8_legs 10 = .ok (.iload_n 1, 1) := by decide +kernel
theorem dX8_legs_11 : decode cX8_legs 11 = .ok (.iconst 1, 1) := by decide +kernel
theorem dX8_legs_12 : decode cX8_legs 12 = .ok (.bipush 30, 2) := by decide +kernel
theorem dX8_legs_14 : decode cX8_legs 14 = .ok (.invokestatic 52, 3) := by decide +kernel
theorem dX8_legs_17 : decode cX8_legs 17 = .ok (.ifCond .ne 5, 3) := by decide +kernel
theorem dX8_legs_20 : decode cX8_legs 20 = .ok (.iconst 0, 1) := by decide +kernel
theorem dX8_legs_21 : decode cX8_legs 21 = .ok (.ireturn, 1) := by decide +kernel
theorem dX8_legs_22 : decode cX8_legs 22 = .ok (.aload_n 0, 1) := by decide +kernel
theorem dX8_legs_23 : decode cX8_legs 23 = .ok (.getfield 24, 3) := by decide +kernel
theorem dX8_legs_26 : decode cX8_legs 26 = .ok (.iload_n 1, 1) := by decide +kernel
theorem dX8_legs_27 : decode cX8_legs 27 = .ok (.putfield 112, 3) := by decide +kernel
theorem dX8_legs_30 : decode cX8_legs 30 = .ok (.iconst 1, 1) := by decide +kernel
theorem dX8_legs_31 : decode cX8_legs 31 = .ok (.ireturn, 1) := by decide +kernel
set_option maxRecDepth 20000 in
theorem ggX8_ship_Jx4a65c_isEmpty_aae02 : GoodIn wsX8_ship wsJx4a65c_isEmpty_aae02 := goodIn_r _ [12, 13, 111, 112, 113] (by decide +kernel) (by decide +kernel)
set_option maxRecDepth 20000 in
theorem gX8_ship_Jx4a65c_isEmpty_aae02 : GoodIn wsX8_ship (wsV RX8 115 RJx4a65c yJx4a65c_isEmpty_aae02 wsJx4a65c_isEmpty_aae02) := goodIn_app (goodIn_of _ (by decide +kernel)) ggX8_ship_Jx4a65c_isEmpty_aae02
set_option maxRecDepth 20000 in
theorem ggX8_ship_Jx4a65c_size_8abf5 : GoodIn wsX8_ship wsJx4a65c_size_8abf5 := goodIn_r _ [17, 13, 111, 112, 113] (by decide +kernel) (by decide +kernel)
set_option maxRecDepth 20000 in
theorem gX8_ship_Jx4a65c_size_8abf5 : GoodIn wsX8_ship (wsV RX8 63 RJx4a65c yJx4a65c_size_8abf5 wsJx4a65c_size_8abf5) := goodIn_app (goodIn_of _ (by decide +kernel)) ggX8_ship_Jx4a65c_size_8abf5
set_option maxRecDepth 20000 in
theorem ggX8_ship_X8_isWithin : GoodIn wsX8_ship wsX8_isWithin := goodIn_r _ [21] (by decide +kernel) (by decide +kernel)
set_option maxRecDepth 20000 in
theorem gX8_ship_X8_isWithin : GoodIn wsX8_ship (va_wsS RX8 52 yX8_isWithin wsX8_isWithin) := goodIn_app (goodIn_of _ (by decide +kernel)) ggX8_ship_X8_isWithin
set_option maxRecDepth 20000 in
theorem ggX8_ship_X4_init : GoodIn wsX8_ship wsX4_init := goodIn_r _ [24, 25, 26, 27, 28, 29, 30, 31, 32, 33, 34, 35, 36, 103, 104, 105, 106, 107, 108, 109, 110] (by decide +kernel) (by decide +kernel)
set_option maxRecDepth 20000 in
theorem gX8_ship_X4_init : GoodIn wsX8_ship (wsX4_init) := ggX8_ship_X4_init
set_option maxRecDepth 20000 in
theorem ggX8_ship_Jx4a65c_add_9ea2d : GoodIn wsX8_ship wsJx4a65c_add_9ea2d := goodIn_r _ [40, 41, 42, 43, 13, 44, 45, 46, 11, 47, 48, 49, 50, 51, 52, 53, 54, 55, 56, 57, 58, 59, 60, 61, 62, 63, 64, 65, 66, 67, 68, 69, 70, 71, 72, 73, 74, 75, 76, 77, 78, 79, 80, 81, 82, 83, 84, 85, 86, 87, 88, 89, 90, 111, 112, 113] (by decide +kernel) (by decide +kernel)
set_option maxRecDepth 20000 in
theorem gX8_ship_Jx4a65c_add_9ea2d : GoodIn wsX8_ship (wsV RX8 73 RJx4a65c yJx4a65c_add_9ea2d wsJx4a65c_add_9ea2d) := goodIn_app (goodIn_of _ (by decide +kernel)) ggX8_ship_Jx4a65c_add_9ea2d
theorem dX8_ship_0 : decode cX8_ship 0 = .ok (.aload_n 0, 1) := by decide +kernel
theorem dX8_ship_1 : decode cX8_ship 1 = .ok (.getfield 24, 3) := by decide +kernel
theorem dX8_ship_4 : decode cX8_ship 4 = .ok (.getfield 59, 3) := by decide +kernel
theorem dX8_ship_7 : decode cX8_ship 7 = .ok (.invokevirtual 115, 3) := by decide +kernel
theorem dX8_ship_10 : decode cX8_ship 10 = .ok (.ifCond .ne 18, 3) := by decide +kernel
theorem dX8_ship_13 : decode cX8_ship 13 = .ok (.aload_n 0, 1) := by decide +kernel
theorem dX8_ship_14 : decode cX8_ship 14 = .ok (.getfield 24, 3) := by decide +kernel
theorem dX8_ship_17 : decode cX8_ship 17 = .ok (.getfield 118, 3) := by decide +kernel
theorem dX8_ship_20 : decode cX8_ship 20 = .ok (.invokevirtual 63, 3) := by decide +kernel
theorem dX8_ship_23 : decode cX8_ship 23 = .ok (.bipush 40, 2) := by decide +kernel
theorem dX8_ship_25 : decode cX8_ship 25 = .ok (.if_icmp .lt 5, 3) := by decide +kernel
theorem dX8_ship_28 : decode cX8_ship 28 = .ok (.iconst (-1), 1) := by decide +kernel
theorem dX8_ship_29 : decode cX8_ship 29 = .ok (.ireturn, 1) := by decide +kernel
theorem dX8_ship_30 : decode cX8_ship 30 = .ok (.iload_n 1, 1) := by decide +kernel
theorem dX8_ship_31 : decode cX8_ship 31 = .ok (.iconst 0, 1) := by decide +kernel
theorem dX8_ship_32 : decode cX8_ship 32 = .ok (.sipush 500, 3) := by decide +kernel
theorem dX8_ship_35 : decode cX8_ship 35 = .ok (.invokestatic 52, 3) := by decide +kernel
theorem dX8_ship_38 : decode cX8_ship 38 = .ok (.ifCond .eq 20, 3) := by decide +kernel
theorem dX8_ship_41 : decode cX8_ship 41 = .ok (.iload_n 3, 1) := by decide +kernel
theorem dX8_ship_42 : decode cX8_ship 42 = .ok (.aload_n 0, 1) := by decide +kernel
theorem dX8_ship_43 : decode cX8_ship 43 = .ok (.getfield 24, 3) := by decide +kernel
theorem dX8_ship_46 : decode cX8_ship 46 = .ok (.getfield 56, 3) := by decide +kernel
theorem dX8_ship_49 : decode cX8_ship 49 = .ok (.sipush 1440, 3) := by decide +kernel
theorem dX8_ship_52 : decode cX8_ship 52 = .ok (.invokestatic 52, 3) := by decide +kernel
theorem dX8_ship_55 : decode cX8_ship 55 = .ok (.ifCond .ne 5, 3) := by decide +kernel
theorem dX8_ship_58 : decode cX8_ship 58 = .ok (.iconst (-1), 1) := by decide +kernel
theorem dX8_ship_59 : decode cX8_ship 59 = .ok (.ireturn, 1) := by decide +kernel
theorem dX8_ship_60 : decode cX8_ship 60 = .ok (.aload_n 0, 1) := by decide +kernel
theorem dX8_ship_61 : decode cX8_ship 61 = .ok (.getfield 24, 3) := by decide +kernel
theorem dX8_ship_64 : decode cX8_ship 64 = .ok (.getfield 118, 3) := by decide +kernel
theorem dX8_ship_67 : decode cX8_ship 67 = .ok (.new 121, 3) := by decide +kernel
theorem dX8_ship_70 : decode cX8_ship 70 = .ok (.dup, 1) := by decide +kernel
theorem dX8_ship_71 : decode cX8_ship 71 = .ok (.iload_n 1, 1) := by decide +kernel
theorem dX8_ship_72 : decode cX8_ship 72 = .ok (.iload_n 2, 1) := by decide +kernel
theorem dX8_ship_73 : decode cX8_ship 73 = .ok (.iload_n 3, 1) := by decide +kernel
theorem dX8_ship_74 : decode cX8_ship 74 = .ok (.invokespecial 123, 3) := by decide +kernel
theorem dX8_ship_77 : decode cX8_ship 77 = .ok (.invokevirtual 73, 3) := by decide +kernel
theorem dX8_ship_80 : decode cX8_ship 80 = .ok (.pop, 1) := by decide +kernel
theorem dX8_ship_81 : decode cX8_ship 81 = .ok (.aload_n 0, 1) := by decide +kernel
theorem dX8_ship_82 : decode cX8_ship 82 = .ok (.getfield 24, 3) := by decide +kernel
theorem dX8_ship_85 : decode cX8_ship 85 = .ok (.getfield 118, 3) := by decide +kernel
theorem dX8_ship_88 : decode cX8_ship 88 = .ok (.invokevirtual 63, 3) := by decide +kernel
theorem dX8_ship_91 : decode cX8_ship 91 = .ok (.iconst 1, 1) := by decide +kernel
theorem dX8_ship_92 : decode cX8_ship 92 = .ok (.isub, 1) := by decide +kernel
theorem dX8_ship_93 : decode cX8_ship 93 = .ok (.ireturn, 1) := by decide +kernel
set_option maxRecDepth 20000 in
theorem ggX8_go_X8_isWithin : GoodIn wsX8_go wsX8_isWithin := goodIn_r _ [6] (by decide +kernel) (by decide +kernel)
set_option maxRecDepth 20000 in
theorem gX8_go_X8_isWithin : GoodIn wsX8_go (va_wsS RX8 52 yX8_isWithin wsX8_isWithin) := goodIn_app (goodIn_of _ (by decide +kernel)) ggX8_go_X8_isWithin
set_option maxRecDepth 20000 in
theorem ggX8_go_X3_doMinute : GoodIn wsX8_go wsX3_doMinute := goodIn_r _ [11, 12, 13, 14, 15, 16, 17, 18, 19, 10, 20, 21, 22, 23, 24, 25, 26, 27, 28, 29, 30, 31, 32, 33, 34, 35, 36, 37, 38, 39, 40, 41, 42, 43, 44, 45, 46, 47, 48, 49, 50, 51, 52, 53, 54, 55, 56, 57, 58, 59, 60, 61, 62, 63, 64, 65, 66, 67, 68, 69, 70, 71, 72, 73, 74, 75, 76, 77, 78, 79, 80, 81, 82, 83, 84, 85, 86, 87, 88, 89, 90, 91, 92, 93, 94, 95, 96, 97, 98, 99, 100, 101, 102, 103, 104, 105, 106, 107, 108, 109, 110, 111, 112, 113, 114, 115, 116, 117, 118, 119, 4, 5, 6, 120, 121, 122, 123, 124, 125, 126, 127, 128, 129, 130, 131, 132, 133, 134, 135, 136, 137, 138, 139, 140, 141, 142, 143, 144, 145, 146, 147, 148, 149, 150, 151, 152, 153, 154, 155, 156, 157, 158, 159, 160, 161, 162, 163, 164, 165, 166, 167, 168, 169, 170, 171, 172, 173, 174, 175, 176, 177, 178, 179, 180, 181, 182, 183, 184, 185, 186, 187, 188, 194, 195, 196, 197, 198, 199, 200, 201, 202, 203, 204, 205, 206, 207, 208, 209, 210, 211, 212, 213, 214, 215, 216, 217, 218, 219, 220, 221, 222, 223, 224, 225, 226, 227, 228, 229, 230, 231, 232] (by decide +kernel) (by decide +kernel)
set_option maxRecDepth 20000 in
theorem gX8_go_X3_doMinute : GoodIn wsX8_go (wsV RX8 126 RX3 yX3_doMinute wsX3_doMinute) := goodIn_app (goodIn_of _ (by decide +kernel)) ggX8_go_X3_doMinute
theorem dX8_go_0 : decode cX8_go 0 = .ok (.iload_n 1, 1) := by decide +kernel
theorem dX8_go_1 : decode cX8_go 1 = .ok (.iconst 0, 1) := by decide +kernel
theorem dX8_go_2 : decode cX8_go 2 = .ok (.sipush 1440, 3) := by decide +kernel
theorem dX8_go_5 : decode cX8_go 5 = .ok (.invokestatic 52, 3) := by decide +kernel
theorem dX8_go_8 : decode cX8_go 8 = .ok (.ifCond .ne 5, 3) := by decide +kernel
theorem dX8_go_11 : decode cX8_go 11 = .ok (.iconst (-1), 1) := by decide +kernel
theorem dX8_go_12 : decode cX8_go 12 = .ok (.ireturn, 1) := by decide +kernel
theorem dX8_go_13 : decode cX8_go 13 = .ok (.iconst 0, 1) := by decide +kernel
theorem dX8_go_14 : decode cX8_go 14 = .ok (.istore_n 2, 1) := by decide +kernel
theorem dX8_go_15 : decode cX8_go 15 = .ok (.iload_n 2, 1) := by decide +kernel
theorem dX8_go_16 : decode cX8_go 16 = .ok (.iload_n 1, 1) := by decide +kernel
theorem dX8_go_17 : decode cX8_go 17 = .ok (.if_icmp .ge 29, 3) := by decide +kernel
theorem dX8_go_20 : decode cX8_go 20 = .ok (.aload_n 0, 1) := by decide +kernel
theorem dX8_go_21 : decode cX8_go 21 = .ok (.getfield 24, 3) := by decide +kernel
theorem dX8_go_24 : decode cX8_go 24 = .ok (.getfield 56, 3) := by decide +kernel
theorem dX8_go_27 : decode cX8_go 27 = .ok (.sipush 1440, 3) := by decide +kernel
theorem dX8_go_30 : decode cX8_go 30 = .ok (.if_icmp .ge 16, 3) := by decide +kernel
theorem dX8_go_33 : decode cX8_go 33 = .ok (.aload_n 0, 1) := by decide +kernel
theorem dX8_go_34 : decode cX8_go 34 = .ok (.getfield 24, 3) := by decide +kernel
theorem dX8_go_37 : decode cX8_go 37 = .ok (.invokevirtual 126, 3) := by decide +kernel
theorem dX8_go_40 : decode cX8_go 40 = .ok (.iinc 2 1, 3) := by decide +kernel
theorem dX8_go_43 : decode cX8_go 43 = .ok (.goto (-28), 3) := by decide +kernel
theorem dX8_go_46 : decode cX8_go 46 = .ok (.aload_n 0, 1) := by decide +kernel
theorem dX8_go_47 : decode cX8_go 47 = .ok (.getfield 24, 3) := by decide +kernel
theorem dX8_go_50 : decode cX8_go 50 = .ok (.getfield 56, 3) := by decide +kernel
theorem dX8_go_53 : decode cX8_go 53 = .ok (.ireturn, 1) := by decide +kernel
set_option maxRecDepth 20000 in
theorem ggX8_level_X8_isWithin : GoodIn wsX8_level wsX8_isWithin := goodIn_r _ [6] (by decide +kernel) (by decide +kernel)
set_option maxRecDepth 20000 in
theorem gX8_level_X8_isWithin : GoodIn wsX8_level (va_wsS RX8 52 yX8_isWithin wsX8_isWithin) := goodIn_app (goodIn_of _ (by decide +kernel)) ggX8_level_X8_isWithin
set_option maxRecDepth 20000 in
theorem ggX8_level_X6_levelIn : GoodIn wsX8_level wsX6_levelIn := goodIn_r _ [11, 12, 25] (by decide +kernel) (by decide +kernel)
set_option maxRecDepth 20000 in
theorem gX8_level_X6_levelIn : GoodIn wsX8_level (wsV RX8 129 RX6 yX6_levelIn wsX6_levelIn) := goodIn_app (goodIn_of _ (by decide +kernel)) ggX8_level_X6_levelIn
theorem dX8_level_0 : decode cX8_level 0 = .ok (.iload_n 1, 1) := by decide +kernel
theorem dX8_level_1 : decode cX8_level 1 = .ok (.iconst 0, 1) := by decide +kernel
theorem dX8_level_2 : decode cX8_level 2 = .ok (.sipush 1440, 3) := by decide +kernel
theorem dX8_level_5 : decode cX8_level 5 = .ok (.invokestatic 52, 3) := by decide +kernel
theorem dX8_level_8 : decode cX8_level 8 = .ok (.ifCond .eq 17, 3) := by decide +kernel
theorem dX8_level_11 : decode cX8_level 11 = .ok (.aload_n 0, 1) := by decide +kernel
theorem dX8_level_12 : decode cX8_level 12 = .ok (.getfield 24, 3) := by decide +kernel
theorem dX8_level_15 : decode cX8_level 15 = .ok (.getfield 77, 3) := by decide +kernel
theorem dX8_level_18 : decode cX8_level 18 = .ok (.iload_n 1, 1) := by decide +kernel
theorem dX8_level_19 : decode cX8_level 19 = .ok (.invokevirtual 129, 3) := by decide +kernel
theorem dX8_level_22 : decode cX8_level 22 = .ok (.goto 4, 3) := by decide +kernel
theorem dX8_level_25 : decode cX8_level 25 = .ok (.iconst (-1), 1) := by decide +kernel
theorem dX8_level_26 : decode cX8_level 26 = .ok (.ireturn, 1) := by decide +kernel
set_option maxRecDepth 20000 in
theorem ggX8_barred_X8_isBridge : GoodIn wsX8_barred wsX8_isBridge := goodIn_r _ [7, 1, 8, 9, 10, 11, 12, 13, 14, 15, 16, 6, 17, 26, 27, 28, 29, 30, 31, 32, 33, 34, 35, 36, 37, 38, 39, 40] (by decide +kernel) (by decide +kernel)
set_option maxRecDepth 20000 in
theorem gX8_barred_X8_isBridge : GoodIn wsX8_barred (wsV RX8 104 RX8 yX8_isBridge wsX8_isBridge) := goodIn_app (goodIn_of _ (by decide +kernel)) ggX8_barred_X8_isBridge
set_option maxRecDepth 20000 in
theorem ggX8_barred_X8_isWithin : GoodIn wsX8_barred wsX8_isWithin := goodIn_r _ [17] (by decide +kernel) (by decide +kernel)
set_option maxRecDepth 20000 in
theorem gX8_barred_X8_isWithin : GoodIn wsX8_barred (va_wsS RX8 52 yX8_isWithin wsX8_isWithin) := goodIn_app (goodIn_of _ (by decide +kernel)) ggX8_barred_X8_isWithin
set_option maxRecDepth 20000 in
theorem ggX8_barred_X7_touches : GoodIn wsX8_barred wsX7_touches := goodIn_r _ [22, 23, 24, 25, 41, 42, 43, 44, 45] (by decide +kernel) (by decide +kernel)
set_option maxRecDepth 20000 in
theorem gX8_barred_X7_touches : GoodIn wsX8_barred (wsV RX8 133 RX7 yX7_touches wsX7_touches) := goodIn_app (goodIn_of _ (by decide +kernel)) ggX8_barred_X7_touches
theorem dX8_barred_0 : decode cX8_barred 0 = .ok (.aload_n 0, 1) := by decide +kernel
theorem dX8_barred_1 : decode cX8_barred 1 = .ok (.iload_n 1, 1) := by decide +kernel
theorem dX8_barred_2 : decode cX8_barred 2 = .ok (.invokevirtual 104, 3) := by decide +kernel
theorem dX8_barred_5 : decode cX8_barred 5 = .ok (.ifCond .eq 14, 3) := by decide +kernel
theorem dX8_barred_8 : decode cX8_barred 8 = .ok (.iload_n 2, 1) := by decide +kernel
theorem dX8_barred_9 : decode cX8_barred 9 = .ok (.iconst 0, 1) := by decide +kernel
theorem dX8_barred_10 : decode cX8_barred 10 = .ok (.sipush 1440, 3) := by decide +kernel
theorem dX8_barred_13 : decode cX8_barred 13 = .ok (.invokestatic 52, 3) := by decide +kernel
theorem dX8_barred_16 : decode cX8_barred 16 = .ok (.ifCond .ne 5, 3) := by decide +kernel
theorem dX8_barred_19 : decode cX8_barred 19 = .ok (.iconst (-1), 1) := by decide +kernel
theorem dX8_barred_20 : decode cX8_barred 20 = .ok (.ireturn, 1) := by decide +kernel
theorem dX8_barred_21 : decode cX8_barred 21 = .ok (.aload_n 0, 1) := by decide +kernel
theorem dX8_barred_22 : decode cX8_barred 22 = .ok (.getfield 24, 3) := by decide +kernel
theorem dX8_barred_25 : decode cX8_barred 25 = .ok (.getfield 95, 3) := by decide +kernel
theorem dX8_barred_28 : decode cX8_barred 28 = .ok (.iload_n 1, 1) := by decide +kernel
theorem dX8_barred_29 : decode cX8_barred 29 = .ok (.iload_n 2, 1) := by decide +kernel
theorem dX8_barred_30 : decode cX8_barred 30 = .ok (.iload_n 2, 1) := by decide +kernel
theorem dX8_barred_31 : decode cX8_barred 31 = .ok (.invokevirtual 133, 3) := by decide +kernel
theorem dX8_barred_34 : decode cX8_barred 34 = .ok (.ifCond .eq 7, 3) := by decide +kernel
theorem dX8_barred_37 : decode cX8_barred 37 = .ok (.iconst 1, 1) := by decide +kernel
theorem dX8_barred_38 : decode cX8_barred 38 = .ok (.goto 4, 3) := by decide +kernel
theorem dX8_barred_41 : decode cX8_barred 41 = .ok (.iconst 0, 1) := by decide +kernel
theorem dX8_barred_42 : decode cX8_barred 42 = .ok (.ireturn, 1) := by decide +kernel
set_option maxRecDepth 20000 in
theorem ggX8_about_X8_isBridge : GoodIn wsX8_about wsX8_isBridge := goodIn_r _ [8, 1, 2, 9, 10, 11, 12, 13, 14, 15, 16, 7, 17, 46, 47, 48, 49, 50, 51, 52, 53, 54, 55, 56, 57, 58, 59, 60] (by decide +kernel) (by decide +kernel)
set_option maxRecDepth 20000 in
theorem gX8_about_X8_isBridge : GoodIn wsX8_about (wsV RX8 104 RX8 yX8_isBridge wsX8_isBridge) := goodIn_app (goodIn_of _ (by decide +kernel)) ggX8_about_X8_isBridge
set_option maxRecDepth 20000 in
theorem ggX8_about_Jx4a65c_get_915e3 : GoodIn wsX8_about wsJx4a65c_get_915e3 := goodIn_r _ [21, 14, 22, 23, 24, 25, 26, 27, 28, 29, 30, 31, 32, 12, 33, 34, 58, 59, 60] (by decide +kernel) (by decide +kernel)
set_option maxRecDepth 20000 in
theorem gX8_about_Jx4a65c_get_915e3 : GoodIn wsX8_about (wsV RX8 136 RJx4a65c yJx4a65c_get_915e3 wsJx4a65c_get_915e3) := goodIn_app (goodIn_of _ (by decide +kernel)) ggX8_about_Jx4a65c_get_915e3
set_option maxRecDepth 20000 in
theorem ggX8_about_X0_tell : GoodIn wsX8_about wsX0_tell := goodIn_r _ [39, 40, 41, 42, 43, 44, 45, 61, 62, 63, 64, 65, 66, 67, 68, 69, 70, 71, 72] (by decide +kernel) (by decide +kernel)
set_option maxRecDepth 20000 in
theorem gX8_about_X0_tell : GoodIn wsX8_about (wsV RX8 140 RX0 yX0_tell wsX0_tell) := goodIn_app (goodIn_of _ (by decide +kernel)) ggX8_about_X0_tell
theorem dX8_about_0 : decode cX8_about 0 = .ok (.aload_n 0, 1) := by decide +kernel
theorem dX8_about_1 : decode cX8_about 1 = .ok (.iload_n 1, 1) := by decide +kernel
theorem dX8_about_2 : decode cX8_about 2 = .ok (.invokevirtual 104, 3) := by decide +kernel
theorem dX8_about_5 : decode cX8_about 5 = .ok (.ifCond .eq 24, 3) := by decide +kernel
theorem dX8_about_8 : decode cX8_about 8 = .ok (.aload_n 0, 1) := by decide +kernel
theorem dX8_about_9 : decode cX8_about 9 = .ok (.getfield 24, 3) := by decide +kernel
theorem dX8_about_12 : decode cX8_about 12 = .ok (.getfield 59, 3) := by decide +kernel
theorem dX8_about_15 : decode cX8_about 15 = .ok (.iload_n 1, 1) := by decide +kernel
theorem dX8_about_16 : decode cX8_about 16 = .ok (.invokevirtual 136, 3) := by decide +kernel
theorem dX8_about_19 : decode cX8_about 19 = .ok (.checkcast 68, 3) := by decide +kernel
theorem dX8_about_22 : decode cX8_about 22 = .ok (.iload_n 2, 1) := by decide +kernel
theorem dX8_about_23 : decode cX8_about 23 = .ok (.invokevirtual 140, 3) := by decide +kernel
theorem dX8_about_26 : decode cX8_about 26 = .ok (.goto 4, 3) := by decide +kernel
theorem dX8_about_29 : decode cX8_about 29 = .ok (.iconst (-1), 1) := by decide +kernel
theorem dX8_about_30 : decode cX8_about 30 = .ok (.ireturn, 1) := by decide +kernel
set_option maxRecDepth 20000 in
theorem ggX8_told_X8_isShip : GoodIn wsX8_told wsX8_isShip := goodIn_r _ [13, 3, 4, 14, 15, 16, 17, 18, 19, 20, 21, 12, 22, 50, 51, 52, 53, 54, 55, 56, 57, 58, 59, 60, 61, 70, 71, 72] (by decide +kernel) (by decide +kernel)
set_option maxRecDepth 20000 in
theorem gX8_told_X8_isShip : GoodIn wsX8_told (wsV RX8 143 RX8 yX8_isShip wsX8_isShip) := goodIn_app (goodIn_of _ (by decide +kernel)) ggX8_told_X8_isShip
set_option maxRecDepth 20000 in
theorem ggX8_told_Jx4a65c_get_915e3 : GoodIn wsX8_told wsJx4a65c_get_915e3 := goodIn_r _ [26, 19, 27, 28, 29, 30, 31, 32, 33, 34, 35, 36, 37, 17, 38, 39, 70, 71, 72] (by decide +kernel) (by decide +kernel)
set_option maxRecDepth 20000 in
theorem gX8_told_Jx4a65c_get_915e3 : GoodIn wsX8_told (wsV RX8 136 RJx4a65c yJx4a65c_get_915e3 wsJx4a65c_get_915e3) := goodIn_app (goodIn_of _ (by decide +kernel)) ggX8_told_Jx4a65c_get_915e3
set_option maxRecDepth 20000 in
theorem ggX8_told_X3_whereOrWhereTo : GoodIn wsX8_told wsX3_whereOrWhereTo := goodIn_r _ [44, 45, 46, 47, 48, 49, 15, 16, 17, 18, 19, 62, 63, 64, 65, 66, 67, 68, 69, 55, 56, 57, 58, 59, 60, 61, 70, 71, 72] (by decide +kernel) (by decide +kernel)
set_option maxRecDepth 20000 in
theorem gX8_told_X3_whereOrWhereTo : GoodIn wsX8_told (wsV RX8 156 RX3 yX3_whereOrWhereTo wsX3_whereOrWhereTo) := goodIn_app (goodIn_of _ (by decide +kernel)) ggX8_told_X3_whereOrWhereTo
theorem dX8_told_0 : decode cX8_told 0 = .ok (.aload_n 0, 1) := by decide +kernel
theorem dX8_told_1 : decode cX8_told 1 = .ok (.iload_n 1, 1) := by decide +kernel
theorem dX8_told_2 : decode cX8_told 2 = .ok (.invokevirtual 143, 3) := by decide +kernel
theorem dX8_told_5 : decode cX8_told 5 = .ok (.ifCond .ne 13, 3) := by decide +kernel
theorem dX8_told_8 : decode cX8_told 8 = .ok (.new 146, 3) := by decide +kernel
theorem dX8_told_11 : decode cX8_told 11 = .ok (.dup, 1) := by decide +kernel
theorem dX8_told_12 : decode cX8_told 12 = .ok (.ldc 148, 2) := by decide +kernel
theorem dX8_told_14 : decode cX8_told 14 = .ok (.invokespecial 150, 3) := by decide +kernel
theorem dX8_told_17 : decode cX8_told 17 = .ok (.athrow, 1) := by decide +kernel
theorem dX8_told_18 : decode cX8_told 18 = .ok (.aload_n 0, 1) := by decide +kernel
theorem dX8_told_19 : decode cX8_told 19 = .ok (.getfield 24, 3) := by decide +kernel
theorem dX8_told_22 : decode cX8_told 22 = .ok (.getfield 118, 3) := by decide +kernel
theorem dX8_told_25 : decode cX8_told 25 = .ok (.iload_n 1, 1) := by decide +kernel
theorem dX8_told_26 : decode cX8_told 26 = .ok (.invokevirtual 136, 3) := by decide +kernel
theorem dX8_told_29 : decode cX8_told 29 = .ok (.checkcast 121, 3) := by decide +kernel
theorem dX8_told_32 : decode cX8_told 32 = .ok (.astore_n 3, 1) := by decide +kernel
theorem dX8_told_33 : decode cX8_told 33 = .ok (.iload_n 2, 1) := by decide +kernel
theorem dX8_told_34 : decode cX8_told 34 = .ok (.tableswitch 54 0 3 #[30, 35, 44, 49], 30) := by decide +kernel
theorem dX8_told_64 : decode cX8_told 64 = .ok (.aload_n 3, 1) := by decide +kernel
theorem dX8_told_65 : decode cX8_told 65 = .ok (.getfield 153, 3) := by decide +kernel
theorem dX8_told_68 : decode cX8_told 68 = .ok (.ireturn, 1) := by decide +kernel
theorem dX8_told_69 : decode cX8_told 69 = .ok (.aload_n 0, 1) := by decide +kernel
theorem dX8_told_70 : decode cX8_told 70 = .ok (.getfield 24, 3) := by decide +kernel
theorem dX8_told_73 : decode cX8_told 73 = .ok (.aload_n 3, 1) := by decide +kernel
theorem dX8_told_74 : decode cX8_told 74 = .ok (.invokevirtual 156, 3) := by decide +kernel
theorem dX8_told_77 : decode cX8_told 77 = .ok (.ireturn, 1) := by decide +kernel
theorem dX8_told_78 : decode cX8_told 78 = .ok (.aload_n 3, 1) := by decide +kernel
theorem dX8_told_79 : decode cX8_told 79 = .ok (.getfield 160, 3) := by decide +kernel
theorem dX8_told_82 : decode cX8_told 82 = .ok (.ireturn, 1) := by decide +kernel
theorem dX8_told_83 : decode cX8_told 83 = .ok (.aload_n 3, 1) := by decide +kernel
theorem dX8_told_84 : decode cX8_told 84 = .ok (.getfield 163, 3) := by decide +kernel
theorem dX8_told_87 : decode cX8_told 87 = .ok (.ireturn, 1) := by decide +kernel
theorem dX8_told_88 : decode cX8_told 88 = .ok (.new 146, 3) := by decide +kernel
theorem dX8_told_91 : decode cX8_told 91 = .ok (.dup, 1) := by decide +kernel
theorem dX8_told_92 : decode cX8_told 92 = .ok (.ldc 166, 2) := by decide +kernel
theorem dX8_told_94 : decode cX8_told 94 = .ok (.invokespecial 150, 3) := by decide +kernel
theorem dX8_told_97 : decode cX8_told 97 = .ok (.athrow, 1) := by decide +kernel
set_option maxRecDepth 20000 in
theorem ggX8_through_X8_isShip : GoodIn wsX8_through wsX8_isShip := goodIn_r _ [9, 1, 2, 10, 11, 12, 13, 14, 15, 16, 17, 8, 18, 41, 42, 43, 44, 45, 46, 47, 48, 49, 50, 51, 52, 61, 62, 63] (by decide +kernel) (by decide +kernel)
set_option maxRecDepth 20000 in
theorem gX8_through_X8_isShip : GoodIn wsX8_through (wsV RX8 143 RX8 yX8_isShip wsX8_isShip) := goodIn_app (goodIn_of _ (by decide +kernel)) ggX8_through_X8_isShip
set_option maxRecDepth 20000 in
theorem ggX8_through_X8_isBridge : GoodIn wsX8_through wsX8_isBridge := goodIn_r _ [22, 1, 23, 10, 11, 12, 13, 14, 15, 16, 17, 8, 18, 41, 42, 43, 44, 45, 46, 47, 48, 49, 50, 51, 52, 61, 62, 63] (by decide +kernel) (by decide +kernel)
set_option maxRecDepth 20000 in
theorem gX8_through_X8_isBridge : GoodIn wsX8_through (wsV RX8 104 RX8 yX8_isBridge wsX8_isBridge) := goodIn_app (goodIn_of _ (by decide +kernel)) ggX8_through_X8_isBridge
set_option maxRecDepth 20000 in
theorem ggX8_through_Jx4a65c_get_915e3 : GoodIn wsX8_through wsJx4a65c_get_915e3 := goodIn_r _ [27, 15, 28, 29, 30, 31, 32, 33, 34, 35, 36, 37, 38, 13, 39, 40, 61, 62, 63] (by decide +kernel) (by decide +kernel)
set_option maxRecDepth 20000 in
theorem gX8_through_Jx4a65c_get_915e3 : GoodIn wsX8_through (wsV RX8 136 RJx4a65c yJx4a65c_get_915e3 wsJx4a65c_get_915e3) := goodIn_app (goodIn_of _ (by decide +kernel)) ggX8_through_Jx4a65c_get_915e3
theorem dX8_through_0 : decode cX8_through 0 = .ok (.aload_n 0, 1) := by decide +kernel
theorem dX8_through_1 : decode cX8_through 1 = .ok (.iload_n 1, 1) := by decide +kernel
theorem dX8_through_2 : decode cX8_through 2 = .ok (.invokevirtual 143, 3) := by decide +kernel
theorem dX8_through_5 : decode cX8_through 5 = .ok (.ifCond .eq 33, 3) := by decide +kernel
theorem dX8_through_8 : decode cX8_through 8 = .ok (.aload_n 0, 1) := by decide +kernel
theorem dX8_through_9 : decode cX8_through 9 = .ok (.iload_n 2, 1) := by decide +kernel
theorem dX8_through_10 : decode cX8_through 10 = .ok (.invokevirtual 104, 3) := by decide +kernel
theorem dX8_through_13 : decode cX8_through 13 = .ok (.ifCond .eq 25, 3) := by decide +kernel
theorem dX8_through_16 : decode cX8_through 16 = .ok (.aload_n 0, 1) := by decide +kernel
theorem dX8_through_17 : decode cX8_through 17 = .ok (.getfield 24, 3) := by decide +kernel
theorem dX8_through_20 : decode cX8_through 20 = .ok (.getfield 118, 3) := by decide +kernel
theorem dX8_through_23 : decode cX8_through 23 = .ok (.iload_n 1, 1) := by decide +kernel
theorem dX8_through_24 : decode cX8_through 24 = .ok (.invokevirtual 136, 3) := by decide +kernel
theorem dX8_through_27 : decode cX8_through 27 = .ok (.checkcast 121, 3) := by decide +kernel
theorem dX8_through_30 : decode cX8_through 30 = .ok (.getfield 168, 3) := by decide +kernel
theorem dX8_through_33 : decode cX8_through 33 = .ok (.iload_n 2, 1) := by decide +kernel
theorem dX8_through_34 : decode cX8_through 34 = .ok (.iaload, 1) := by decide +kernel
theorem dX8_through_35 : decode cX8_through 35 = .ok (.goto 4, 3) := by decide +kernel
theorem dX8_through_38 : decode cX8_through 38 = .ok (.iconst (-1), 1) := by decide +kernel
theorem dX8_through_39 : decode cX8_through 39 = .ok (.ireturn, 1) := by decide +kernel
set_option maxRecDepth 20000 in
theorem ggX8_keeps_Jx4a65c_size_8abf5 : GoodIn wsX8_keeps wsJx4a65c_size_8abf5 := goodIn_r _ [11, 12, 49, 50, 51] (by decide +kernel) (by decide +kernel)
set_option maxRecDepth 20000 in
theorem gX8_keeps_Jx4a65c_size_8abf5 : GoodIn wsX8_keeps (wsV RX8 63 RJx4a65c yJx4a65c_size_8abf5 wsJx4a65c_size_8abf5) := goodIn_app (goodIn_of _ (by decide +kernel)) ggX8_keeps_Jx4a65c_size_8abf5
set_option maxRecDepth 20000 in
theorem ggX8_keeps_X8_isWithin : GoodIn wsX8_keeps wsX8_isWithin := goodIn_r _ [16] (by decide +kernel) (by decide +kernel)
set_option maxRecDepth 20000 in
theorem gX8_keeps_X8_isWithin : GoodIn wsX8_keeps (va_wsS RX8 52 yX8_isWithin wsX8_isWithin) := goodIn_app (goodIn_of _ (by decide +kernel)) ggX8_keeps_X8_isWithin
set_option maxRecDepth 20000 in
theorem ggX8_keeps_Jx4a65c_get_915e3 : GoodIn wsX8_keeps wsJx4a65c_get_915e3 := goodIn_r _ [20, 12, 21, 22, 23, 24, 25, 26, 27, 28, 29, 30, 31, 10, 32, 33, 49, 50, 51] (by decide +kernel) (by decide +kernel)
set_option maxRecDepth 20000 in
theorem gX8_keeps_Jx4a65c_get_915e3 : GoodIn wsX8_keeps (wsV RX8 136 RJx4a65c yJx4a65c_get_915e3 wsJx4a65c_get_915e3) := goodIn_app (goodIn_of _ (by decide +kernel)) ggX8_keeps_Jx4a65c_get_915e3
theorem dX8_keeps_0 : decode cX8_keeps 0 = .ok (.iload_n 1, 1) := by decide +kernel
theorem dX8_keeps_1 : decode cX8_keeps 1 = .ok (.iconst 0, 1) := by decide +kernel
theorem dX8_keeps_2 : decode cX8_keeps 2 = .ok (.aload_n 0, 1) := by decide +kernel
theorem dX8_keeps_3 : decode cX8_keeps 3 = .ok (.getfield 24, 3) := by decide +kernel
theorem dX8_keeps_6 : decode cX8_keeps 6 = .ok (.getfield 101, 3) := by decide +kernel
theorem dX8_keeps_9 : decode cX8_keeps 9 = .ok (.invokevirtual 63, 3) := by decide +kernel
theorem dX8_keeps_12 : decode cX8_keeps 12 = .ok (.iconst 1, 1) := by decide +kernel
theorem dX8_keeps_13 : decode cX8_keeps 13 = .ok (.isub, 1) := by decide +kernel
theorem dX8_keeps_14 : decode cX8_keeps 14 = .ok (.invokestatic 52, 3) := by decide +kernel
theorem dX8_keeps_17 : decode cX8_keeps 17 = .ok (.ifCond .ne 5, 3) := by decide +kernel
theorem dX8_keeps_20 : decode cX8_keeps 20 = .ok (.iconst (-1), 1) := by decide +kernel
theorem dX8_keeps_21 : decode cX8_keeps 21 = .ok (.ireturn, 1) := by decide +kernel
theorem dX8_keeps_22 : decode cX8_keeps 22 = .ok (.aload_n 0, 1) := by decide +kernel
theorem dX8_keeps_23 : decode cX8_keeps 23 = .ok (.getfield 24, 3) := by decide +kernel
theorem dX8_keeps_26 : decode cX8_keeps 26 = .ok (.getfield 101, 3) := by decide +kernel
theorem dX8_keeps_29 : decode cX8_keeps 29 = .ok (.iload_n 1, 1) := by decide +kernel
theorem dX8_keeps_30 : decode cX8_keeps 30 = .ok (.invokevirtual 136, 3) := by decide +kernel
theorem dX8_keeps_33 : decode cX8_keeps 33 = .ok (.checkcast 108, 3) := by decide +kernel
theorem dX8_keeps_36 : decode cX8_keeps 36 = .ok (.astore_n 3, 1) := by decide +kernel
theorem dX8_keeps_37 : decode cX8_keeps 37 = .ok (.iload_n 2, 1) := by decide +kernel
theorem dX8_keeps_38 : decode cX8_keeps 38 = .ok (.tableswitch 41 0 2 #[26, 31, 36], 26) := by decide +kernel
theorem dX8_keeps_64 : decode cX8_keeps 64 = .ok (.aload_n 3, 1) := by decide +kernel
theorem dX8_keeps_65 : decode cX8_keeps 65 = .ok (.getfield 172, 3) := by decide +kernel
theorem dX8_keeps_68 : decode cX8_keeps 68 = .ok (.ireturn, 1) := by decide +kernel
theorem dX8_keeps_69 : decode cX8_keeps 69 = .ok (.aload_n 3, 1) := by decide +kernel
theorem dX8_keeps_70 : decode cX8_keeps 70 = .ok (.getfield 175, 3) := by decide +kernel
theorem dX8_keeps_73 : decode cX8_keeps 73 = .ok (.ireturn, 1) := by decide +kernel
theorem dX8_keeps_74 : decode cX8_keeps 74 = .ok (.aload_n 3, 1) := by decide +kernel
theorem dX8_keeps_75 : decode cX8_keeps 75 = .ok (.getfield 178, 3) := by decide +kernel
theorem dX8_keeps_78 : decode cX8_keeps 78 = .ok (.ireturn, 1) := by decide +kernel
theorem dX8_keeps_79 : decode cX8_keeps 79 = .ok (.iconst (-1), 1) := by decide +kernel
theorem dX8_keeps_80 : decode cX8_keeps 80 = .ok (.ireturn, 1) := by decide +kernel
set_option maxRecDepth 20000 in
theorem ggX8_soonest_Jx4a65c_isEmpty_aae02 : GoodIn wsX8_soonest wsJx4a65c_isEmpty_aae02 := goodIn_r _ [7, 8, 81, 82, 83] (by decide +kernel) (by decide +kernel)
set_option maxRecDepth 20000 in
theorem gX8_soonest_Jx4a65c_isEmpty_aae02 : GoodIn wsX8_soonest (wsV RX8 115 RJx4a65c yJx4a65c_isEmpty_aae02 wsJx4a65c_isEmpty_aae02) := goodIn_app (goodIn_of _ (by decide +kernel)) ggX8_soonest_Jx4a65c_isEmpty_aae02
set_option maxRecDepth 20000 in
theorem ggX8_soonest_X8_isWithin : GoodIn wsX8_soonest wsX8_isWithin := goodIn_r _ [12] (by decide +kernel) (by decide +kernel)
set_option maxRecDepth 20000 in
theorem gX8_soonest_X8_isWithin : GoodIn wsX8_soonest (va_wsS RX8 52 yX8_isWithin wsX8_isWithin) := goodIn_app (goodIn_of _ (by decide +kernel)) ggX8_soonest_X8_isWithin
set_option maxRecDepth 20000 in
theorem ggX8_soonest_X3_foretell : GoodIn wsX8_soonest wsX3_foretell := goodIn_r _ [17, 18, 19, 20, 21, 22, 23, 6, 24, 8, 25, 26, 27, 16, 28, 29, 30, 31, 32, 33, 34, 35, 36, 37, 38, 39, 40, 41, 42, 43, 44, 45, 46, 47, 48, 49, 50, 51, 52, 53, 54, 55, 56, 57, 58, 59, 60, 61, 62, 63, 64, 65, 66, 67, 68, 74, 75, 76, 77, 78, 79, 80, 84, 85, 86, 87, 88, 89, 90, 91, 92, 93, 94, 95, 81, 82, 83, 96, 97, 98, 99, 100, 101] (by decide +kernel) (by decide +kernel)
set_option maxRecDepth 20000 in
theorem gX8_soonest_X3_foretell : GoodIn wsX8_soonest (wsV RX8 181 RX3 yX3_foretell wsX3_foretell) := goodIn_app (goodIn_of _ (by decide +kernel)) ggX8_soonest_X3_foretell
theorem dX8_soonest_0 : decode cX8_soonest 0 = .ok (.aload_n 0, 1) := by decide +kernel
theorem dX8_soonest_1 : decode cX8_soonest 1 = .ok (.getfield 24, 3) := by decide +kernel
theorem dX8_soonest_4 : decode cX8_soonest 4 = .ok (.getfield 59, 3) := by decide +kernel
theorem dX8_soonest_7 : decode cX8_soonest 7 = .ok (.invokevirtual 115, 3) := by decide +kernel
theorem dX8_soonest_10 : decode cX8_soonest 10 = .ok (.ifCond .ne 25, 3) := by decide +kernel
theorem dX8_soonest_13 : decode cX8_soonest 13 = .ok (.iload_n 1, 1) := by decide +kernel
theorem dX8_soonest_14 : decode cX8_soonest 14 = .ok (.iconst 0, 1) := by decide +kernel
theorem dX8_soonest_15 : decode cX8_soonest 15 = .ok (.sipush 500, 3) := by decide +kernel
theorem dX8_soonest_18 : decode cX8_soonest 18 = .ok (.invokestatic 52, 3) := by decide +kernel
theorem dX8_soonest_21 : decode cX8_soonest 21 = .ok (.ifCond .eq 14, 3) := by decide +kernel
theorem dX8_soonest_24 : decode cX8_soonest 24 = .ok (.iload_n 3, 1) := by decide +kernel
theorem dX8_soonest_25 : decode cX8_soonest 25 = .ok (.iconst 0, 1) := by decide +kernel
theorem dX8_soonest_26 : decode cX8_soonest 26 = .ok (.sipush 1440, 3) := by decide +kernel
theorem dX8_soonest_29 : decode cX8_soonest 29 = .ok (.invokestatic 52, 3) := by decide +kernel
theorem dX8_soonest_32 : decode cX8_soonest 32 = .ok (.ifCond .ne 5, 3) := by decide +kernel
theorem dX8_soonest_35 : decode cX8_soonest 35 = .ok (.iconst (-1), 1) := by decide +kernel
theorem dX8_soonest_36 : decode cX8_soonest 36 = .ok (.ireturn, 1) := by decide +kernel
theorem dX8_soonest_37 : decode cX8_soonest 37 = .ok (.aload_n 0, 1) := by decide +kernel
theorem dX8_soonest_38 : decode cX8_soonest 38 = .ok (.getfield 24, 3) := by decide +kernel
theorem dX8_soonest_41 : decode cX8_soonest 41 = .ok (.iload_n 1, 1) := by decide +kernel
theorem dX8_soonest_42 : decode cX8_soonest 42 = .ok (.iload_n 2, 1) := by decide +kernel
theorem dX8_soonest_43 : decode cX8_soonest 43 = .ok (.iload_n 3, 1) := by decide +kernel
theorem dX8_soonest_44 : decode cX8_soonest 44 = .ok (.invokevirtual 181, 3) := by decide +kernel
theorem dX8_soonest_47 : decode cX8_soonest 47 = .ok (.ireturn, 1) := by decide +kernel
set_option maxRecDepth 20000 in
theorem ggX8_count_Jx4a65c_size_8abf5 : GoodIn wsX8_count wsJx4a65c_size_8abf5 := goodIn_r _ [12, 13, 63, 64, 65] (by decide +kernel) (by decide +kernel)
set_option maxRecDepth 20000 in
theorem gX8_count_Jx4a65c_size_8abf5 : GoodIn wsX8_count (wsV RX8 63 RJx4a65c yJx4a65c_size_8abf5 wsJx4a65c_size_8abf5) := goodIn_app (goodIn_of _ (by decide +kernel)) ggX8_count_Jx4a65c_size_8abf5
set_option maxRecDepth 20000 in
theorem ggX8_count_X3_shipsAllThrough : GoodIn wsX8_count wsX3_shipsAllThrough := goodIn_r _ [18, 19, 20, 21, 22, 9, 10, 11, 12, 13, 23, 24, 25, 26, 27, 28, 29, 30, 31, 32, 33, 34, 35, 36, 37, 38, 39, 54, 55, 56, 57, 58, 59, 60, 66, 67, 68, 69, 70, 71, 72, 73, 63, 64, 65] (by decide +kernel) (by decide +kernel)
set_option maxRecDepth 20000 in
theorem gX8_count_X3_shipsAllThrough : GoodIn wsX8_count (wsV RX8 185 RX3 yX3_shipsAllThrough wsX3_shipsAllThrough) := goodIn_app (goodIn_of _ (by decide +kernel)) ggX8_count_X3_shipsAllThrough
set_option maxRecDepth 20000 in
theorem ggX8_count_X3_longestWait : GoodIn wsX8_count wsX3_longestWait := goodIn_r _ [43, 19, 20, 44, 45, 46, 47, 48, 22, 9, 10, 11, 12, 13, 23, 24, 25, 26, 27, 28, 29, 30, 31, 32, 33, 34, 35, 36, 37, 38, 39, 54, 55, 56, 57, 58, 59, 60, 66, 67, 68, 69, 70, 71, 72, 73, 63, 64, 65] (by decide +kernel) (by decide +kernel)
set_option maxRecDepth 20000 in
theorem gX8_count_X3_longestWait : GoodIn wsX8_count (wsV RX8 188 RX3 yX3_longestWait wsX3_longestWait) := goodIn_app (goodIn_of _ (by decide +kernel)) ggX8_count_X3_longestWait
theorem dX8_count_0 : decode cX8_count 0 = .ok (.iload_n 1, 1) := by decide +kernel
theorem dX8_count_1 : decode cX8_count 1 = .ok (.tableswitch 108 0 6 #[43, 51, 62, 73, 84, 92, 100], 43) := by decide +kernel
theorem dX8_count_44 : decode cX8_count 44 = .ok (.aload_n 0, 1) := by decide +kernel
theorem dX8_count_45 : decode cX8_count 45 = .ok (.getfield 24, 3) := by decide +kernel
theorem dX8_count_48 : decode cX8_count 48 = .ok (.getfield 56, 3) := by decide +kernel
theorem dX8_count_51 : decode cX8_count 51 = .ok (.ireturn, 1) := by decide +kernel
theorem dX8_count_52 : decode cX8_count 52 = .ok (.aload_n 0, 1) := by decide +kernel
theorem dX8_count_53 : decode cX8_count 53 = .ok (.getfield 24, 3) := by decide +kernel
theorem dX8_count_56 : decode cX8_count 56 = .ok (.getfield 59, 3) := by decide +kernel
theorem dX8_count_59 : decode cX8_count 59 = .ok (.invokevirtual 63, 3) := by decide +kernel
theorem dX8_count_62 : decode cX8_count 62 = .ok (.ireturn, 1) := by decide +kernel
theorem dX8_count_63 : decode cX8_count 63 = .ok (.aload_n 0, 1) := by decide +kernel
theorem dX8_count_64 : decode cX8_count 64 = .ok (.getfield 24, 3) := by decide +kernel
theorem dX8_count_67 : decode cX8_count 67 = .ok (.getfield 118, 3) := by decide +kernel
theorem dX8_count_70 : decode cX8_count 70 = .ok (.invokevirtual 63, 3) := by decide +kernel
theorem dX8_count_73 : decode cX8_count 73 = .ok (.ireturn, 1) := by decide +kernel
theorem dX8_count_74 : decode cX8_count 74 = .ok (.aload_n 0, 1) := by decide +kernel
theorem dX8_count_75 : decode cX8_count 75 = .ok (.getfield 24, 3) := by decide +kernel
theorem dX8_count_78 : decode cX8_count 78 = .ok (.getfield 101, 3) := by decide +kernel
theorem dX8_count_81 : decode cX8_count 81 = .ok (.invokevirtual 63, 3) := by decide +kernel
theorem dX8_count_84 : decode cX8_count 84 = .ok (.ireturn, 1) := by decide +kernel
theorem dX8_count_85 : decode cX8_count 85 = .ok (.aload_n 0, 1) := by decide +kernel
theorem dX8_count_86 : decode cX8_count 86 = .ok (.getfield 24, 3) := by decide +kernel
theorem dX8_count_89 : decode cX8_count 89 = .ok (.invokevirtual 185, 3) := by decide +kernel
theorem dX8_count_92 : decode cX8_count 92 = .ok (.ireturn, 1) := by decide +kernel
theorem dX8_count_93 : decode cX8_count 93 = .ok (.aload_n 0, 1) := by decide +kernel
theorem dX8_count_94 : decode cX8_count 94 = .ok (.getfield 24, 3) := by decide +kernel
theorem dX8_count_97 : decode cX8_count 97 = .ok (.invokevirtual 188, 3) := by decide +kernel
theorem dX8_count_100 : decode cX8_count 100 = .ok (.ireturn, 1) := by decide +kernel
theorem dX8_count_101 : decode cX8_count 101 = .ok (.aload_n 0, 1) := by decide +kernel
theorem dX8_count_102 : decode cX8_count 102 = .ok (.getfield 20, 3) := by decide +kernel
theorem dX8_count_105 : decode cX8_count 105 = .ok (.getfield 49, 3) := by decide +kernel
theorem dX8_count_108 : decode cX8_count 108 = .ok (.ireturn, 1) := by decide +kernel
theorem dX8_count_109 : decode cX8_count 109 = .ok (.iconst (-1), 1) := by decide +kernel
theorem dX8_count_110 : decode cX8_count 110 = .ok (.ireturn, 1) := by decide +kernel
set_option maxRecDepth 20000 in
theorem ggX8_isBridge_Jx4a65c_size_8abf5 : GoodIn wsX8_isBridge wsJx4a65c_size_8abf5 := goodIn_r _ [7, 8, 25, 26, 27] (by decide +kernel) (by decide +kernel)
set_option maxRecDepth 20000 in
theorem gX8_isBridge_Jx4a65c_size_8abf5 : GoodIn wsX8_isBridge (wsV RX8 63 RJx4a65c yJx4a65c_size_8abf5 wsJx4a65c_size_8abf5) := goodIn_app (goodIn_of _ (by decide +kernel)) ggX8_isBridge_Jx4a65c_size_8abf5
set_option maxRecDepth 20000 in
theorem ggX8_isBridge_X8_isWithin : GoodIn wsX8_isBridge wsX8_isWithin := goodIn_r _ [12] (by decide +kernel) (by decide +kernel)
set_option maxRecDepth 20000 in
theorem gX8_isBridge_X8_isWithin : GoodIn wsX8_isBridge (va_wsS RX8 52 yX8_isWithin wsX8_isWithin) := goodIn_app (goodIn_of _ (by decide +kernel)) ggX8_isBridge_X8_isWithin
theorem dX8_isBridge_0 : decode cX8_isBridge 0 = .ok (.iload_n 1, 1) := by decide +kernel
theorem dX8_isBridge_1 : decode cX8_isBridge 1 = .ok (.iconst 0, 1) := by decide +kernel
theorem dX8_isBridge_2 : decode cX8_isBridge 2 = .ok (.aload_n 0, 1) := by decide +kernel
theorem dX8_isBridge_3 : decode cX8_isBridge 3 = .ok (.getfield 24, 3) := by decide +kernel
theorem dX8_isBridge_6 : decode cX8_isBridge 6 = .ok (.getfield 59, 3) := by decide +kernel
theorem dX8_isBridge_9 : decode cX8_isBridge 9 = .ok (.invokevirtual 63, 3) := by decide +kernel
theorem dX8_isBridge_12 : decode cX8_isBridge 12 = .ok (.iconst 1, 1) := by decide +kernel
theorem dX8_isBridge_13 : decode cX8_isBridge 13 = .ok (.isub, 1) := by decide +kernel
theorem dX8_isBridge_14 : decode cX8_isBridge 14 = .ok (.invokestatic 52, 3) := by decide +kernel
theorem dX8_isBridge_17 : decode cX8_isBridge 17 = .ok (.ireturn, 1) := by decide +kernel
set_option maxRecDepth 20000 in
theorem ggX8_isShip_Jx4a65c_size_8abf5 : GoodIn wsX8_isShip wsJx4a65c_size_8abf5 := goodIn_r _ [7, 8, 25, 26, 27] (by decide +kernel) (by decide +kernel)
set_option maxRecDepth 20000 in
theorem gX8_isShip_Jx4a65c_size_8abf5 : GoodIn wsX8_isShip (wsV RX8 63 RJx4a65c yJx4a65c_size_8abf5 wsJx4a65c_size_8abf5) := goodIn_app (goodIn_of _ (by decide +kernel)) ggX8_isShip_Jx4a65c_size_8abf5
set_option maxRecDepth 20000 in
theorem ggX8_isShip_X8_isWithin : GoodIn wsX8_isShip wsX8_isWithin := goodIn_r _ [12] (by decide +kernel) (by decide +kernel)
set_option maxRecDepth 20000 in
theorem gX8_isShip_X8_isWithin : GoodIn wsX8_isShip (va_wsS RX8 52 yX8_isWithin wsX8_isWithin) := goodIn_app (goodIn_of _ (by decide +kernel)) ggX8_isShip_X8_isWithin
theorem dX8_isShip_0 : decode cX8_isShip 0 = .ok (.iload_n 1, 1) := by decide +kernel
theorem dX8_isShip_1 : decode cX8_isShip 1 = .ok (.iconst 0, 1) := by decide +kernel
theorem dX8_isShip_2 : decode cX8_isShip 2 = .ok (.aload_n 0, 1) := by decide +kernel
theorem dX8_isShip_3 : decode cX8_isShip 3 = .ok (.getfield 24, 3) := by decide +kernel
theorem dX8_isShip_6 : decode cX8_isShip 6 = .ok (.getfield 118, 3) := by decide +kernel
theorem dX8_isShip_9 : decode cX8_isShip 9 = .ok (.invokevirtual 63, 3) := by decide +kernel
theorem dX8_isShip_12 : decode cX8_isShip 12 = .ok (.iconst 1, 1) := by decide +kernel
theorem dX8_isShip_13 : decode cX8_isShip 13 = .ok (.isub, 1) := by decide +kernel
theorem dX8_isShip_14 : decode cX8_isShip 14 = .ok (.invokestatic 52, 3) := by decide +kernel
theorem dX8_isShip_17 : decode cX8_isShip 17 = .ok (.ireturn, 1) := by decide +kernel
theorem dX8_isWithin_0 : decode cX8_isWithin 0 = .ok (.iload_n 0, 1) := by decide +kernel
theorem dX8_isWithin_1 : decode cX8_isWithin 1 = .ok (.iload_n 1, 1) := by decide +kernel
theorem dX8_isWithin_2 : decode cX8_isWithin 2 = .ok (.if_icmp .lt 12, 3) := by decide +kernel
theorem dX8_isWithin_5 : decode cX8_isWithin 5 = .ok (.iload_n 0, 1) := by decide +kernel
theorem dX8_isWithin_6 : decode cX8_isWithin 6 = .ok (.iload_n 2, 1) := by decide +kernel
theorem dX8_isWithin_7 : decode cX8_isWithin 7 = .ok (.if_icmp .gt 7, 3) := by decide +kernel
theorem dX8_isWithin_10 : decode cX8_isWithin 10 = .ok (.iconst 1, 1) := by decide +kernel
theorem dX8_isWithin_11 : decode cX8_isWithin 11 = .ok (.goto 4, 3) := by decide +kernel
theorem dX8_isWithin_14 : decode cX8_isWithin 14 = .ok (.iconst 0, 1) := by decide +kernel
theorem dX8_isWithin_15 : decode cX8_isWithin 15 = .ok (.ireturn, 1) := by decide +kernel
theorem dX9_init_0 : decode cX9_init 0 = .ok (.aload_n 0, 1) := by decide +kernel
theorem dX9_init_1 : decode cX9_init 1 = .ok (.invokespecial 1, 3) := by decide +kernel
theorem dX9_init_4 : decode cX9_init 4 = .ok (.aload_n 0, 1) := by decide +kernel
theorem dX9_init_5 : decode cX9_init 5 = .ok (.sipush 440, 3) := by decide +kernel
theorem dX9_init_8 : decode cX9_init 8 = .ok (.newarray .byte, 2) := by decide +kernel
theorem dX9_init_10 : decode cX9_init 10 = .ok (.putfield 7, 3) := by decide +kernel
theorem dX9_init_13 : decode cX9_init 13 = .ok (.aload_n 0, 1) := by decide +kernel
theorem dX9_init_14 : decode cX9_init 14 = .ok (.bipush 8, 2) := by decide +kernel
theorem dX9_init_16 : decode cX9_init 16 = .ok (.newarray .int, 2) := by decide +kernel
theorem dX9_init_18 : decode cX9_init 18 = .ok (.putfield 13, 3) := by decide +kernel
theorem dX9_init_21 : decode cX9_init 21 = .ok (.aload_n 0, 1) := by decide +kernel
theorem dX9_init_22 : decode cX9_init 22 = .ok (.bipush 8, 2) := by decide +kernel
theorem dX9_init_24 : decode cX9_init 24 = .ok (.newarray .int, 2) := by decide +kernel
theorem dX9_init_26 : decode cX9_init 26 = .ok (.putfield 17, 3) := by decide +kernel
theorem dX9_init_29 : decode cX9_init 29 = .ok (.aload_n 0, 1) := by decide +kernel
theorem dX9_init_30 : decode cX9_init 30 = .ok (.bipush 8, 2) := by decide +kernel
theorem dX9_init_32 : decode cX9_init 32 = .ok (.newarray .int, 2) := by decide +kernel
theorem dX9_init_34 : decode cX9_init 34 = .ok (.putfield 20, 3) := by decide +kernel
theorem dX9_init_37 : decode cX9_init 37 = .ok (.aload_n 0, 1) := by decide +kernel
theorem dX9_init_38 : decode cX9_init 38 = .ok (.bipush 8, 2) := by decide +kernel
theorem dX9_init_40 : decode cX9_init 40 = .ok (.newarray .int, 2) := by decide +kernel
theorem dX9_init_42 : decode cX9_init 42 = .ok (.putfield 23, 3) := by decide +kernel
theorem dX9_init_45 : decode cX9_init 45 = .ok (.aload_n 0, 1) := by decide +kernel
theorem dX9_init_46 : decode cX9_init 46 = .ok (.bipush 8, 2) := by decide +kernel
theorem dX9_init_48 : decode cX9_init 48 = .ok (.newarray .int, 2) := by decide +kernel
theorem dX9_init_50 : decode cX9_init 50 = .ok (.putfield 26, 3) := by decide +kernel
theorem dX9_init_53 : decode cX9_init 53 = .ok (.aload_n 0, 1) := by decide +kernel
theorem dX9_init_54 : decode cX9_init 54 = .ok (.bipush 8, 2) := by decide +kernel
theorem dX9_init_56 : decode cX9_init 56 = .ok (.newarray .int, 2) := by decide +kernel
theorem dX9_init_58 : decode cX9_init 58 = .ok (.putfield 29, 3) := by decide +kernel
theorem dX9_init_61 : decode cX9_init 61 = .ok (.aload_n 0, 1) := by decide +kernel
theorem dX9_init_62 : decode cX9_init 62 = .ok (.bipush 8, 2) := by decide +kernel
theorem dX9_init_64 : decode cX9_init 64 = .ok (.newarray .int, 2) := by decide +kernel
theorem dX9_init_66 : decode cX9_init 66 = .ok (.putfield 32, 3) := by decide +kernel
theorem dX9_init_69 : decode cX9_init 69 = .ok (.aload_n 0, 1) := by decide +kernel
theorem dX9_init_70 : decode cX9_init 70 = .ok (.bipush 8, 2) := by decide +kernel
theorem dX9_init_72 : decode cX9_init 72 = .ok (.newarray .int, 2) := by decide +kernel
theorem dX9_init_74 : decode cX9_init 74 = .ok (.putfield 35, 3) := by decide +kernel
theorem dX9_init_77 : decode cX9_init 77 = .ok (.aload_n 0, 1) := by decide +kernel
theorem dX9_init_78 : decode cX9_init 78 = .ok (.bipush 8, 2) := by decide +kernel
theorem dX9_init_80 : decode cX9_init 80 = .ok (.newarray .int, 2) := by decide +kernel
theorem dX9_init_82 : decode cX9_init 82 = .ok (.putfield 38, 3) := by decide +kernel
theorem dX9_init_85 : decode cX9_init 85 = .ok (.aload_n 0, 1) := by decide +kernel
theorem dX9_init_86 : decode cX9_init 86 = .ok (.bipush 8, 2) := by decide +kernel
theorem dX9_init_88 : decode cX9_init 88 = .ok (.newarray .int, 2) := by decide +kernel
theorem dX9_init_90 : decode cX9_init 90 = .ok (.putfield 41, 3) := by decide +kernel
theorem dX9_init_93 : decode cX9_init 93 = .ok (.aload_n 0, 1) := by decide +kernel
theorem dX9_init_94 : decode cX9_init 94 = .ok (.bipush 8, 2) := by decide +kernel
theorem dX9_init_96 : decode cX9_init 96 = .ok (.newarray .int, 2) := by decide +kernel
theorem dX9_init_98 : decode cX9_init 98 = .ok (.putfield 44, 3) := by decide +kernel
theorem dX9_init_101 : decode cX9_init 101 = .ok (.aload_n 0, 1) := by decide +kernel
theorem dX9_init_102 : decode cX9_init 102 = .ok (.bipush 25, 2) := by decide +kernel
theorem dX9_init_104 : decode cX9_init 104 = .ok (.newarray .int, 2) := by decide +kernel
theorem dX9_init_106 : decode cX9_init 106 = .ok (.putfield 47, 3) := by decide +kernel
theorem dX9_init_109 : decode cX9_init 109 = .ok (.aload_n 0, 1) := by decide +kernel
theorem dX9_init_110 : decode cX9_init 110 = .ok (.iconst 5, 1) := by decide +kernel
theorem dX9_init_111 : decode cX9_init 111 = .ok (.putfield 50, 3) := by decide +kernel
theorem dX9_init_114 : decode cX9_init 114 = .ok (.aload_n 0, 1) := by decide +kernel
theorem dX9_init_115 : decode cX9_init 115 = .ok (.sipush 192, 3) := by decide +kernel
theorem dX9_init_118 : decode cX9_init 118 = .ok (.newarray .int, 2) := by decide +kernel
theorem dX9_init_120 : decode cX9_init 120 = .ok (.putfield 54, 3) := by decide +kernel
theorem dX9_init_123 : decode cX9_init 123 = .ok (.aload_n 0, 1) := by decide +kernel
theorem dX9_init_124 : decode cX9_init 124 = .ok (.sipush 192, 3) := by decide +kernel
theorem dX9_init_127 : decode cX9_init 127 = .ok (.newarray .int, 2) := by decide +kernel
theorem dX9_init_129 : decode cX9_init 129 = .ok (.putfield 57, 3) := by decide +kernel
theorem dX9_init_132 : decode cX9_init 132 = .ok (.aload_n 0, 1) := by decide +kernel
theorem dX9_init_133 : decode cX9_init 133 = .ok (.bipush 16, 2) := by decide +kernel
theorem dX9_init_135 : decode cX9_init 135 = .ok (.newarray .int, 2) := by decide +kernel
theorem dX9_init_137 : decode cX9_init 137 = .ok (.putfield 60, 3) := by decide +kernel
theorem dX9_init_140 : decode cX9_init 140 = .ok (.aload_n 0, 1) := by decide +kernel
theorem dX9_init_141 : decode cX9_init 141 = .ok (.bipush 8, 2) := by decide +kernel
theorem dX9_init_143 : decode cX9_init 143 = .ok (.newarray .boolean, 2) := by decide +kernel
theorem dX9_init_145 : decode cX9_init 145 = .ok (.putfield 63, 3) := by decide +kernel
theorem dX9_init_148 : decode cX9_init 148 = .ok (.aload_n 0, 1) := by decide +kernel
theorem dX9_init_149 : decode cX9_init 149 = .ok (.bipush 40, 2) := by decide +kernel
theorem dX9_init_151 : decode cX9_init 151 = .ok (.newarray .int, 2) := by decide +kernel
theorem dX9_init_153 : decode cX9_init 153 = .ok (.putfield 67, 3) := by decide +kernel
theorem dX9_init_156 : decode cX9_init 156 = .ok (.aload_n 0, 1) := by decide +kernel
theorem dX9_init_157 : decode cX9_init 157 = .ok (.bipush 40, 2) := by decide +kernel
theorem dX9_init_159 : decode cX9_init 159 = .ok (.newarray .int, 2) := by decide +kernel
theorem dX9_init_161 : decode cX9_init 161 = .ok (.putfield 70, 3) := by decide +kernel
theorem dX9_init_164 : decode cX9_init 164 = .ok (.aload_n 0, 1) := by decide +kernel
theorem dX9_init_165 : decode cX9_init 165 = .ok (.bipush 40, 2) := by decide +kernel
theorem dX9_init_167 : decode cX9_init 167 = .ok (.newarray .int, 2) := by decide +kernel
theorem dX9_init_169 : decode cX9_init 169 = .ok (.putfield 73, 3) := by decide +kernel
theorem dX9_init_172 : decode cX9_init 172 = .ok (.aload_n 0, 1) := by decide +kernel
theorem dX9_init_173 : decode cX9_init 173 = .ok (.bipush 40, 2) := by decide +kernel
theorem dX9_init_175 : decode cX9_init 175 = .ok (.newarray .int, 2) := by decide +kernel
theorem dX9_init_177 : decode cX9_init 177 = .ok (.putfield 76, 3) := by decide +kernel
theorem dX9_init_180 : decode cX9_init 180 = .ok (.aload_n 0, 1) := by decide +kernel
theorem dX9_init_181 : decode cX9_init 181 = .ok (.bipush 40, 2) := by decide +kernel
theorem dX9_init_183 : decode cX9_init 183 = .ok (.newarray .int, 2) := by decide +kernel
theorem dX9_init_185 : decode cX9_init 185 = .ok (.putfield 79, 3) := by decide +kernel
theorem dX9_init_188 : decode cX9_init 188 = .ok (.aload_n 0, 1) := by decide +kernel
theorem dX9_init_189 : decode cX9_init 189 = .ok (.bipush 40, 2) := by decide +kernel
theorem dX9_init_191 : decode cX9_init 191 = .ok (.newarray .int, 2) := by decide +kernel
theorem dX9_init_193 : decode cX9_init 193 = .ok (.putfield 82, 3) := by decide +kernel
theorem dX9_init_196 : decode cX9_init 196 = .ok (.aload_n 0, 1) := by decide +kernel
theorem dX9_init_197 : decode cX9_init 197 = .ok (.bipush 40, 2) := by decide +kernel
theorem dX9_init_199 : decode cX9_init 199 = .ok (.newarray .int, 2) := by decide +kernel
theorem dX9_init_201 : decode cX9_init 201 = .ok (.putfield 85, 3) := by decide +kernel
theorem dX9_init_204 : decode cX9_init 204 = .ok (.aload_n 0, 1) := by decide +kernel
theorem dX9_init_205 : decode cX9_init 205 = .ok (.sipush 320, 3) := by decide +kernel
theorem dX9_init_208 : decode cX9_init 208 = .ok (.newarray .int, 2) := by decide +kernel
theorem dX9_init_210 : decode cX9_init 210 = .ok (.putfield 88, 3) := by decide +kernel
theorem dX9_init_213 : decode cX9_init 213 = .ok (.aload_n 0, 1) := by decide +kernel
theorem dX9_init_214 : decode cX9_init 214 = .ok (.bipush 40, 2) := by decide +kernel
theorem dX9_init_216 : decode cX9_init 216 = .ok (.newarray .boolean, 2) := by decide +kernel
theorem dX9_init_218 : decode cX9_init 218 = .ok (.putfield 91, 3) := by decide +kernel
theorem dX9_init_221 : decode cX9_init 221 = .ok (.aload_n 0, 1) := by decide +kernel
theorem dX9_init_222 : decode cX9_init 222 = .ok (.iconst 4, 1) := by decide +kernel
theorem dX9_init_223 : decode cX9_init 223 = .ok (.newarray .int, 2) := by decide +kernel
theorem dX9_init_225 : decode cX9_init 225 = .ok (.putfield 94, 3) := by decide +kernel
theorem dX9_init_228 : decode cX9_init 228 = .ok (.aload_n 0, 1) := by decide +kernel
theorem dX9_init_229 : decode cX9_init 229 = .ok (.iconst 4, 1) := by decide +kernel
theorem dX9_init_230 : decode cX9_init 230 = .ok (.newarray .int, 2) := by decide +kernel
theorem dX9_init_232 : decode cX9_init 232 = .ok (.putfield 97, 3) := by decide +kernel
theorem dX9_init_235 : decode cX9_init 235 = .ok (.aload_n 0, 1) := by decide +kernel
theorem dX9_init_236 : decode cX9_init 236 = .ok (.iconst 4, 1) := by decide +kernel
theorem dX9_init_237 : decode cX9_init 237 = .ok (.newarray .int, 2) := by decide +kernel
theorem dX9_init_239 : decode cX9_init 239 = .ok (.putfield 100, 3) := by decide +kernel
theorem dX9_init_242 : decode cX9_init 242 = .ok (.return_, 1) := by decide +kernel
theorem dX9_thrown_0 : decode cX9_thrown 0 = .ok (.aload_n 0, 1) := by decide +kernel
theorem dX9_thrown_1 : decode cX9_thrown 1 = .ok (.getfield 103, 3) := by decide +kernel
theorem dX9_thrown_4 : decode cX9_thrown 4 = .ok (.ireturn, 1) := by decide +kernel
theorem dX9_throwsIf_0 : decode cX9_throwsIf 0 = .ok (.aload_n 0, 1) := by decide +kernel
theorem dX9_throwsIf_1 : decode cX9_throwsIf 1 = .ok (.iload_n 1, 1) := by decide +kernel
theorem dX9_throwsIf_2 : decode cX9_throwsIf 2 = .ok (.ifCond .eq 7, 3) := by decide +kernel
theorem dX9_throwsIf_5 : decode cX9_throwsIf 5 = .ok (.iconst 1, 1) := by decide +kernel
theorem dX9_throwsIf_6 : decode cX9_throwsIf 6 = .ok (.goto 4, 3) := by decide +kernel
theorem dX9_throwsIf_9 : decode cX9_throwsIf 9 = .ok (.iconst 0, 1) := by decide +kernel
theorem dX9_throwsIf_10 : decode cX9_throwsIf 10 = .ok (.putfield 103, 3) := by decide +kernel
theorem dX9_throwsIf_13 : decode cX9_throwsIf 13 = .ok (.iload_n 1, 1) := by decide +kernel
theorem dX9_throwsIf_14 : decode cX9_throwsIf 14 = .ok (.ireturn, 1) := by decide +kernel
set_option maxRecDepth 20000 in
theorem ggX9_feed_X9_four : GoodIn wsX9_feed wsX9_four := goodIn_r _ [7, 8, 2, 9, 10, 11, 12, 13, 14, 15, 16, 17, 18, 19, 20, 21, 22, 23, 24, 25, 26, 27, 28, 29, 30, 31, 32, 33, 34, 35, 36, 37, 38, 39, 40, 41, 42, 43, 44, 45, 46, 47, 48, 49, 50, 51, 52, 53] (by decide +kernel) (by decide +kernel)
set_option maxRecDepth 20000 in
theorem gX9_feed_X9_four : GoodIn wsX9_feed (wsV RX9 109 RX9 yX9_four wsX9_four) := goodIn_app (goodIn_of _ (by decide +kernel)) ggX9_feed_X9_four
theorem dX9_feed_0 : decode cX9_feed 0 = .ok (.aload_n 0, 1) := by decide +kernel
theorem dX9_feed_1 : decode cX9_feed 1 = .ok (.iconst 0, 1) := by decide +kernel
theorem dX9_feed_2 : decode cX9_feed 2 = .ok (.putfield 103, 3) := by decide +kernel
theorem dX9_feed_5 : decode cX9_feed 5 = .ok (.aload_n 0, 1) := by decide +kernel
theorem dX9_feed_6 : decode cX9_feed 6 = .ok (.getfield 106, 3) := by decide +kernel
theorem dX9_feed_9 : decode cX9_feed 9 = .ok (.bipush 20, 2) := by decide +kernel
theorem dX9_feed_11 : decode cX9_feed 11 = .ok (.iadd, 1) := by decide +kernel
theorem dX9_feed_12 : decode cX9_feed 12 = .ok (.sipush 440, 3) := by decide +kernel
theorem dX9_feed_15 : decode cX9_feed 15 = .ok (.if_icmp .le 5, 3) := by decide +kernel
theorem dX9_feed_18 : decode cX9_feed 18 = .ok (.iconst (-1), 1) := by decide +kernel
theorem dX9_feed_19 : decode cX9_feed 19 = .ok (.ireturn, 1) := by decide +kernel
theorem dX9_feed_20 : decode cX9_feed 20 = .ok (.aload_n 0, 1) := by decide +kernel
theorem dX9_feed_21 : decode cX9_feed 21 = .ok (.iload_n 1, 1) := by decide +kernel
theorem dX9_feed_22 : decode cX9_feed 22 = .ok (.invokevirtual 109, 3) := by decide +kernel
theorem dX9_feed_25 : decode cX9_feed 25 = .ok (.aload_n 0, 1) := by decide +kernel
theorem dX9_feed_26 : decode cX9_feed 26 = .ok (.iload_n 2, 1) := by decide +kernel
theorem dX9_feed_27 : decode cX9_feed 27 = .ok (.invokevirtual 109, 3) := by decide +kernel
theorem dX9_feed_30 : decode cX9_feed 30 = .ok (.aload_n 0, 1) := by decide +kernel
theorem dX9_feed_31 : decode cX9_feed 31 = .ok (.iload_n 3, 1) := by decide +kernel
theorem dX9_feed_32 : decode cX9_feed 32 = .ok (.invokevirtual 109, 3) := by decide +kernel
theorem dX9_feed_35 : decode cX9_feed 35 = .ok (.aload_n 0, 1) := by decide +kernel
theorem dX9_feed_36 : decode cX9_feed 36 = .ok (.iload 4, 2) := by decide +kernel
theorem dX9_feed_38 : decode cX9_feed 38 = .ok (.invokevirtual 109, 3) := by decide +kernel
theorem dX9_feed_41 : decode cX9_feed 41 = .ok (.aload_n 0, 1) := by decide +kernel
theorem dX9_feed_42 : decode cX9_feed 42 = .ok (.iload 5, 2) := by decide +kernel
theorem dX9_feed_44 : decode cX9_feed 44 = .ok (.invokevirtual 109, 3) := by decide +kernel
theorem dX9_feed_47 : decode cX9_feed 47 = .ok (.aload_n 0, 1) := by decide +kernel
theorem dX9_feed_48 : decode cX9_feed 48 = .ok (.getfield 106, 3) := by decide +kernel
theorem dX9_feed_51 : decode cX9_feed 51 = .ok (.ireturn, 1) := by decide +kernel
theorem dX9_four_0 : decode cX9_four 0 = .ok (.bipush 24, 2) := by decide +kernel
theorem dX9_four_2 : decode cX9_four 2 = .ok (.istore_n 2, 1) := by decide +kernel
theorem dX9_four_3 : decode cX9_four 3 = .ok (.iload_n 2, 1) := by decide +kernel
theorem dX9_four_4 : decode cX9_four 4 = .ok (.ifCond .lt 32, 3) := by decide +kernel
theorem dX9_four_7 : decode cX9_four 7 = .ok (.aload_n 0, 1) := by decide +kernel
theorem dX9_four_8 : decode cX9_four 8 = .ok (.getfield 7, 3) := by decide +kernel
theorem dX9_four_11 : decode cX9_four 11 = .ok (.aload_n 0, 1) := by decide +kernel
theorem dX9_four_12 : decode cX9_four 12 = .ok (.getfield 106, 3) := by decide +kernel
theorem dX9_four_15 : decode cX9_four 15 = .ok (.iload_n 1, 1) := by decide +kernel
theorem dX9_four_16 : decode cX9_four 16 = .ok (.iload_n 2, 1) := by decide +kernel
theorem dX9_four_17 : decode cX9_four 17 = .ok (.ishr, 1) := by decide +kernel
theorem dX9_four_18 : decode cX9_four 18 = .ok (.i2b, 1) := by decide +kernel
theorem dX9_four_19 : decode cX9_four 19 = .ok (.bastore, 1) := by decide +kernel
theorem dX9_four_20 : decode cX9_four 20 = .ok (.aload_n 0, 1) := by decide +kernel
theorem dX9_four_21 : decode cX9_four 21 = .ok (.dup, 1) := by decide +kernel
theorem dX9_four_22 : decode cX9_four 22 = .ok (.getfield 106, 3) := by decide +kernel
theorem dX9_four_25 : decode cX9_four 25 = .ok (.iconst 1, 1) := by decide +kernel
theorem dX9_four_26 : decode cX9_four 26 = .ok (.iadd, 1) := by decide +kernel
theorem dX9_four_27 : decode cX9_four 27 = .ok (.putfield 106, 3) := by decide +kernel
theorem dX9_four_30 : decode cX9_four 30 = .ok (.iinc 2 (-8), 3) := by decide +kernel
theorem dX9_four_33 : decode cX9_four 33 = .ok (.goto (-30), 3) := by decide +kernel
theorem dX9_four_36 : decode cX9_four 36 = .ok (.return_, 1) := by decide +kernel
theorem dX9_end_0 : decode cX9_end 0 = .ok (.aload_n 0, 1) := by decide +kernel
theorem dX9_end_1 : decode cX9_end 1 = .ok (.iconst 0, 1) := by decide +kernel
theorem dX9_end_2 : decode cX9_end 2 = .ok (.putfield 103, 3) := by decide +kernel
theorem dX9_end_5 : decode cX9_end 5 = .ok (.iload_n 1, 1) := by decide +kernel
theorem dX9_end_6 : decode cX9_end 6 = .ok (.ifCond .lt 11, 3) := by decide +kernel
theorem dX9_end_9 : decode cX9_end 9 = .ok (.iload_n 1, 1) := by decide +kernel
theorem dX9_end_10 : decode cX9_end 10 = .ok (.aload_n 0, 1) := by decide +kernel
theorem dX9_end_11 : decode cX9_end 11 = .ok (.getfield 106, 3) := by decide +kernel
theorem dX9_end_14 : decode cX9_end 14 = .ok (.if_icmp .le 5, 3) := by decide +kernel
theorem dX9_end_17 : decode cX9_end 17 = .ok (.iconst 0, 1) := by decide +kernel
theorem dX9_end_18 : decode cX9_end 18 = .ok (.ireturn, 1) := by decide +kernel
theorem dX9_end_19 : decode cX9_end 19 = .ok (.aload_n 0, 1) := by decide +kernel
theorem dX9_end_20 : decode cX9_end 20 = .ok (.iload_n 1, 1) := by decide +kernel
theorem dX9_end_21 : decode cX9_end 21 = .ok (.putfield 106, 3) := by decide +kernel
theorem dX9_end_24 : decode cX9_end 24 = .ok (.iconst 1, 1) := by decide +kernel
theorem dX9_end_25 : decode cX9_end 25 = .ok (.ireturn, 1) := by decide +kernel
theorem dX9_taken_0 : decode cX9_taken 0 = .ok (.aload_n 0, 1) := by decide +kernel
theorem dX9_taken_1 : decode cX9_taken 1 = .ok (.aload_n 0, 1) := by decide +kernel
theorem dX9_taken_2 : decode cX9_taken 2 = .ok (.getfield 106, 3) := by decide +kernel
theorem dX9_taken_5 : decode cX9_taken 5 = .ok (.putfield 113, 3) := by decide +kernel
theorem dX9_taken_8 : decode cX9_taken 8 = .ok (.aload_n 0, 1) := by decide +kernel
theorem dX9_taken_9 : decode cX9_taken 9 = .ok (.iconst 0, 1) := by decide +kernel
theorem dX9_taken_10 : decode cX9_taken 10 = .ok (.putfield 106, 3) := by decide +kernel
theorem dX9_taken_13 : decode cX9_taken 13 = .ok (.aload_n 0, 1) := by decide +kernel
theorem dX9_taken_14 : decode cX9_taken 14 = .ok (.iconst 0, 1) := by decide +kernel
theorem dX9_taken_15 : decode cX9_taken 15 = .ok (.putfield 116, 3) := by decide +kernel
theorem dX9_taken_18 : decode cX9_taken 18 = .ok (.return_, 1) := by decide +kernel
theorem dX9_isIn_0 : decode cX9_isIn 0 = .ok (.iload_n 0, 1) := by decide +kernel
theorem dX9_isIn_1 : decode cX9_isIn 1 = .ok (.iload_n 1, 1) := by decide +kernel
theorem dX9_isIn_2 : decode cX9_isIn 2 = .ok (.if_icmp .lt 12, 3) := by decide +kernel
theorem dX9_isIn_5 : decode cX9_isIn 5 = .ok (.iload_n 0, 1) := by decide +kernel
theorem dX9_isIn_6 : decode cX9_isIn 6 = .ok (.iload_n 2, 1) := by decide +kernel
theorem dX9_isIn_7 : decode cX9_isIn 7 = .ok (.if_icmp .gt 7, 3) := by decide +kernel
theorem dX9_isIn_10 : decode cX9_isIn 10 = .ok (.iconst 1, 1) := by decide +kernel
theorem dX9_isIn_11 : decode cX9_isIn 11 = .ok (.goto 4, 3) := by decide +kernel
theorem dX9_isIn_14 : decode cX9_isIn 14 = .ok (.iconst 0, 1) := by decide +kernel
theorem dX9_isIn_15 : decode cX9_isIn 15 = .ok (.ireturn, 1) := by decide +kernel
theorem dX9_isBridge_0 : decode cX9_isBridge 0 = .ok (.iload_n 1, 1) := by decide +kernel
theorem dX9_isBridge_1 : decode cX9_isBridge 1 = .ok (.ifCond .lt 15, 3) := by decide +kernel
theorem dX9_isBridge_4 : decode cX9_isBridge 4 = .ok (.iload_n 1, 1) := by decide +kernel
theorem dX9_isBridge_5 : decode cX9_isBridge 5 = .ok (.aload_n 0, 1) := by decide +kernel
theorem dX9_isBridge_6 : decode cX9_isBridge 6 = .ok (.getfield 119, 3) := by decide +kernel
theorem dX9_isBridge_9 : decode cX9_isBridge 9 = .ok (.if_icmp .ge 7, 3) := by decide +kernel
theorem dX9_isBridge_12 : decode cX9_isBridge 12 = .ok (.iconst 1, 1) := by decide +kernel
theorem dX9_isBridge_13 : decode cX9_isBridge 13 = .ok (.goto 4, 3) := by decide +kernel
theorem dX9_isBridge_16 : decode cX9_isBridge 16 = .ok (.iconst 0, 1) := by decide +kernel
theorem dX9_isBridge_17 : decode cX9_isBridge 17 = .ok (.ireturn, 1) := by decide +kernel
set_option maxRecDepth 20000 in
theorem ggX9_bridge_X9_isIn : GoodIn wsX9_bridge wsX9_isIn := goodIn_r _ [14] (by decide +kernel) (by decide +kernel)
set_option maxRecDepth 20000 in
theorem gX9_bridge_X9_isIn : GoodIn wsX9_bridge (va_wsS RX9 125 yX9_isIn wsX9_isIn) := goodIn_app (goodIn_of _ (by decide +kernel)) ggX9_bridge_X9_isIn
theorem dX9_bridge_0 : decode cX9_bridge 0 = .ok (.aload_n 0, 1) := by decide +kernel
theorem dX9_bridge_1 : decode cX9_bridge 1 = .ok (.iconst 0, 1) := by decide +kernel
theorem dX9_bridge_2 : decode cX9_bridge 2 = .ok (.putfield 103, 3) := by decide +kernel
theorem dX9_bridge_5 : decode cX9_bridge 5 = .ok (.aload_n 0, 1) := by decide +kernel
theorem dX9_bridge_6 : decode cX9_bridge 6 = .ok (.getfield 119, 3) := by decide +kernel
theorem dX9_bridge_9 : decode cX9_bridge 9 = .ok (.bipush 8, 2) := by decide +kernel
theorem dX9_bridge_11 : decode cX9_bridge 11 = .ok (.if_icmp .eq 74, 3) := by decide +kernel
theorem dX9_bridge_14 : decode cX9_bridge 14 = .ok (.aload_n 0, 1) := by decide +kernel
theorem dX9_bridge_15 : decode cX9_bridge 15 = .ok (.getfield 122, 3) := by decide +kernel
theorem dX9_bridge_18 : decode cX9_bridge 18 = .ok (.ifCond .ne 67, 3) := by decide +kernel
theorem dX9_bridge_21 : decode cX9_bridge 21 = .ok (.iload_n 1, 1) := by decide +kernel
theorem dX9_bridge_22 : decode cX9_bridge 22 = .ok (.iconst 0, 1) := by decide +kernel
theorem dX9_bridge_23 : decode cX9_bridge 23 = .ok (.sipush 400, 3) := by decide +kernel
theorem dX9_bridge_26 : decode cX9_bridge 26 = .ok (.invokestatic 125, 3) := by decide +kernel
theorem dX9_bridge_29 : decode cX9_bridge 29 = .ok (.ifCond .eq 56, 3) := by decide +kernel
theorem dX9_bridge_32 : decode cX9_bridge 32 = .ok (.iload_n 2, 1) := by decide +kernel
theorem dX9_bridge_33 : decode cX9_bridge 33 = .ok (.iconst 1, 1) := by decide +kernel
theorem dX9_bridge_34 : decode cX9_bridge 34 = .ok (.bipush 9, 2) := by decide +kernel
theorem dX9_bridge_36 : decode cX9_bridge 36 = .ok (.invokestatic 125, 3) := by decide +kernel
theorem dX9_bridge_39 : decode cX9_bridge 39 = .ok (.ifCond .eq 46, 3) := by decide +kernel
theorem dX9_bridge_42 : decode cX9_bridge 42 = .ok (.iload_n 3, 1) := by decide +kernel
theorem dX9_bridge_43 : decode cX9_bridge 43 = .ok (.iconst 1, 1) := by decide +kernel
theorem dX9_bridge_44 : decode cX9_bridge 44 = .ok (.bipush 9, 2) := by decide +kernel
theorem dX9_bridge_46 : decode cX9_bridge 46 = .ok (.invokestatic 125, 3) := by decide +kernel
theorem dX9_bridge_49 : decode cX9_bridge 49 = .ok (.ifCond .eq 36, 3) := by decide +kernel
theorem dX9_bridge_52 : decode cX9_bridge 52 = .ok (.iload 4, 2) := by decide +kernel
theorem dX9_bridge_54 : decode cX9_bridge 54 = .ok (.iconst 1, 1) := by decide +kernel
theorem dX9_bridge_55 : decode cX9_bridge 55 = .ok (.bipush 60, 2) := by decide +kernel
theorem dX9_bridge_57 : decode cX9_bridge 57 = .ok (.invokestatic 125, 3) := by decide +kernel
theorem dX9_bridge_60 : decode cX9_bridge 60 = .ok (.ifCond .eq 25, 3) := by decide +kernel
theorem dX9_bridge_63 : decode cX9_bridge 63 = .ok (.iload 5, 2) := by decide +kernel
theorem dX9_bridge_65 : decode cX9_bridge 65 = .ok (.iconst 0, 1) := by decide +kernel
theorem dX9_bridge_66 : decode cX9_bridge 66 = .ok (.bipush 60, 2) := by decide +kernel
theorem dX9_bridge_68 : decode cX9_bridge 68 = .ok (.invokestatic 125, 3) := by decide +kernel
theorem dX9_bridge_71 : decode cX9_bridge 71 = .ok (.ifCond .eq 14, 3) := by decide +kernel
theorem dX9_bridge_74 : decode cX9_bridge 74 = .ok (.iload 6, 2) := by decide +kernel
theorem dX9_bridge_76 : decode cX9_bridge 76 = .ok (.iconst 1, 1) := by decide +kernel
theorem dX9_bridge_77 : decode cX9_bridge 77 = .ok (.bipush 99, 2) := by decide +kernel
theorem dX9_bridge_79 : decode cX9_bridge 79 = .ok (.invokestatic 125, 3) := by decide +kernel
theorem dX9_bridge_82 : decode cX9_bridge 82 = .ok (.ifCond .ne 5, 3) := by decide +kernel
theorem dX9_bridge_85 : decode cX9_bridge 85 = .ok (.iconst (-1), 1) := by decide +kernel
theorem dX9_bridge_86 : decode cX9_bridge 86 = .ok (.ireturn, 1) := by decide +kernel
theorem dX9_bridge_87 : decode cX9_bridge 87 = .ok (.aload_n 0, 1) := by decide +kernel
theorem dX9_bridge_88 : decode cX9_bridge 88 = .ok (.getfield 13, 3) := by decide +kernel
theorem dX9_bridge_91 : decode cX9_bridge 91 = .ok (.aload_n 0, 1) := by decide +kernel
theorem dX9_bridge_92 : decode cX9_bridge 92 = .ok (.getfield 119, 3) := by decide +kernel
theorem dX9_bridge_95 : decode cX9_bridge 95 = .ok (.iload_n 1, 1) := by decide +kernel
theorem dX9_bridge_96 : decode cX9_bridge 96 = .ok (.iastore, 1) := by decide +kernel
theorem dX9_bridge_97 : decode cX9_bridge 97 = .ok (.aload_n 0, 1) := by decide +kernel
theorem dX9_bridge_98 : decode cX9_bridge 98 = .ok (.getfield 17, 3) := by decide +kernel
theorem dX9_bridge_101 : decode cX9_bridge 101 = .ok (.aload_n 0, 1) := by decide +kernel
theorem dX9_bridge_102 : decode cX9_bridge 102 = .ok (.getfield 119, 3) := by decide +kernel
theorem dX9_bridge_105 : decode cX9_bridge 105 = .ok (.iload_n 2, 1) := by decide +kernel
theorem dX9_bridge_106 : decode cX9_bridge 106 = .ok (.iastore, 1) := by decide +kernel
theorem dX9_bridge_107 : decode cX9_bridge 107 = .ok (.aload_n 0, 1) := by decide +kernel
theorem dX9_bridge_108 : decode cX9_bridge 108 = .ok (.getfield 20, 3) := by decide +kernel
theorem dX9_bridge_111 : decode cX9_bridge 111 = .ok (.aload_n 0, 1) := by decide +kernel
theorem dX9_bridge_112 : decode cX9_bridge 112 = .ok (.getfield 119, 3) := by decide +kernel
theorem dX9_bridge_115 : decode cX9_bridge 115 = .ok (.iload_n 3, 1) := by decide +kernel
theorem dX9_bridge_116 : decode cX9_bridge 116 = .ok (.iastore, 1) := by decide +kernel
theorem dX9_bridge_117 : decode cX9_bridge 117 = .ok (.aload_n 0, 1) := by decide +kernel
theorem dX9_bridge_118 : decode cX9_bridge 118 = .ok (.getfield 23, 3) := by decide +kernel
theorem dX9_bridge_121 : decode cX9_bridge 121 = .ok (.aload_n 0, 1) := by decide +kernel
theorem dX9_bridge_122 : decode cX9_bridge 122 = .ok (.getfield 119, 3) := by decide +kernel
theorem dX9_bridge_125 : decode cX9_bridge 125 = .ok (.iload 4, 2) := by decide +kernel
theorem dX9_bridge_127 : decode cX9_bridge 127 = .ok (.iastore, 1) := by decide +kernel
theorem dX9_bridge_128 : decode cX9_bridge 128 = .ok (.aload_n 0, 1) := by decide +kernel
theorem dX9_bridge_129 : decode cX9_bridge 129 = .ok (.getfield 26, 3) := by decide +kernel
theorem dX9_bridge_132 : decode cX9_bridge 132 = .ok (.aload_n 0, 1) := by decide +kernel
theorem dX9_bridge_133 : decode cX9_bridge 133 = .ok (.getfield 119, 3) := by decide +kernel
theorem dX9_bridge_136 : decode cX9_bridge 136 = .ok (.iload 5, 2) := by decide +kernel
theorem dX9_bridge_138 : decode cX9_bridge 138 = .ok (.iastore, 1) := by decide +kernel
theorem dX9_bridge_139 : decode cX9_bridge 139 = .ok (.aload_n 0, 1) := by decide +kernel
theorem dX9_bridge_140 : decode cX9_bridge 140 = .ok (.getfield 29, 3) := by decide +kernel
theorem dX9_bridge_143 : decode cX9_bridge 143 = .ok (.aload_n 0, 1) := by decide +kernel
theorem dX9_bridge_144 : decode cX9_bridge 144 = .ok (.getfield 119, 3) := by decide +kernel
theorem dX9_bridge_147 : decode cX9_bridge 147 = .ok (.iload 6, 2) := by decide +kernel
theorem dX9_bridge_149 : decode cX9_bridge 149 = .ok (.iastore, 1) := by decide +kernel
theorem dX9_bridge_150 : decode cX9_bridge 150 = .ok (.aload_n 0, 1) := by decide +kernel
theorem dX9_bridge_151 : decode cX9_bridge 151 = .ok (.getfield 35, 3) := by decide +kernel
theorem dX9_bridge_154 : decode cX9_bridge 154 = .ok (.aload_n 0, 1) := by decide +kernel
theorem dX9_bridge_155 : decode cX9_bridge 155 = .ok (.getfield 119, 3) := by decide +kernel
theorem dX9_bridge_158 : decode cX9_bridge 158 = .ok (.iconst (-1), 1) := by decide +kernel
theorem dX9_bridge_159 : decode cX9_bridge 159 = .ok (.iastore, 1) := by decide +kernel
theorem dX9_bridge_160 : decode cX9_bridge 160 = .ok (.aload_n 0, 1) := by decide +kernel
theorem dX9_bridge_161 : decode cX9_bridge 161 = .ok (.dup, 1) := by decide +kernel
theorem dX9_bridge_162 : decode cX9_bridge 162 = .ok (.getfield 119, 3) := by decide +kernel
theorem dX9_bridge_165 : decode cX9_bridge 165 = .ok (.iconst 1, 1) := by decide +kernel
theorem dX9_bridge_166 : decode cX9_bridge 166 = .ok (.iadd, 1) := by decide +kernel
theorem dX9_bridge_167 : decode cX9_bridge 167 = .ok (.putfield 119, 3) := by decide +kernel
theorem dX9_bridge_170 : decode cX9_bridge 170 = .ok (.aload_n 0, 1) := by decide +kernel
theorem dX9_bridge_171 : decode cX9_bridge 171 = .ok (.getfield 119, 3) := by decide +kernel
theorem dX9_bridge_174 : decode cX9_bridge 174 = .ok (.iconst 1, 1) := by decide +kernel
theorem dX9_bridge_175 : decode cX9_bridge 175 = .ok (.isub, 1) := by decide +kernel
theorem dX9_bridge_176 : decode cX9_bridge 176 = .ok (.ireturn, 1) := by decide +kernel
set_option maxRecDepth 20000 in
theorem ggX9_tide_X9_taken : GoodIn wsX9_tide wsX9_taken := goodIn_r _ [10, 11, 3, 12, 16, 17, 18, 19, 20, 21, 22, 23, 24, 25, 26, 27, 28, 29, 30, 31, 32, 33, 34, 35, 36, 37, 38, 39, 40, 41, 42, 43, 44, 45, 46, 47, 48, 49, 50, 51, 52, 53, 54, 55, 56, 57, 58, 59, 60] (by decide +kernel) (by decide +kernel)
set_option maxRecDepth 20000 in
theorem gX9_tide_X9_taken : GoodIn wsX9_tide (wsV RX9 129 RX9 yX9_taken wsX9_taken) := goodIn_app (goodIn_of _ (by decide +kernel)) ggX9_tide_X9_taken
set_option maxRecDepth 20000 in
theorem ggX9_tide_X9_isIn : GoodIn wsX9_tide wsX9_isIn := goodIn_r _ [15] (by decide +kernel) (by decide +kernel)
set_option maxRecDepth 20000 in
theorem gX9_tide_X9_isIn : GoodIn wsX9_tide (va_wsS RX9 125 yX9_isIn wsX9_isIn) := goodIn_app (goodIn_of _ (by decide +kernel)) ggX9_tide_X9_isIn
theorem dX9_tide_0 : decode cX9_tide 0 = .ok (.aload_n 0, 1) := by decide +kernel
theorem dX9_tide_1 : decode cX9_tide 1 = .ok (.iconst 0, 1) := by decide +kernel
theorem dX9_tide_2 : decode cX9_tide 2 = .ok (.putfield 103, 3) := by decide +kernel
theorem dX9_tide_5 : decode cX9_tide 5 = .ok (.aload_n 0, 1) := by decide +kernel
theorem dX9_tide_6 : decode cX9_tide 6 = .ok (.invokevirtual 129, 3) := by decide +kernel
theorem dX9_tide_9 : decode cX9_tide 9 = .ok (.aload_n 0, 1) := by decide +kernel
theorem dX9_tide_10 : decode cX9_tide 10 = .ok (.getfield 122, 3) := by decide +kernel
theorem dX9_tide_13 : decode cX9_tide 13 = .ok (.ifCond .ne 12, 3) := by decide +kernel
theorem dX9_tide_16 : decode cX9_tide 16 = .ok (.aload_n 0, 1) := by decide +kernel
theorem dX9_tide_17 : decode cX9_tide 17 = .ok (.getfield 113, 3) := by decide +kernel
theorem dX9_tide_20 : decode cX9_tide 20 = .ok (.bipush 25, 2) := by decide +kernel
theorem dX9_tide_22 : decode cX9_tide 22 = .ok (.if_icmp .eq 5, 3) := by decide +kernel
theorem dX9_tide_25 : decode cX9_tide 25 = .ok (.iconst 0, 1) := by decide +kernel
theorem dX9_tide_26 : decode cX9_tide 26 = .ok (.ireturn, 1) := by decide +kernel
theorem dX9_tide_27 : decode cX9_tide 27 = .ok (.iconst 0, 1) := by decide +kernel
theorem dX9_tide_28 : decode cX9_tide 28 = .ok (.istore_n 1, 1) := by decide +kernel
